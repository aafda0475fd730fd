section
abbrev ti_M : Type := (Nat → Nat → Int32) × (Nat → Nat → Nat → Int32) × (Nat → Nat → Nat → Int64) × (Nat → Nat → Option Nat)
def tI (M : ti_M) (o k : Nat) : Int32 := M.1 o k
def tY (M : ti_M) (o k : Nat) : Nat → Int32 := M.2.1 o k
def tZ (M : ti_M) (o k : Nat) : Nat → Int64 := M.2.2.1 o k
def tT (M : ti_M) (o k : Nat) : Option Nat := M.2.2.2 o k
def up2 {α : Type} (f : Nat → Nat → α) (o k : Nat) (v : α) : Nat → Nat → α := fun o2 k2 => if k2 = k ∧ o2 = o then v else f o2 k2
def uI (M : ti_M) (o k : Nat) (v : Int32) : ti_M := (up2 M.1 o k v, M.2.1, M.2.2.1, M.2.2.2)
def uY (M : ti_M) (o k : Nat) (v : Nat → Int32) : ti_M := (M.1, up2 M.2.1 o k v, M.2.2.1, M.2.2.2)
def uZ (M : ti_M) (o k : Nat) (v : Nat → Int64) : ti_M := (M.1, M.2.1, up2 M.2.2.1 o k v, M.2.2.2)
def uT (M : ti_M) (o k : Nat) (v : Option Nat) : ti_M := (M.1, M.2.1, M.2.2.1, up2 M.2.2.2 o k v)
theorem tI_u (M : ti_M) (o k : Nat) (v : Int32) : tI (uI M o k v) o k = v := by simp [tI, uI, up2]
theorem tI_o (M : ti_M) (o k : Nat) (v : Int32) {o2 k2 : Nat} (h : o2 ≠ o) : tI (uI M o k v) o2 k2 = tI M o2 k2 := by simp [tI, uI, up2, h]
theorem tI_n (M : ti_M) (o k : Nat) (v : Int32) {o2 k2 : Nat} (h : ¬ (k2 = k ∧ o2 = o)) : tI (uI M o k v) o2 k2 = tI M o2 k2 := by simp only [tI, uI, up2, if_neg h]
theorem tY_u (M : ti_M) (o k : Nat) (v : Nat → Int32) : tY (uY M o k v) o k = v := by simp [tY, uY, up2]
theorem tY_n (M : ti_M) (o k : Nat) (v : Nat → Int32) {o2 k2 : Nat} (h : ¬ (k2 = k ∧ o2 = o)) : tY (uY M o k v) o2 k2 = tY M o2 k2 := by simp only [tY, uY, up2, if_neg h]
theorem tZ_u (M : ti_M) (o k : Nat) (v : Nat → Int64) : tZ (uZ M o k v) o k = v := by simp [tZ, uZ, up2]
theorem tZ_n (M : ti_M) (o k : Nat) (v : Nat → Int64) {o2 k2 : Nat} (h : ¬ (k2 = k ∧ o2 = o)) : tZ (uZ M o k v) o2 k2 = tZ M o2 k2 := by simp only [tZ, uZ, up2, if_neg h]
theorem tT_u (M : ti_M) (o k : Nat) (v : Option Nat) : tT (uT M o k v) o k = v := by simp [tT, uT, up2]
theorem tT_o (M : ti_M) (o k : Nat) (v : Option Nat) {o2 k2 : Nat} (h : o2 ≠ o) : tT (uT M o k v) o2 k2 = tT M o2 k2 := by simp [tT, uT, up2, h]
theorem tT_n (M : ti_M) (o k : Nat) (v : Option Nat) {o2 k2 : Nat} (h : ¬ (k2 = k ∧ o2 = o)) : tT (uT M o k v) o2 k2 = tT M o2 k2 := by simp only [tT, uT, up2, if_neg h]
def ti_cls (o : Nat) : Nat := if o = 0 then 9 else if o = 1 then 4 else if o = 2 then 7 else if o ≤ 4 then 8 else if o ≤ 20 then 2 else if o ≤ 26 then 1 else if o = 28 then 5 else if o = 50 then 6 else if o = 53 then 0 else if o = 60 then 10 else 3
def ti_fs (A : Nat → Nat → Nat) (ci o : Nat) (I : Nat → Int32) (T : Nat → Option Nat) : List Value := match ci with
  | 0 => [.ref (A 54 0), .ref (A 55 0), .ref (A o 3), .ref (A o 4), .ref (A o 5), .int (I 5)]
  | 1 => [.ref (A o 1), .ref (A o 2), .ref (A o 3), .int (I 3)]
  | 2 => [.int (I 0), .int (I 1), .int (I 2), .int (I 3), .int (I 4), .int (I 5), .int (I 6), .int (I 7), .int (I 8), .int (I 9)]
  | 3 => [va_rf ((T 0).map (fun t => A t 0)), .int (I 1), .int (I 2), .int (I 3), .int (I 4), .int (I 5), .ref (A o 7), .ref (A o 8), .ref (A o 9), .ref (A o 10), .ref (A o 11), .ref (A o 12), .ref (A o 13), .ref (A o 14), .ref (A o 15), .ref (A o 16), .ref (A o 17)]
  | 4 => [.ref (A 2 0), va_rf ((T 1).map (fun t => A t 0)), va_rf ((T 2).map (fun t => A t 0)), .int (I 3), .int (I 4), .int (I 5)]
  | 5 => [.ref (A o 1), .int (I 1), .int (I 2)]
  | 6 => [.ref (A o 1), .ref (A o 2), .ref (A o 3), .ref (A o 4), .int (I 4), .int (I 5), .int (I 6), .int (I 7), .ref (A o 9), .ref (A o 10), .int (I 10), .ref (A 51 0), .ref (A 52 0)]
  | 7 => [.ref (A o 1), .int (I 1), .int (I 2), .int (I 3), .int (I 4), .int (I 5), .int (I 6)]
  | 8 => [.ref (A o 1), .ref (A o 2), .ref (A o 3), .int (I 3), .int (I 4), .int (I 5), .int (I 6), .int (I 7), .int (I 8), .int (I 9), .int (I 10), .int (I 11)]
  | 9 => [.ref (A 1 0), va_rf ((T 1).map (fun t => A t 0)), va_rf ((T 2).map (fun t => A t 0)), .ref (A 27 0), .ref (A o 5), .ref (A 28 0), .ref (A 49 0), .int (I 7), .ref (A 50 0), .ref (A 53 0)]
  | _ => [.int (I 0), .ref (A o 2), .int (I 2), .ref (A o 4), .ref (A o 5), .ref (A o 6), .ref (A o 7), .ref (A o 8), .ref (A o 9), .ref (A o 10), .ref (A o 11), .ref (A o 12), .ref (A o 13), .ref (A o 14), .ref (A o 15), .ref (A o 16), .ref (A o 17), .ref (A o 18), .int (I 18), .int (I 19), .int (I 20), .int (I 21), .int (I 22), .int (I 23), .int (I 24), .int (I 25), .int (I 26), .int (I 27), .int (I 28), .int (I 29), .int (I 30), .ref (A o 32), .ref (A o 33), .int (I 33), .ref (A o 35), .ref (A o 36), .ref (A o 37), .ref (A o 38), .ref (A o 39), .ref (A o 40), .ref (A o 41), .ref (A o 42), .ref (A o 43), .ref (A o 44), .ref (A o 45), .ref (A o 46), .ref (A o 47), .ref (A o 48), .ref (A o 49), .ref (A o 50), .ref (A o 51), .int (I 51), .int (I 52), .int (I 53), .ref (A o 55), .ref (A o 56), .int (I 56), .ref (A o 58), .int (I 58), .int (I 59), .ref (A o 61), .ref (A o 62), .ref (A o 63), .ref (A o 64), .ref (A o 65), .int (I 65), .int (I 66)]
def ti_men (t i : Nat) : Nat := if t = 3 then 5 + i else 13 + i
def ti_laws (t i : Nat) : Nat := if t = 3 then 21 + i else 24 + i
def ti_rw (A : Nat → Nat → Nat) (n : Nat) (g : Nat → Nat) : Nat → Option Nat := match n with | 0 => fun _ => none | k + 1 => va_up (ti_rw A k g) k (some (A (g k) 0))
theorem ti_rw_at (A : Nat → Nat → Nat) (g : Nat → Nat) : ∀ (n i : Nat), i < n → ti_rw A n g i = some (A (g i) 0) := by
  intro n; induction n with
  | zero => intro i h; omega
  | succ n ih => intro i h; by_cases e : i = n
                 · subst e; simp [ti_rw, va_up]
                 · simp only [ti_rw, va_up, if_neg e]; exact ih i (by omega)
def ti_ar (A : Nat → Nat → Nat) (cy : Nat → ClassId) (ci o k : Nat) (f : Nat → Int32) (g : Nat → Int64) : ClassId × vp_A := match ci with
  | 0 => (cy 1, 16, .inl f)
  | 1 => if k = 1 then (cy 2, 64, .inr (.inl g)) else if k = 2 then (cy 2, 6, .inr (.inl g)) else (cy 1, 64, .inl f)
  | 2 => (cy 1, 0, .inl f)
  | 3 => if k = 7 then (cy 1, 3, .inl f) else (cy 1, 8, .inl f)
  | 4 => (cy 1, 0, .inl f)
  | 5 => (cy 6, 20, .inr (.inr (.inr (.inr (ti_rw A 20 (fun i => 29 + i))))))
  | 6 => if k = 8 ∨ k = 9 then (cy 1, 480, .inl f) else (cy 1, 24, .inl f)
  | 7 => (cy 0, 700, .inl f)
  | 8 => if k = 1 then (cy 1, 3, .inl f) else if k = 2 then (cy 4, 3, .inr (.inr (.inr (.inr (ti_rw A 3 (ti_laws o)))))) else (cy 5, 8, .inr (.inr (.inr (.inr (ti_rw A 8 (ti_men o))))))
  | 9 => (cy 1, 360, .inl f)
  | _ => if k = 39 ∨ k = 40 ∨ k = 41 ∨ k = 42 ∨ k = 43 ∨ k = 44 ∨ k = 45 ∨ k = 46 ∨ k = 47 ∨ k = 48 then (cy 1, 184, .inl f) else if k = 34 ∨ k = 35 ∨ k = 36 ∨ k = 37 ∨ k = 38 then (cy 1, 23, .inl f) else if k = 60 ∨ k = 61 ∨ k = 62 ∨ k = 63 then (cy 1, 24, .inl f) else if k = 14 ∨ k = 15 then (cy 1, 6, .inl f) else if k = 16 ∨ k = 17 then (cy 1, 128, .inl f) else if k = 1 then (cy 1, 700, .inl f) else if k = 3 then (cy 1, 22, .inl f) else if k = 31 then (cy 2, 6, .inr (.inl g)) else if k = 32 then (cy 2, 64, .inr (.inl g)) else if k = 49 then (cy 1, 69, .inl f) else if k = 50 then (cy 1, 720, .inl f) else if k = 57 then (cy 1, 8, .inl f) else if k = 64 then (cy 3, 24, .inl f) else (cy 1, 16, .inl f)
def ti_G (A : Nat → Nat → Nat) (cy : Nat → ClassId) (M : ti_M) (o j : Nat) : va_E := match j with | 0 => .inr (ti_cls o, ti_fs A (ti_cls o) o (tI M o) (tT M o)) | k + 1 => .inl (ti_ar A cy (ti_cls o) o k (tY M o k) (tZ M o k))
def ti_W (Ls : List (Nat × Nat)) (A : Nat → Nat → Nat) (cy : Nat → ClassId) (M : ti_M) : va_W := Ls.map (fun r => (A r.1 r.2, ti_G A cy M r.1 r.2))
def ti_LT : List (Nat × Nat) := [(0, 0), (1, 0), (2, 0), (2, 1), (3, 0), (3, 1), (3, 2), (3, 3), (5, 0), (6, 0), (7, 0), (8, 0), (9, 0), (10, 0), (11, 0), (12, 0), (21, 0), (21, 1), (21, 2), (21, 3), (22, 0), (22, 1), (22, 2), (22, 3), (23, 0), (23, 1), (23, 2), (23, 3), (4, 0), (4, 1), (4, 2), (4, 3), (13, 0), (14, 0), (15, 0), (16, 0), (17, 0), (18, 0), (19, 0), (20, 0), (24, 0), (24, 1), (24, 2), (24, 3), (25, 0), (25, 1), (25, 2), (25, 3), (26, 0), (26, 1), (26, 2), (26, 3), (27, 0), (27, 7), (27, 8), (27, 9), (27, 10), (27, 11), (27, 12), (27, 13), (27, 14), (27, 15), (27, 16), (27, 17), (0, 5), (28, 0), (28, 1), (29, 0), (29, 7), (29, 8), (29, 9), (29, 10), (29, 11), (29, 12), (29, 13), (29, 14), (29, 15), (29, 16), (29, 17), (30, 0), (30, 7), (30, 8), (30, 9), (30, 10), (30, 11), (30, 12), (30, 13), (30, 14), (30, 15), (30, 16), (30, 17), (31, 0), (31, 7), (31, 8), (31, 9), (31, 10), (31, 11), (31, 12), (31, 13), (31, 14), (31, 15), (31, 16), (31, 17), (32, 0), (32, 7), (32, 8), (32, 9), (32, 10), (32, 11), (32, 12), (32, 13), (32, 14), (32, 15), (32, 16), (32, 17), (33, 0), (33, 7), (33, 8), (33, 9), (33, 10), (33, 11), (33, 12), (33, 13), (33, 14), (33, 15), (33, 16), (33, 17), (34, 0), (34, 7), (34, 8), (34, 9), (34, 10), (34, 11), (34, 12), (34, 13), (34, 14), (34, 15), (34, 16), (34, 17), (35, 0), (35, 7), (35, 8), (35, 9), (35, 10), (35, 11), (35, 12), (35, 13), (35, 14), (35, 15), (35, 16), (35, 17), (36, 0), (36, 7), (36, 8), (36, 9), (36, 10), (36, 11), (36, 12), (36, 13), (36, 14), (36, 15), (36, 16), (36, 17), (37, 0), (37, 7), (37, 8), (37, 9), (37, 10), (37, 11), (37, 12), (37, 13), (37, 14), (37, 15), (37, 16), (37, 17), (38, 0), (38, 7), (38, 8), (38, 9), (38, 10), (38, 11), (38, 12), (38, 13), (38, 14), (38, 15), (38, 16), (38, 17), (39, 0), (39, 7), (39, 8), (39, 9), (39, 10), (39, 11), (39, 12), (39, 13), (39, 14), (39, 15), (39, 16), (39, 17), (40, 0), (40, 7), (40, 8), (40, 9), (40, 10), (40, 11), (40, 12), (40, 13), (40, 14), (40, 15), (40, 16), (40, 17), (41, 0), (41, 7), (41, 8), (41, 9), (41, 10), (41, 11), (41, 12), (41, 13), (41, 14), (41, 15), (41, 16), (41, 17), (42, 0), (42, 7), (42, 8), (42, 9), (42, 10), (42, 11), (42, 12), (42, 13), (42, 14), (42, 15), (42, 16), (42, 17), (43, 0), (43, 7), (43, 8), (43, 9), (43, 10), (43, 11), (43, 12), (43, 13), (43, 14), (43, 15), (43, 16), (43, 17), (44, 0), (44, 7), (44, 8), (44, 9), (44, 10), (44, 11), (44, 12), (44, 13), (44, 14), (44, 15), (44, 16), (44, 17), (45, 0), (45, 7), (45, 8), (45, 9), (45, 10), (45, 11), (45, 12), (45, 13), (45, 14), (45, 15), (45, 16), (45, 17), (46, 0), (46, 7), (46, 8), (46, 9), (46, 10), (46, 11), (46, 12), (46, 13), (46, 14), (46, 15), (46, 16), (46, 17), (47, 0), (47, 7), (47, 8), (47, 9), (47, 10), (47, 11), (47, 12), (47, 13), (47, 14), (47, 15), (47, 16), (47, 17), (48, 0), (48, 7), (48, 8), (48, 9), (48, 10), (48, 11), (48, 12), (48, 13), (48, 14), (48, 15), (48, 16), (48, 17), (49, 0), (49, 7), (49, 8), (49, 9), (49, 10), (49, 11), (49, 12), (49, 13), (49, 14), (49, 15), (49, 16), (49, 17), (50, 0), (50, 1), (50, 2), (50, 3), (50, 4), (50, 9), (50, 10), (51, 0), (51, 7), (51, 8), (51, 9), (51, 10), (51, 11), (51, 12), (51, 13), (51, 14), (51, 15), (51, 16), (51, 17), (52, 0), (52, 7), (52, 8), (52, 9), (52, 10), (52, 11), (52, 12), (52, 13), (52, 14), (52, 15), (52, 16), (52, 17), (53, 0), (54, 0), (54, 7), (54, 8), (54, 9), (54, 10), (54, 11), (54, 12), (54, 13), (54, 14), (54, 15), (54, 16), (54, 17), (55, 0), (55, 7), (55, 8), (55, 9), (55, 10), (55, 11), (55, 12), (55, 13), (55, 14), (55, 15), (55, 16), (55, 17), (53, 3), (53, 4), (53, 5)]
def ti_LM : List (Nat × Nat) := [(60, 0), (60, 2), (60, 4), (60, 5), (60, 6), (60, 7), (60, 8), (60, 9), (60, 10), (60, 11), (60, 12), (60, 13), (60, 14), (60, 15), (60, 16), (60, 17), (60, 18), (60, 32), (60, 33), (60, 35), (60, 36), (60, 37), (60, 38), (60, 39), (60, 40), (60, 41), (60, 42), (60, 43), (60, 44), (60, 45), (60, 46), (60, 47), (60, 48), (60, 49), (60, 50), (60, 51), (60, 55), (60, 56), (60, 58), (60, 61), (60, 62), (60, 63), (60, 64), (60, 65)]
theorem ti_LT_nd : ti_LT.Nodup := by decide +kernel
theorem ti_LM_nd : ti_LM.Nodup := by decide +kernel
end
section
def lw_g : List Cond := lw_tbl.filter goodWord
theorem lw_g_in {w : Cond} (h : w ∈ lw_tbl) (hg : goodWord w = true) : w ∈ lw_g := List.mem_filter.mpr ⟨h, hg⟩
theorem lw_g_mem {w : Cond} (i : Nat) (h : lw_tbl[i]? = some w) (hg : goodWord w = true) : w ∈ lw_g := lw_g_in (List.mem_of_getElem? h) hg
theorem lw_g_good {ws : List Cond} (h : ∀ w ∈ ws, w ∈ lw_g) : GoodIn lw_g ws := fun w hw => ⟨h w hw, good_of_word (List.mem_filter.mp (h w hw)).2⟩
theorem lw_g_hts {args : Array Value} {s : State} (h : ∀ w ∈ lw_tbl, w.before args s = true) : ∀ w ∈ lw_g, w.before args s = true := fun w hw => h w (List.mem_filter.mp hw).1
def ti_ty (cy : Nat → ClassId) : List (ClassId × FieldType) := [(cy 0, .byte), (cy 1, .int), (cy 2, .long), (cy 3, .boolean), (cy 4, .object RX1), (cy 5, .object RX2), (cy 6, .object RX3)]
def ti_As (Ls : List (Nat × Nat)) (A : Nat → Nat → Nat) : Nat → Prop := fun q => ∃ r ∈ Ls, A r.1 r.2 = q
def ti_inj (Ls : List (Nat × Nat)) (A : Nat → Nat → Nat) : Prop := ∀ (i j : Nat) (r r2 : Nat × Nat), Ls[i]? = some r → Ls[j]? = some r2 → A r.1 r.2 = A r2.1 r2.2 → i = j
theorem ti_W_at {Ls : List (Nat × Nat)} {A : Nat → Nat → Nat} {cy : Nat → ClassId} {M : ti_M} {k : Nat} {r : Nat × Nat} (h : Ls[k]? = some r) : (ti_W Ls A cy M)[k]? = some (A r.1 r.2, ti_G A cy M r.1 r.2) := by simp [ti_W, h]
theorem ti_W_D {Ls : List (Nat × Nat)} {A : Nat → Nat → Nat} (hJ : ti_inj Ls A) (cy : Nat → ClassId) (M : ti_M) : va_D (ti_As Ls A) (ti_W Ls A cy M) := by
  refine ⟨?_, ?_⟩
  · intro i j p q hi hj e
    simp only [ti_W, List.getElem?_map, Option.map_eq_some_iff] at hi hj
    obtain ⟨r, hr, rfl⟩ := hi
    obtain ⟨r2, hr2, rfl⟩ := hj
    exact hJ i j r r2 hr hr2 e
  · intro k q hk
    simp only [ti_W, List.getElem?_map, Option.map_eq_some_iff] at hk
    obtain ⟨r, hr, rfl⟩ := hk
    exact ⟨r, List.mem_of_getElem? hr, rfl⟩
theorem ti_W_set {Ls : List (Nat × Nat)} {A : Nat → Nat → Nat} {cy : Nat → ClassId} {M M2 : ti_M} (hn : Ls.Nodup) {k : Nat} {r : Nat × Nat} (h : Ls[k]? = some r) (hG : ∀ r2 : Nat × Nat, r2 ≠ r → ti_G A cy M2 r2.1 r2.2 = ti_G A cy M r2.1 r2.2) : (ti_W Ls A cy M).set k (A r.1 r.2, ti_G A cy M2 r.1 r.2) = ti_W Ls A cy M2 := by
  apply List.ext_getElem?
  intro i
  have hk := (List.getElem?_eq_some_iff.mp h).1
  simp only [ti_W, List.getElem?_set, List.getElem?_map, List.length_map]
  by_cases e : k = i
  · subst e; rw [if_pos rfl, if_pos hk, h]; rfl
  · simp only [if_neg e]
    cases hi : Ls[i]? with
    | none => rfl
    | some r2 =>
      have hne : r2 ≠ r := fun e2 => e ((List.getElem?_inj hk hn).mp (by rw [h, hi, e2]))
      simp only [Option.map_some, hG r2 hne]
theorem ti_G_uI {A : Nat → Nat → Nat} {cy : Nat → ClassId} {M : ti_M} {o k : Nat} {v : Int32} (r2 : Nat × Nat) (h : r2 ≠ (o, 0)) : ti_G A cy (uI M o k v) r2.1 r2.2 = ti_G A cy M r2.1 r2.2 := by
  obtain ⟨o2, j2⟩ := r2
  cases j2 with
  | zero =>
    have ho : o2 ≠ o := fun e => h (by rw [e])
    have e1 : tI (uI M o k v) o2 = tI M o2 := funext fun q => tI_o M o k v ho
    simp only [ti_G, e1]; rfl
  | succ q => rfl
theorem ti_G_uT {A : Nat → Nat → Nat} {cy : Nat → ClassId} {M : ti_M} {o k : Nat} {v : Option Nat} (r2 : Nat × Nat) (h : r2 ≠ (o, 0)) : ti_G A cy (uT M o k v) r2.1 r2.2 = ti_G A cy M r2.1 r2.2 := by
  obtain ⟨o2, j2⟩ := r2
  cases j2 with
  | zero =>
    have ho : o2 ≠ o := fun e => h (by rw [e])
    have e1 : tT (uT M o k v) o2 = tT M o2 := funext fun q => tT_o M o k v ho
    simp only [ti_G, e1]; rfl
  | succ q => rfl
theorem ti_G_uY {A : Nat → Nat → Nat} {cy : Nat → ClassId} {M : ti_M} {o k : Nat} {v : Nat → Int32} (r2 : Nat × Nat) (h : r2 ≠ (o, k + 1)) : ti_G A cy (uY M o k v) r2.1 r2.2 = ti_G A cy M r2.1 r2.2 := by
  obtain ⟨o2, j2⟩ := r2
  cases j2 with
  | zero => rfl
  | succ q =>
    have hh : ¬ (q = k ∧ o2 = o) := fun e => h (by rw [e.1, e.2])
    simp only [ti_G, tY_n M o k v hh]; rfl
theorem ti_G_uZ {A : Nat → Nat → Nat} {cy : Nat → ClassId} {M : ti_M} {o k : Nat} {v : Nat → Int64} (r2 : Nat × Nat) (h : r2 ≠ (o, k + 1)) : ti_G A cy (uZ M o k v) r2.1 r2.2 = ti_G A cy M r2.1 r2.2 := by
  obtain ⟨o2, j2⟩ := r2
  cases j2 with
  | zero => rfl
  | succ q =>
    have hh : ¬ (q = k ∧ o2 = o) := fun e => h (by rw [e.1, e.2])
    simp only [ti_G, tZ_n M o k v hh]; rfl
def ti_parts (ci : Nat) : List Nat := match ci with
  | 0 => [0, 3, 4, 5] | 1 => [0, 1, 2, 3] | 2 => [0] | 3 => [0, 7, 8, 9, 10, 11, 12, 13, 14, 15, 16, 17] | 4 => [0] | 5 => [0, 1] | 6 => [0, 1, 2, 3, 4, 9, 10] | 7 => [0, 1] | 8 => [0, 1, 2, 3] | 9 => [0, 5]
  | _ => ti_LM.map (fun r => r.2)
def ti_ob (Ls : List (Nat × Nat)) (o ci : Nat) : Prop := ti_cls o = ci ∧ ∀ j ∈ ti_parts ci, (o, j) ∈ Ls
/-- what a method's walk stands on -/
def ti_C (p : Program) (s : State) (m : MethodId) (c : Code) (args : Array Value) (cc : ByteArray) (own : String) (nL : Nat) (D : va_G) (cy : Nat → ClassId) (Ls : List (Nat × Nat)) (A : Nat → Nat → Nat) : Prop :=
  p.tables.exec = Jvm.exec ∧ c.code = cc ∧ (∀ w ∈ lw_g, w.before args s = true) ∧ s.vm.findClass own = some m.cls ∧ va_K D vwCl (ti_ty cy) s ∧ c.maxLocals = nL ∧ ti_inj Ls A ∧ Ls.Nodup
/-- the heap as memory M -/
def ti_H (Ls : List (Nat × Nat)) (D : va_G) (A : Nat → Nat → Nat) (cy : Nat → ClassId) (H0 : Heap) (M : ti_M) (H : Heap) (locs : List Loc) : Prop := va_P D vwCl (ti_W Ls A cy M) H ∧ va_S (ti_As Ls A) H0 H locs
theorem ti_H.to {Ls : List (Nat × Nat)} {D : va_G} {A : Nat → Nat → Nat} {cy : Nat → ClassId} {H0 H : Heap} {M M2 : ti_M} {locs : List Loc} (h : ti_H Ls D A cy H0 M H locs) (e : M = M2) : ti_H Ls D A cy H0 M2 H locs := e ▸ h
def ti_rm (k : Nat) : Room := { frames := k, cells := 0, slots := 0, locals := 60 * k }
def ti_Pc (Ls : List (Nat × Nat)) (D : va_G) (A : Nat → Nat → Nat) (cy : Nat → ClassId) (M : ti_M) (av : List Value) : Array Value → State → Prop := va_Pc av (fun U => va_P D vwCl (ti_W Ls A cy M) U.heap ∧ va_K D vwCl (ti_ty cy) U)
def ti_B (Ls : List (Nat × Nat)) (D : va_G) (A : Nat → Nat → Nat) (cy : Nat → ClassId) : ti_M → State → Prop := fun M t => va_P D vwCl (ti_W Ls A cy M) t.heap
def ti_Ki (l : Launch) (y : MethodName) (cc : ByteArray) (n : Nat) (ret : Option FieldType) (k : Nat) (Ls : List (Nat × Nat)) (D : va_G) (A : Nat → Nat → Nat) (cy : Nat → ClassId) (M : ti_M) (av : List Value) (post : Int32 → ti_M → Prop) : Prop :=
  Met l y (.code y cc n ret :: lw_g) (ti_rm k) (ti_Pc Ls D A cy M av) (va_Qi post (ti_B Ls D A cy) (ti_As Ls A)) 0 0 (ti_As Ls A)
def ti_Kl (l : Launch) (y : MethodName) (cc : ByteArray) (n : Nat) (ret : Option FieldType) (k : Nat) (Ls : List (Nat × Nat)) (D : va_G) (A : Nat → Nat → Nat) (cy : Nat → ClassId) (M : ti_M) (av : List Value) (post : Int64 → ti_M → Prop) : Prop :=
  Met l y (.code y cc n ret :: lw_g) (ti_rm k) (ti_Pc Ls D A cy M av) (va_Ql post (ti_B Ls D A cy) (ti_As Ls A)) 0 0 (ti_As Ls A)
def ti_Kv (l : Launch) (y : MethodName) (cc : ByteArray) (n : Nat) (k : Nat) (Ls : List (Nat × Nat)) (D : va_G) (A : Nat → Nat → Nat) (cy : Nat → ClassId) (M : ti_M) (av : List Value) (post : ti_M → Prop) : Prop :=
  Met l y (.code y cc n none :: lw_g) (ti_rm k) (ti_Pc Ls D A cy M av) (va_Qv post (ti_B Ls D A cy) (ti_As Ls A)) 0 0 (ti_As Ls A)
section
variable {p : Program} {l : Launch} {e : Env} {R : Room} {s : State} {m : MethodId} {args : Array Value} {below : List Frame} {meth : Method} {c : Code} {H H0 : Heap} {locs : List Loc} {cells slots : Nat} {Q : State → Prop} {pc : Nat} {ls : Array Slot} {rest : List Value} {cc : ByteArray} {own : String} {nL : Nat} {D : va_G} {cy : Nat → ClassId} {Ls : List (Nat × Nat)} {A : Nat → Nat → Nat} {M : ti_M}
theorem ti_blind {av : List Value} : FrameBlind (ti_Pc Ls D A cy M av) := fun a U g mk q => ⟨q.1, q.2.1, va_K.moved (u := U) (U := U.calling g mk a) (Vm.Alike.refl U.vm) q.2.2⟩
theorem ti_entC {y : MethodName} {n k : Nat} {ret : Option FieldType} {s₁ : State} (B : BodyLoose p l y (headSpec (.code y cc n ret :: lw_g) (ti_rm k)) cc n ret e s m args below meth c s₁) (hml : c.maxLocals = n) (hK : va_K D vwCl (ti_ty cy) s) (hJ : ti_inj Ls A) (hN : Ls.Nodup) : ti_C p s m c args cc y.cls n D cy Ls A :=
  ⟨B.exec, B.bytes, fun w h => atoms_spec (ws := .code y cc n ret :: lw_g) B.pre w (List.mem_cons_of_mem _ h), findClass_of_methodNamed B.named, hK, hml, hJ, hN⟩
theorem ti_enterI {y : MethodName} {n k : Nat} {ret : Option FieldType} {av : List Value} {post : Int32 → ti_M → Prop} (hy : plainName y.cls = true) (hJ : ti_inj Ls A) (hN : Ls.Nodup) (hav : (lg_sl av).length ≤ n)
    (body : ∀ (p : Program) (e : Env) (s : State) (m : MethodId) (below : List Frame) (meth : Method) (c : Code), ti_C p s m c av.toArray cc y.cls n D cy Ls A → meth.sig.returnType = ret → meth.locks = false → ti_H Ls D A cy s.heap M s.heap [] → ∀ ls : Array Slot, lv_has ls n (lv_args 0 av) →
      W p l e (ti_rm k) s m av.toArray below meth c s.heap [] 0 0 (MQ below (va_Qi post (ti_B Ls D A cy) (ti_As Ls A)) av.toArray s 0 0 (ti_As Ls A)) (F0 m 0 ls [])) : ti_Ki l y cc n ret k Ls D A cy M av post := by
  refine Met.ofW (cc := cc) (maxL := n) (ret := ret) hy rfl ?_
  intro p e s m args below meth c s₁ B hml hv
  obtain ⟨rfl, hP, hK⟩ := hv
  rw [lg_entry_eq]
  exact body p e s m below meth c (ti_entC B hml hK hJ hN) B.returns B.notSynchronized ⟨hP, va_S.rf⟩ _ (lv_entry av hav)
theorem ti_enterL {y : MethodName} {n k : Nat} {ret : Option FieldType} {av : List Value} {post : Int64 → ti_M → Prop} (hy : plainName y.cls = true) (hJ : ti_inj Ls A) (hN : Ls.Nodup) (hav : (lg_sl av).length ≤ n)
    (body : ∀ (p : Program) (e : Env) (s : State) (m : MethodId) (below : List Frame) (meth : Method) (c : Code), ti_C p s m c av.toArray cc y.cls n D cy Ls A → meth.sig.returnType = ret → meth.locks = false → ti_H Ls D A cy s.heap M s.heap [] → ∀ ls : Array Slot, lv_has ls n (lv_args 0 av) →
      W p l e (ti_rm k) s m av.toArray below meth c s.heap [] 0 0 (MQ below (va_Ql post (ti_B Ls D A cy) (ti_As Ls A)) av.toArray s 0 0 (ti_As Ls A)) (F0 m 0 ls [])) : ti_Kl l y cc n ret k Ls D A cy M av post := by
  refine Met.ofW (cc := cc) (maxL := n) (ret := ret) hy rfl ?_
  intro p e s m args below meth c s₁ B hml hv
  obtain ⟨rfl, hP, hK⟩ := hv
  rw [lg_entry_eq]
  exact body p e s m below meth c (ti_entC B hml hK hJ hN) B.returns B.notSynchronized ⟨hP, va_S.rf⟩ _ (lv_entry av hav)
theorem ti_enterV {y : MethodName} {n k : Nat} {av : List Value} {post : ti_M → Prop} (hy : plainName y.cls = true) (hJ : ti_inj Ls A) (hN : Ls.Nodup) (hav : (lg_sl av).length ≤ n)
    (body : ∀ (p : Program) (e : Env) (s : State) (m : MethodId) (below : List Frame) (meth : Method) (c : Code), ti_C p s m c av.toArray cc y.cls n D cy Ls A → meth.sig.returnType = none → meth.locks = false → ti_H Ls D A cy s.heap M s.heap [] → ∀ ls : Array Slot, lv_has ls n (lv_args 0 av) →
      W p l e (ti_rm k) s m av.toArray below meth c s.heap [] 0 0 (MQ below (va_Qv post (ti_B Ls D A cy) (ti_As Ls A)) av.toArray s 0 0 (ti_As Ls A)) (F0 m 0 ls [])) : ti_Kv l y cc n k Ls D A cy M av post := by
  refine Met.ofW (cc := cc) (maxL := n) (ret := none) hy rfl ?_
  intro p e s m args below meth c s₁ B hml hv
  obtain ⟨rfl, hP, hK⟩ := hv
  rw [lg_entry_eq]
  exact body p e s m below meth c (ti_entC B hml hK hJ hN) B.returns B.notSynchronized ⟨hP, va_S.rf⟩ _ (lv_entry av hav)
theorem ti_iret {post : Int32 → ti_M → Prop} {v : Int32} {ty : FieldType} (C : ti_C p s m c args cc own nL D cy Ls A) (hr : meth.sig.returnType = some ty) (hlk : meth.locks = false) (hw : ti_H Ls D A cy s.heap M H locs) (hn : narrow ty (.int v) = .int v) (hq : post v M) (hdg : decode cc pc = .ok (.ireturn, 1)) :
    W p l e R s m args below meth c H locs 0 0 (MQ below (va_Qi post (ti_B Ls D A cy) (ti_As Ls A)) args s 0 0 (ti_As Ls A)) (F0 m pc ls [.int v]) :=
  W.zret C.1 C.2.1 hr hn (fun t ht _ => ⟨⟨v, M, rfl, hq, by show va_P _ _ _ _; rw [ht]; exact hw.1⟩, hw.2.F ht⟩) hw.2.2.2 hdg hlk
theorem ti_lret {post : Int64 → ti_M → Prop} {v : Int64} (C : ti_C p s m c args cc own nL D cy Ls A) (hr : meth.sig.returnType = some .long) (hlk : meth.locks = false) (hw : ti_H Ls D A cy s.heap M H locs) (hq : post v M) (hdg : decode cc pc = .ok (.lreturn, 1)) :
    W p l e R s m args below meth c H locs 0 0 (MQ below (va_Ql post (ti_B Ls D A cy) (ti_As Ls A)) args s 0 0 (ti_As Ls A)) (F0 m pc ls [.long v]) :=
  W.lret C.1 C.2.1 hr (fun t ht _ => ⟨⟨v, M, rfl, hq, by show va_P _ _ _ _; rw [ht]; exact hw.1⟩, hw.2.F ht⟩) hw.2.2.2 hdg hlk
theorem ti_vret {post : ti_M → Prop} (C : ti_C p s m c args cc own nL D cy Ls A) (hr : meth.sig.returnType = none) (hlk : meth.locks = false) (hw : ti_H Ls D A cy s.heap M H locs) (hq : post M) (hdg : decode cc pc = .ok (.return_, 1)) :
    W p l e R s m args below meth c H locs 0 0 (MQ below (va_Qv post (ti_B Ls D A cy) (ti_As Ls A)) args s 0 0 (ti_As Ls A)) (F0 m pc ls []) :=
  W.vret C.1 C.2.1 hr (fun t ht _ => ⟨⟨M, rfl, hq, by show va_P _ _ _ _; rw [ht]; exact hw.1⟩, hw.2.F ht⟩) hw.2.2.2 hdg hlk
theorem ti_obG {o ci : Nat} (hob : ti_ob Ls o ci) (j : Nat) (hj : j ∈ ti_parts ci) : ∃ q : Nat, Ls[q]? = some (o, j) := List.getElem?_of_mem (hob.2 j hj)
theorem ti_get {ci N k idx : Nat} {Cn : String} {T : u_T} (C : ti_C p s m c args cc own nL D cy Ls A) (hw : ti_H Ls D A cy H0 M H locs) (hin : ∀ w ∈ u_ws Cn T N, w ∈ lw_g) (hcl : vwCl[ci]? = some (Cn, T, N)) {o : Nat} (hob : ti_ob Ls o ci) (hj : 0 ∈ ti_parts ci) (hk : k < N) (hlink : Cond.fieldLink own idx Cn (T k).2.1 (T k).2.2.1 ∈ lw_g) (hdecl : (T k).1 = Cn) {v : Value} (hv : (ti_fs A ci o (tI M o) (tT M o))[k]? = some v) (hdg : decode cc pc = .ok (.getfield idx, 3))
    (kk : W p l e R s m args below meth c H locs cells slots Q (F0 m (pc + 3) ls (v :: rest))) : W p l e R s m args below meth c H locs cells slots Q (F0 m pc ls (.ref (A o 0) :: rest)) := by
  obtain ⟨q, hq⟩ := ti_obG hob 0 hj
  exact va_get (ref := Cn) (fs := ti_fs A ci o (tI M o) (tT M o)) (ci := ci) C.1 C.2.1 C.2.2.1 hin C.2.2.2.1 C.2.2.2.2.1 hw.1 q (by rw [ti_W_at hq]; simp only [ti_G, hob.1]) hcl k hk (C.2.2.1 _ hlink) (fun x h9 => by rw [hdecl] at h9; exact h9) hv hdg kk
theorem ti_putI {ci N k idx : Nat} {Cn : String} {T : u_T} (C : ti_C p s m c args cc own nL D cy Ls A) (hw : ti_H Ls D A cy H0 M H locs) (hin : ∀ w ∈ u_ws Cn T N, w ∈ lw_g) (ty0 : Nat → FieldType) (hty : ∀ k, k < N → parseFieldDescriptor (T k).2.2.1 = some (ty0 k)) (hnm : ∀ a, a < N → ∀ b, b < N → a ≠ b → (T a).2.1 ≠ (T b).2.1) (hcl : vwCl[ci]? = some (Cn, T, N)) {o : Nat} (hob : ti_ob Ls o ci) (hj : 0 ∈ ti_parts ci) (hk : k < N) (hlink : Cond.fieldLink own idx Cn (T k).2.1 (T k).2.2.1 ∈ lw_g) (hdecl : (T k).1 = Cn) (hfin : (T k).2.2.2 = false) {v : Int32} (hn : narrow (ty0 k) (.int v) = .int v) (hfit : fits (ty0 k) (.int v) = true) (hlen : ∀ I T, (ti_fs A ci o I T).length = N)
    (hset : (ti_fs A ci o (tI M o) (tT M o)).set k (.int v) = ti_fs A ci o (tI (uI M o k v) o) (tT (uI M o k v) o)) (hdg : decode cc pc = .ok (.putfield idx, 3))
    (kk : ∀ (H1 : Heap) (locs1 : List Loc), ti_H Ls D A cy H0 (uI M o k v) H1 locs1 → W p l e R s m args below meth c H1 locs1 cells slots Q (F0 m (pc + 3) ls rest)) : W p l e R s m args below meth c H locs cells slots Q (F0 m pc ls (.int v :: .ref (A o 0) :: rest)) := by
  obtain ⟨q, hq⟩ := ti_obG hob 0 hj
  refine va_put (ref := Cn) (fs := ti_fs A ci o (tI M o) (tT M o)) (ci := ci) (ty := ty0 k) C.1 C.2.1 C.2.2.1 hin ty0 hty hnm C.2.2.2.1 C.2.2.2.2.1 hw.1 (ti_W_D C.2.2.2.2.2.2.1 cy M) hw.2 q (by rw [ti_W_at hq]; simp only [ti_G, hob.1]) hcl k hk (C.2.2.1 _ hlink) (fun x h9 => by rw [hdecl] at h9; exact h9) hfin (hty k hk) hn hfit (by rw [hlen]; exact hk) hdg ?_
  intro H1 locs1 hP hD hS
  refine kk H1 locs1 ⟨?_, hS⟩
  rw [hset] at hP
  have e : (ti_W Ls A cy M).set q (A o 0, ti_G A cy (uI M o k v) o 0) = ti_W Ls A cy (uI M o k v) := ti_W_set C.2.2.2.2.2.2.2 hq (fun r2 h2 => ti_G_uI r2 h2)
  rw [← e]
  simpa only [ti_G, hob.1] using hP
theorem ti_putT {ci N k idx : Nat} {Cn : String} {T : u_T} (C : ti_C p s m c args cc own nL D cy Ls A) (hw : ti_H Ls D A cy H0 M H locs) (hin : ∀ w ∈ u_ws Cn T N, w ∈ lw_g) (ty0 : Nat → FieldType) (hty : ∀ k, k < N → parseFieldDescriptor (T k).2.2.1 = some (ty0 k)) (hnm : ∀ a, a < N → ∀ b, b < N → a ≠ b → (T a).2.1 ≠ (T b).2.1) (hcl : vwCl[ci]? = some (Cn, T, N)) {o : Nat} (hob : ti_ob Ls o ci) (hj : 0 ∈ ti_parts ci) (hk : k < N) (hlink : Cond.fieldLink own idx Cn (T k).2.1 (T k).2.2.1 ∈ lw_g) (hdecl : (T k).1 = Cn) (hfin : (T k).2.2.2 = false) {t : Nat} (hn : narrow (ty0 k) (.ref (A t 0)) = .ref (A t 0)) (hfit : fits (ty0 k) (.ref (A t 0)) = true) (hlen : ∀ I T, (ti_fs A ci o I T).length = N)
    (hset : (ti_fs A ci o (tI M o) (tT M o)).set k (.ref (A t 0)) = ti_fs A ci o (tI (uT M o k (some t)) o) (tT (uT M o k (some t)) o)) (hdg : decode cc pc = .ok (.putfield idx, 3))
    (kk : ∀ (H1 : Heap) (locs1 : List Loc), ti_H Ls D A cy H0 (uT M o k (some t)) H1 locs1 → W p l e R s m args below meth c H1 locs1 cells slots Q (F0 m (pc + 3) ls rest)) : W p l e R s m args below meth c H locs cells slots Q (F0 m pc ls (.ref (A t 0) :: .ref (A o 0) :: rest)) := by
  obtain ⟨q, hq⟩ := ti_obG hob 0 hj
  refine va_put (ref := Cn) (fs := ti_fs A ci o (tI M o) (tT M o)) (ci := ci) (ty := ty0 k) C.1 C.2.1 C.2.2.1 hin ty0 hty hnm C.2.2.2.1 C.2.2.2.2.1 hw.1 (ti_W_D C.2.2.2.2.2.2.1 cy M) hw.2 q (by rw [ti_W_at hq]; simp only [ti_G, hob.1]) hcl k hk (C.2.2.1 _ hlink) (fun x h9 => by rw [hdecl] at h9; exact h9) hfin (hty k hk) hn hfit (by rw [hlen]; exact hk) hdg ?_
  intro H1 locs1 hP hD hS
  refine kk H1 locs1 ⟨?_, hS⟩
  rw [hset] at hP
  have e : (ti_W Ls A cy M).set q (A o 0, ti_G A cy (uT M o k (some t)) o 0) = ti_W Ls A cy (uT M o k (some t)) := ti_W_set C.2.2.2.2.2.2.2 hq (fun r2 h2 => ti_G_uT r2 h2)
  rw [← e]
  simpa only [ti_G, hob.1] using hP
theorem ti_iald {ci o k n : Nat} (C : ti_C p s m c args cc own nL D cy Ls A) (hw : ti_H Ls D A cy H0 M H locs) (hob : ti_ob Ls o ci) (hj : k + 1 ∈ ti_parts ci) (har : ∀ f g, ti_ar A cy ci o k f g = (cy 1, n, .inl f)) {i : Int32} (hi : vp_in i n) (hdg : decode cc pc = .ok (.iaload, 1))
    (kk : W p l e R s m args below meth c H locs cells slots Q (F0 m (pc + 1) ls (.int (tY M o k i.toNatClampNeg) :: rest))) : W p l e R s m args below meth c H locs cells slots Q (F0 m pc ls (.int i :: .ref (A o (k + 1)) :: rest)) := by
  obtain ⟨q, hq⟩ := ti_obG hob (k + 1) hj
  exact va_iald C.1 C.2.1 C.2.2.2.2.1 hw.1 q 1 (by rw [ti_W_at hq]; simp only [ti_G, hob.1, har]) rfl hi hdg kk
theorem ti_iast {ci o k n : Nat} (C : ti_C p s m c args cc own nL D cy Ls A) (hw : ti_H Ls D A cy H0 M H locs) (hob : ti_ob Ls o ci) (hj : k + 1 ∈ ti_parts ci) (har : ∀ f g, ti_ar A cy ci o k f g = (cy 1, n, .inl f)) {i x : Int32} (hi : vp_in i n) (hdg : decode cc pc = .ok (.iastore, 1))
    (kk : ∀ (H1 : Heap) (locs1 : List Loc), ti_H Ls D A cy H0 (uY M o k (upd (tY M o k) i.toNatClampNeg x)) H1 locs1 → W p l e R s m args below meth c H1 locs1 cells slots Q (F0 m (pc + 1) ls rest)) : W p l e R s m args below meth c H locs cells slots Q (F0 m pc ls (.int x :: .int i :: .ref (A o (k + 1)) :: rest)) := by
  obtain ⟨q, hq⟩ := ti_obG hob (k + 1) hj
  refine va_iast (cA := cy 1) (n := n) (f := tY M o k) C.1 C.2.1 C.2.2.2.2.1 hw.1 (ti_W_D C.2.2.2.2.2.2.1 cy M) hw.2 q 1 (by rw [ti_W_at hq]; simp only [ti_G, hob.1, har]) rfl hi hdg ?_
  intro H1 locs1 hP hD hS
  refine kk H1 locs1 ⟨?_, hS⟩
  have e : (ti_W Ls A cy M).set q (A o (k + 1), ti_G A cy (uY M o k (upd (tY M o k) i.toNatClampNeg x)) o (k + 1)) = ti_W Ls A cy (uY M o k (upd (tY M o k) i.toNatClampNeg x)) := ti_W_set C.2.2.2.2.2.2.2 hq (fun r2 h2 => ti_G_uY r2 h2)
  rw [← e]
  simpa only [ti_G, hob.1, har, tY_u] using hP
theorem ti_bald {ci o k n : Nat} (C : ti_C p s m c args cc own nL D cy Ls A) (hw : ti_H Ls D A cy H0 M H locs) (hob : ti_ob Ls o ci) (hj : k + 1 ∈ ti_parts ci) (har : ∀ f g, ti_ar A cy ci o k f g = (cy 0, n, .inl f)) {i : Int32} (hi : vp_in i n) (hdg : decode cc pc = .ok (.baload, 1))
    (kk : W p l e R s m args below meth c H locs cells slots Q (F0 m (pc + 1) ls (.int (tY M o k i.toNatClampNeg) :: rest))) : W p l e R s m args below meth c H locs cells slots Q (F0 m pc ls (.int i :: .ref (A o (k + 1)) :: rest)) := by
  obtain ⟨q, hq⟩ := ti_obG hob (k + 1) hj
  exact va_bald C.1 C.2.1 C.2.2.2.2.1 hw.1 q 0 (by rw [ti_W_at hq]; simp only [ti_G, hob.1, har]) rfl hi hdg kk
theorem ti_bast {ci o k n : Nat} (C : ti_C p s m c args cc own nL D cy Ls A) (hw : ti_H Ls D A cy H0 M H locs) (hob : ti_ob Ls o ci) (hj : k + 1 ∈ ti_parts ci) (har : ∀ f g, ti_ar A cy ci o k f g = (cy 0, n, .inl f)) {i x : Int32} (hi : vp_in i n) (hdg : decode cc pc = .ok (.bastore, 1))
    (kk : ∀ (H1 : Heap) (locs1 : List Loc), ti_H Ls D A cy H0 (uY M o k (upd (tY M o k) i.toNatClampNeg (vp_nar .byte x))) H1 locs1 → W p l e R s m args below meth c H1 locs1 cells slots Q (F0 m (pc + 1) ls rest)) : W p l e R s m args below meth c H locs cells slots Q (F0 m pc ls (.int x :: .int i :: .ref (A o (k + 1)) :: rest)) := by
  obtain ⟨q, hq⟩ := ti_obG hob (k + 1) hj
  refine va_bast (cA := cy 0) (n := n) (f := tY M o k) C.1 C.2.1 C.2.2.2.2.1 hw.1 (ti_W_D C.2.2.2.2.2.2.1 cy M) hw.2 q 0 (by rw [ti_W_at hq]; simp only [ti_G, hob.1, har]) rfl hi hdg ?_
  intro H1 locs1 hP hD hS
  refine kk H1 locs1 ⟨?_, hS⟩
  have e : (ti_W Ls A cy M).set q (A o (k + 1), ti_G A cy (uY M o k (upd (tY M o k) i.toNatClampNeg (vp_nar .byte x))) o (k + 1)) = ti_W Ls A cy (uY M o k (upd (tY M o k) i.toNatClampNeg (vp_nar .byte x))) := ti_W_set C.2.2.2.2.2.2.2 hq (fun r2 h2 => ti_G_uY r2 h2)
  rw [← e]
  simpa only [ti_G, hob.1, har, tY_u] using hP
theorem ti_zald {ci o k n : Nat} (C : ti_C p s m c args cc own nL D cy Ls A) (hw : ti_H Ls D A cy H0 M H locs) (hob : ti_ob Ls o ci) (hj : k + 1 ∈ ti_parts ci) (har : ∀ f g, ti_ar A cy ci o k f g = (cy 3, n, .inl f)) {i : Int32} (hi : vp_in i n) (hdg : decode cc pc = .ok (.baload, 1))
    (kk : W p l e R s m args below meth c H locs cells slots Q (F0 m (pc + 1) ls (.int (tY M o k i.toNatClampNeg) :: rest))) : W p l e R s m args below meth c H locs cells slots Q (F0 m pc ls (.int i :: .ref (A o (k + 1)) :: rest)) := by
  obtain ⟨q, hq⟩ := ti_obG hob (k + 1) hj
  exact va_zald C.1 C.2.1 C.2.2.2.2.1 hw.1 q 3 (by rw [ti_W_at hq]; simp only [ti_G, hob.1, har]) rfl hi hdg kk
theorem ti_zast {ci o k n : Nat} (C : ti_C p s m c args cc own nL D cy Ls A) (hw : ti_H Ls D A cy H0 M H locs) (hob : ti_ob Ls o ci) (hj : k + 1 ∈ ti_parts ci) (har : ∀ f g, ti_ar A cy ci o k f g = (cy 3, n, .inl f)) {i x : Int32} (hi : vp_in i n) (hdg : decode cc pc = .ok (.bastore, 1))
    (kk : ∀ (H1 : Heap) (locs1 : List Loc), ti_H Ls D A cy H0 (uY M o k (upd (tY M o k) i.toNatClampNeg (vp_nar .boolean x))) H1 locs1 → W p l e R s m args below meth c H1 locs1 cells slots Q (F0 m (pc + 1) ls rest)) : W p l e R s m args below meth c H locs cells slots Q (F0 m pc ls (.int x :: .int i :: .ref (A o (k + 1)) :: rest)) := by
  obtain ⟨q, hq⟩ := ti_obG hob (k + 1) hj
  refine va_zast (cA := cy 3) (n := n) (f := tY M o k) C.1 C.2.1 C.2.2.2.2.1 hw.1 (ti_W_D C.2.2.2.2.2.2.1 cy M) hw.2 q 3 (by rw [ti_W_at hq]; simp only [ti_G, hob.1, har]) rfl hi hdg ?_
  intro H1 locs1 hP hD hS
  refine kk H1 locs1 ⟨?_, hS⟩
  have e : (ti_W Ls A cy M).set q (A o (k + 1), ti_G A cy (uY M o k (upd (tY M o k) i.toNatClampNeg (vp_nar .boolean x))) o (k + 1)) = ti_W Ls A cy (uY M o k (upd (tY M o k) i.toNatClampNeg (vp_nar .boolean x))) := ti_W_set C.2.2.2.2.2.2.2 hq (fun r2 h2 => ti_G_uY r2 h2)
  rw [← e]
  simpa only [ti_G, hob.1, har, tY_u] using hP
theorem ti_lald {ci o k n : Nat} (C : ti_C p s m c args cc own nL D cy Ls A) (hw : ti_H Ls D A cy H0 M H locs) (hob : ti_ob Ls o ci) (hj : k + 1 ∈ ti_parts ci) (har : ∀ f g, ti_ar A cy ci o k f g = (cy 2, n, .inr (.inl g))) {i : Int32} (hi : vp_in i n) (hdg : decode cc pc = .ok (.laload, 1))
    (kk : W p l e R s m args below meth c H locs cells slots Q (F0 m (pc + 1) ls (.long (tZ M o k i.toNatClampNeg) :: rest))) : W p l e R s m args below meth c H locs cells slots Q (F0 m pc ls (.int i :: .ref (A o (k + 1)) :: rest)) := by
  obtain ⟨q, hq⟩ := ti_obG hob (k + 1) hj
  exact va_lald C.1 C.2.1 C.2.2.2.2.1 hw.1 q 2 (by rw [ti_W_at hq]; simp only [ti_G, hob.1, har]) rfl hi hdg kk
theorem ti_last {ci o k n : Nat} (C : ti_C p s m c args cc own nL D cy Ls A) (hw : ti_H Ls D A cy H0 M H locs) (hob : ti_ob Ls o ci) (hj : k + 1 ∈ ti_parts ci) (har : ∀ f g, ti_ar A cy ci o k f g = (cy 2, n, .inr (.inl g))) {i : Int32} {x : Int64} (hi : vp_in i n) (hdg : decode cc pc = .ok (.lastore, 1))
    (kk : ∀ (H1 : Heap) (locs1 : List Loc), ti_H Ls D A cy H0 (uZ M o k (vp_updL (tZ M o k) i.toNatClampNeg x)) H1 locs1 → W p l e R s m args below meth c H1 locs1 cells slots Q (F0 m (pc + 1) ls rest)) : W p l e R s m args below meth c H locs cells slots Q (F0 m pc ls (.long x :: .int i :: .ref (A o (k + 1)) :: rest)) := by
  obtain ⟨q, hq⟩ := ti_obG hob (k + 1) hj
  refine va_last (cA := cy 2) (n := n) (f := tZ M o k) C.1 C.2.1 C.2.2.2.2.1 hw.1 (ti_W_D C.2.2.2.2.2.2.1 cy M) hw.2 q 2 (by rw [ti_W_at hq]; simp only [ti_G, hob.1, har]) rfl hi hdg ?_
  intro H1 locs1 hP hD hS
  refine kk H1 locs1 ⟨?_, hS⟩
  have e : (ti_W Ls A cy M).set q (A o (k + 1), ti_G A cy (uZ M o k (vp_updL (tZ M o k) i.toNatClampNeg x)) o (k + 1)) = ti_W Ls A cy (uZ M o k (vp_updL (tZ M o k) i.toNatClampNeg x)) := ti_W_set C.2.2.2.2.2.2.2 hq (fun r2 h2 => ti_G_uZ r2 h2)
  rw [← e]
  simpa only [ti_G, hob.1, har, tZ_u] using hP
/-- a row of references: t0 is its kind in ti_ty, gg the object at each place -/
theorem ti_aald {ci o k n t0 : Nat} {Cn : String} {gg : Nat → Nat} (C : ti_C p s m c args cc own nL D cy Ls A) (hw : ti_H Ls D A cy H0 M H locs) (hob : ti_ob Ls o ci) (hj : k + 1 ∈ ti_parts ci) (har : ∀ f g, ti_ar A cy ci o k f g = (cy t0, n, .inr (.inr (.inr (.inr (ti_rw A n gg)))))) (ht : (ti_ty cy)[t0]? = some (cy t0, .object Cn)) {i : Int32} (hi : vp_in i n) {j : Nat} (hjn : i.toNatClampNeg = j) (hdg : decode cc pc = .ok (.aaload, 1))
    (kk : W p l e R s m args below meth c H locs cells slots Q (F0 m (pc + 1) ls (.ref (A (gg j) 0) :: rest))) : W p l e R s m args below meth c H locs cells slots Q (F0 m pc ls (.int i :: .ref (A o (k + 1)) :: rest)) := by
  obtain ⟨q, hq⟩ := ti_obG hob (k + 1) hj
  have hlt : j < n := by rw [← hjn]; exact Nat.lt_of_not_le (fun h => hi (Or.inr h))
  exact va_aldq (f := ti_rw A n gg) C.1 C.2.1 C.2.2.2.2.1 hw.1 q t0 (by rw [ti_W_at hq]; simp only [ti_G, hob.1, har]) ht hi hdg (by rw [hjn, ti_rw_at A gg n j hlt]; exact kk)
/-- what a call site's words are -/
def ti_V (own : String) (idx : Nat) (y : MethodName) (cc : ByteArray) (n : Nat) (ret : Option FieldType) : Prop := Cond.methodLink own idx y ∈ lw_g ∧ Cond.instanceMethod y ∈ lw_g ∧ Cond.selects y.cls y y ∈ lw_g ∧ Cond.initialized y.cls ∈ lw_g ∧ Cond.code y cc n ret ∈ lw_g
def ti_Vs (own : String) (idx : Nat) (y : MethodName) (cc : ByteArray) (n : Nat) (ret : Option FieldType) : Prop := Cond.methodLink own idx y ∈ lw_g ∧ Cond.static y ∈ lw_g ∧ Cond.initialized y.cls ∈ lw_g ∧ Cond.code y cc n ret ∈ lw_g
def ti_Vd (y : MethodName) (a : Nat) : Prop := y.cls ≠ "java/lang/invoke/MethodHandle" ∧ y.cls ≠ "java/lang/invoke/VarHandle" ∧ (parseMethodDescriptor y.desc).map (fun d => d.parameters.length) = some a
theorem ti_cwV {y : MethodName} {cc2 : ByteArray} {n2 k2 idx a : Nat} {ret : Option FieldType} (C : ti_C p s m c args cc own nL D cy Ls A) (hV : ti_V own idx y cc2 n2 ret) (hd : ti_Vd y a) (hR : k2 + 1 ≤ R.frames ∧ 8 + (n2 + 11) + 60 * k2 ≤ R.locals) : CallW R s args own y.cls idx y cc2 n2 ret (.code y cc2 n2 ret :: lw_g) (ti_rm k2) 0 0 a := by
  refine cwV a C.2.2.1 (lw_g_good ?_) rfl rfl rfl ⟨rfl, hd⟩ hR
  intro w hw
  simp only [wsV, List.cons_append, List.nil_append, List.mem_cons] at hw
  rcases hw with rfl | rfl | rfl | rfl | rfl | hw
  · exact hV.1
  · exact hV.2.1
  · exact hV.2.2.1
  · exact hV.2.2.2.1
  · exact hV.2.2.2.2
  · exact hw
theorem ti_cwS {y : MethodName} {cc2 : ByteArray} {n2 k2 idx a : Nat} {ret : Option FieldType} (C : ti_C p s m c args cc own nL D cy Ls A) (hV : ti_Vs own idx y cc2 n2 ret) (hd : ti_Vd y a) (hR : k2 + 1 ≤ R.frames ∧ 8 + (n2 + 11) + 60 * k2 ≤ R.locals) : CallB R s args own idx y cc2 n2 ret (.code y cc2 n2 ret :: lw_g) (ti_rm k2) 0 0 a ∧ (Cond.static y).before args s = true := by
  refine ⟨callB_of a C.2.2.1 (lw_g_good ?_) rfl rfl rfl (C.2.2.1 _ hV.2.2.1) (C.2.2.1 _ hV.1) hd hR, C.2.2.1 _ hV.2.1⟩
  intro w hw
  rcases List.mem_cons.mp hw with rfl | hw
  · exact hV.2.2.2
  · exact hw
theorem ti_pre {av : List Value} (C : ti_C p s m c args cc own nL D cy Ls A) (hw : ti_H Ls D A cy H0 M H locs) : ∀ U : State, U.heap = H → s.WarmedH U.vm → ti_Pc Ls D A cy M av av.toArray U := fun U hU hW => ⟨rfl, by rw [hU]; exact hw.1, va_K.moved hW.alike C.2.2.2.2.1⟩
theorem ti_recv {o ci : Nat} {q : vw_C} (C : ti_C p s m c args cc own nL D cy Ls A) (hw : ti_H Ls D A cy H0 M H locs) (hob : ti_ob Ls o ci) (hj : 0 ∈ ti_parts ci) (hcl : vwCl[ci]? = some q) : ∃ cell : Cell, H[A o 0]? = some cell ∧ cell.vm.isStatics = false ∧ s.vm.findClass q.1 = some cell.cls := by
  obtain ⟨i, hi⟩ := ti_obG hob 0 hj
  exact va_recv C.2.2.2.2.1 hw.1 hcl (q0 := i) (fs := ti_fs A ci o (tI M o) (tT M o)) (by rw [ti_W_at hi]; simp only [ti_G, hob.1])
theorem ti_callVi {y : MethodName} {cc2 : ByteArray} {n2 k2 idx o ci : Nat} {ret : Option FieldType} {av st : List Value} {post : Int32 → ti_M → Prop} {T : u_T} {N : Nat} (C : ti_C p s m c args cc own nL D cy Ls A) (hw : ti_H Ls D A cy H0 M H locs)
    (hM : ti_Ki l y cc2 n2 ret k2 Ls D A cy M (.ref (A o 0) :: av) post) (hV : ti_V own idx y cc2 n2 ret) (hd : ti_Vd y av.length) (hob : ti_ob Ls o ci) (hj : 0 ∈ ti_parts ci) (hcl : vwCl[ci]? = some (y.cls, T, N)) (hst : st = av.reverse ++ .ref (A o 0) :: rest) (hsz : ls.size = nL) (hrs : (rest.map fun v => v.category).sum ≤ 8) (hR : k2 + 1 ≤ R.frames ∧ 8 + (n2 + 11) + 60 * k2 ≤ R.locals) (hcs : cells ≤ R.cells ∧ slots ≤ R.slots) (hdg : decode cc pc = .ok (.invokevirtual idx, 3))
    (kk : ∀ (r : Int32) (M2 : ti_M) (H1 : Heap) (locs1 : List Loc), post r M2 → ti_H Ls D A cy H0 M2 H1 locs1 → W p l e R s m args below meth c H1 locs1 cells slots Q (F0 m (pc + 3) ls (.int r :: rest))) : W p l e R s m args below meth c H locs cells slots Q (F0 m pc ls st) := by
  subst hst
  refine va_calli (va_runV (As := av) (rest := rest) ⟨C.1, C.2.1, C.2.2.2.2.2.1, C.2.2.2.1, C.2.2.1⟩ hM (ti_cwV C hV hd hR) ⟨ti_blind, ti_recv C hw hob hj hcl, ti_pre C hw⟩ rfl rfl hsz rfl (lv_room hrs) hdg ⟨hcs.1, hcs.2⟩) hw.2 (fun q _ h => h) (fun q h => h) ?_
  intro r u t H1 locs1 ht hvm hpo hB hz hk hS
  exact kk r u H1 locs1 hpo ⟨by rw [← ht]; exact hB, hS⟩
theorem ti_callVl {y : MethodName} {cc2 : ByteArray} {n2 k2 idx o ci : Nat} {ret : Option FieldType} {av st : List Value} {post : Int64 → ti_M → Prop} {T : u_T} {N : Nat} (C : ti_C p s m c args cc own nL D cy Ls A) (hw : ti_H Ls D A cy H0 M H locs)
    (hM : ti_Kl l y cc2 n2 ret k2 Ls D A cy M (.ref (A o 0) :: av) post) (hV : ti_V own idx y cc2 n2 ret) (hd : ti_Vd y av.length) (hob : ti_ob Ls o ci) (hj : 0 ∈ ti_parts ci) (hcl : vwCl[ci]? = some (y.cls, T, N)) (hst : st = av.reverse ++ .ref (A o 0) :: rest) (hsz : ls.size = nL) (hrs : (rest.map fun v => v.category).sum ≤ 8) (hR : k2 + 1 ≤ R.frames ∧ 8 + (n2 + 11) + 60 * k2 ≤ R.locals) (hcs : cells ≤ R.cells ∧ slots ≤ R.slots) (hdg : decode cc pc = .ok (.invokevirtual idx, 3))
    (kk : ∀ (r : Int64) (M2 : ti_M) (H1 : Heap) (locs1 : List Loc), post r M2 → ti_H Ls D A cy H0 M2 H1 locs1 → W p l e R s m args below meth c H1 locs1 cells slots Q (F0 m (pc + 3) ls (.long r :: rest))) : W p l e R s m args below meth c H locs cells slots Q (F0 m pc ls st) := by
  subst hst
  refine va_calll (va_runV (As := av) (rest := rest) ⟨C.1, C.2.1, C.2.2.2.2.2.1, C.2.2.2.1, C.2.2.1⟩ hM (ti_cwV C hV hd hR) ⟨ti_blind, ti_recv C hw hob hj hcl, ti_pre C hw⟩ rfl rfl hsz rfl (lv_room hrs) hdg ⟨hcs.1, hcs.2⟩) hw.2 (fun q _ h => h) (fun q h => h) ?_
  intro r u t H1 locs1 ht hvm hpo hB hz hk hS
  exact kk r u H1 locs1 hpo ⟨by rw [← ht]; exact hB, hS⟩
theorem ti_callVv {y : MethodName} {cc2 : ByteArray} {n2 k2 idx o ci : Nat} {av st : List Value} {post : ti_M → Prop} {T : u_T} {N : Nat} (C : ti_C p s m c args cc own nL D cy Ls A) (hw : ti_H Ls D A cy H0 M H locs)
    (hM : ti_Kv l y cc2 n2 k2 Ls D A cy M (.ref (A o 0) :: av) post) (hV : ti_V own idx y cc2 n2 none) (hd : ti_Vd y av.length) (hob : ti_ob Ls o ci) (hj : 0 ∈ ti_parts ci) (hcl : vwCl[ci]? = some (y.cls, T, N)) (hst : st = av.reverse ++ .ref (A o 0) :: rest) (hsz : ls.size = nL) (hrs : (rest.map fun v => v.category).sum ≤ 8) (hR : k2 + 1 ≤ R.frames ∧ 8 + (n2 + 11) + 60 * k2 ≤ R.locals) (hcs : cells ≤ R.cells ∧ slots ≤ R.slots) (hdg : decode cc pc = .ok (.invokevirtual idx, 3))
    (kk : ∀ (M2 : ti_M) (H1 : Heap) (locs1 : List Loc), post M2 → ti_H Ls D A cy H0 M2 H1 locs1 → W p l e R s m args below meth c H1 locs1 cells slots Q (F0 m (pc + 3) ls rest)) : W p l e R s m args below meth c H locs cells slots Q (F0 m pc ls st) := by
  subst hst
  refine va_callv (va_runV (As := av) (rest := rest) ⟨C.1, C.2.1, C.2.2.2.2.2.1, C.2.2.2.1, C.2.2.1⟩ hM (ti_cwV C hV hd hR) ⟨ti_blind, ti_recv C hw hob hj hcl, ti_pre C hw⟩ rfl rfl hsz rfl (lv_room hrs) hdg ⟨hcs.1, hcs.2⟩) hw.2 (fun q _ h => h) (fun q h => h) ?_
  intro u t H1 locs1 ht hvm hpo hB hz hk hS
  exact kk u H1 locs1 hpo ⟨by rw [← ht]; exact hB, hS⟩
theorem ti_callSi {y : MethodName} {cc2 : ByteArray} {n2 k2 idx : Nat} {ret : Option FieldType} {av st : List Value} {post : Int32 → ti_M → Prop} (C : ti_C p s m c args cc own nL D cy Ls A) (hw : ti_H Ls D A cy H0 M H locs)
    (hM : ti_Ki l y cc2 n2 ret k2 Ls D A cy M av post) (hV : ti_Vs own idx y cc2 n2 ret) (hd : ti_Vd y av.length) (hst : st = av.reverse ++ rest) (hsz : ls.size = nL) (hrs : (rest.map fun v => v.category).sum ≤ 8) (hR : k2 + 1 ≤ R.frames ∧ 8 + (n2 + 11) + 60 * k2 ≤ R.locals) (hcs : cells ≤ R.cells ∧ slots ≤ R.slots) (hdg : decode cc pc = .ok (.invokestatic idx, 3))
    (kk : ∀ (r : Int32) (M2 : ti_M) (H1 : Heap) (locs1 : List Loc), post r M2 → ti_H Ls D A cy H0 M2 H1 locs1 → W p l e R s m args below meth c H1 locs1 cells slots Q (F0 m (pc + 3) ls (.int r :: rest))) : W p l e R s m args below meth c H locs cells slots Q (F0 m pc ls st) := by
  subst hst
  refine va_calli (va_runS (As := av) (rest := rest) ⟨C.1, C.2.1, C.2.2.2.2.2.1, C.2.2.2.1, C.2.2.1⟩ hM (ti_cwS C hV hd hR) ⟨ti_blind, ti_pre C hw⟩ rfl rfl hsz rfl (lv_room hrs) hdg ⟨hcs.1, hcs.2⟩) hw.2 (fun q _ h => h) (fun q h => h) ?_
  intro r u t H1 locs1 ht hvm hpo hB hz hk hS
  exact kk r u H1 locs1 hpo ⟨by rw [← ht]; exact hB, hS⟩
theorem ti_callSl {y : MethodName} {cc2 : ByteArray} {n2 k2 idx : Nat} {ret : Option FieldType} {av st : List Value} {post : Int64 → ti_M → Prop} (C : ti_C p s m c args cc own nL D cy Ls A) (hw : ti_H Ls D A cy H0 M H locs)
    (hM : ti_Kl l y cc2 n2 ret k2 Ls D A cy M av post) (hV : ti_Vs own idx y cc2 n2 ret) (hd : ti_Vd y av.length) (hst : st = av.reverse ++ rest) (hsz : ls.size = nL) (hrs : (rest.map fun v => v.category).sum ≤ 8) (hR : k2 + 1 ≤ R.frames ∧ 8 + (n2 + 11) + 60 * k2 ≤ R.locals) (hcs : cells ≤ R.cells ∧ slots ≤ R.slots) (hdg : decode cc pc = .ok (.invokestatic idx, 3))
    (kk : ∀ (r : Int64) (M2 : ti_M) (H1 : Heap) (locs1 : List Loc), post r M2 → ti_H Ls D A cy H0 M2 H1 locs1 → W p l e R s m args below meth c H1 locs1 cells slots Q (F0 m (pc + 3) ls (.long r :: rest))) : W p l e R s m args below meth c H locs cells slots Q (F0 m pc ls st) := by
  subst hst
  refine va_calll (va_runS (As := av) (rest := rest) ⟨C.1, C.2.1, C.2.2.2.2.2.1, C.2.2.2.1, C.2.2.1⟩ hM (ti_cwS C hV hd hR) ⟨ti_blind, ti_pre C hw⟩ rfl rfl hsz rfl (lv_room hrs) hdg ⟨hcs.1, hcs.2⟩) hw.2 (fun q _ h => h) (fun q h => h) ?_
  intro r u t H1 locs1 ht hvm hpo hB hz hk hS
  exact kk r u H1 locs1 hpo ⟨by rw [← ht]; exact hB, hS⟩
theorem ti_callSv {y : MethodName} {cc2 : ByteArray} {n2 k2 idx : Nat} {av st : List Value} {post : ti_M → Prop} (C : ti_C p s m c args cc own nL D cy Ls A) (hw : ti_H Ls D A cy H0 M H locs)
    (hM : ti_Kv l y cc2 n2 k2 Ls D A cy M av post) (hV : ti_Vs own idx y cc2 n2 none) (hd : ti_Vd y av.length) (hst : st = av.reverse ++ rest) (hsz : ls.size = nL) (hrs : (rest.map fun v => v.category).sum ≤ 8) (hR : k2 + 1 ≤ R.frames ∧ 8 + (n2 + 11) + 60 * k2 ≤ R.locals) (hcs : cells ≤ R.cells ∧ slots ≤ R.slots) (hdg : decode cc pc = .ok (.invokestatic idx, 3))
    (kk : ∀ (M2 : ti_M) (H1 : Heap) (locs1 : List Loc), post M2 → ti_H Ls D A cy H0 M2 H1 locs1 → W p l e R s m args below meth c H1 locs1 cells slots Q (F0 m (pc + 3) ls rest)) : W p l e R s m args below meth c H locs cells slots Q (F0 m pc ls st) := by
  subst hst
  refine va_callv (va_runS (As := av) (rest := rest) ⟨C.1, C.2.1, C.2.2.2.2.2.1, C.2.2.2.1, C.2.2.1⟩ hM (ti_cwS C hV hd hR) ⟨ti_blind, ti_pre C hw⟩ rfl rfl hsz rfl (lv_room hrs) hdg ⟨hcs.1, hcs.2⟩) hw.2 (fun q _ h => h) (fun q h => h) ?_
  intro u t H1 locs1 ht hvm hpo hB hz hk hS
  exact kk u H1 locs1 hpo ⟨by rw [← ht]; exact hB, hS⟩
end
end
section
theorem lw_i1 {w : Cond} (j : Nat) (h : tables_1_1[j]? = some w) (hg : goodWord w = true) : w ∈ lw_g := lw_g_in (by
  have h := List.mem_of_getElem? h
  exact List.mem_append.mpr (Or.inr (List.mem_append.mpr (Or.inl h)))) hg
theorem lw_i2 {w : Cond} (j : Nat) (h : tables_1_2[j]? = some w) (hg : goodWord w = true) : w ∈ lw_g := lw_g_in (by
  have h := List.mem_of_getElem? h
  exact List.mem_append.mpr (Or.inr (List.mem_append.mpr (Or.inr (List.mem_append.mpr (Or.inl h)))))) hg
theorem lw_i3 {w : Cond} (j : Nat) (h : tables_1_3[j]? = some w) (hg : goodWord w = true) : w ∈ lw_g := lw_g_in (by
  have h := List.mem_of_getElem? h
  exact List.mem_append.mpr (Or.inr (List.mem_append.mpr (Or.inr (List.mem_append.mpr (Or.inr (List.mem_append.mpr (Or.inl h)))))))) hg
theorem lw_i4 {w : Cond} (j : Nat) (h : tables_1_4[j]? = some w) (hg : goodWord w = true) : w ∈ lw_g := lw_g_in (by
  have h := List.mem_of_getElem? h
  exact List.mem_append.mpr (Or.inr (List.mem_append.mpr (Or.inr (List.mem_append.mpr (Or.inr (List.mem_append.mpr (Or.inr (List.mem_append.mpr (Or.inl h)))))))))) hg
theorem lw_i5 {w : Cond} (j : Nat) (h : tables_1_5[j]? = some w) (hg : goodWord w = true) : w ∈ lw_g := lw_g_in (by
  have h := List.mem_of_getElem? h
  exact List.mem_append.mpr (Or.inr (List.mem_append.mpr (Or.inr (List.mem_append.mpr (Or.inr (List.mem_append.mpr (Or.inr (List.mem_append.mpr (Or.inr (List.mem_append.mpr (Or.inl h)))))))))))) hg
theorem lw_i6 {w : Cond} (j : Nat) (h : tables_1_6[j]? = some w) (hg : goodWord w = true) : w ∈ lw_g := lw_g_in (by
  have h := List.mem_of_getElem? h
  exact List.mem_append.mpr (Or.inr (List.mem_append.mpr (Or.inr (List.mem_append.mpr (Or.inr (List.mem_append.mpr (Or.inr (List.mem_append.mpr (Or.inr (List.mem_append.mpr (Or.inr (List.mem_append.mpr (Or.inl h)))))))))))))) hg
theorem lw_i7 {w : Cond} (j : Nat) (h : tables_1_7[j]? = some w) (hg : goodWord w = true) : w ∈ lw_g := lw_g_in (by
  have h := List.mem_of_getElem? h
  exact List.mem_append.mpr (Or.inr (List.mem_append.mpr (Or.inr (List.mem_append.mpr (Or.inr (List.mem_append.mpr (Or.inr (List.mem_append.mpr (Or.inr (List.mem_append.mpr (Or.inr (List.mem_append.mpr (Or.inr (List.mem_append.mpr (Or.inl h)))))))))))))))) hg
theorem lw_i8 {w : Cond} (j : Nat) (h : tables_1_8[j]? = some w) (hg : goodWord w = true) : w ∈ lw_g := lw_g_in (by
  have h := List.mem_of_getElem? h
  exact List.mem_append.mpr (Or.inr (List.mem_append.mpr (Or.inr (List.mem_append.mpr (Or.inr (List.mem_append.mpr (Or.inr (List.mem_append.mpr (Or.inr (List.mem_append.mpr (Or.inr (List.mem_append.mpr (Or.inr (List.mem_append.mpr (Or.inr (h))))))))))))))))) hg
theorem iw_0 : ∀ w ∈ wsX00, w ∈ lw_g := by decide +kernel
theorem iw_1 : ∀ w ∈ wsX10, w ∈ lw_g := by decide +kernel
theorem iw_2 : ∀ w ∈ wsX20, w ∈ lw_g := by decide +kernel
theorem iw_3 : ∀ w ∈ wsX30, w ∈ lw_g := by decide +kernel
theorem iw_4 : ∀ w ∈ wsX40, w ∈ lw_g := by decide +kernel
theorem iw_5 : ∀ w ∈ wsX50, w ∈ lw_g := by decide +kernel
theorem iw_6 : ∀ w ∈ wsX60, w ∈ lw_g := by decide +kernel
theorem iw_7 : ∀ w ∈ wsX70, w ∈ lw_g := by decide +kernel
theorem iw_8 : ∀ w ∈ wsX80, w ∈ lw_g := by decide +kernel
theorem iw_9 : ∀ w ∈ wsX90, w ∈ lw_g := by decide +kernel
theorem iw_10 : ∀ w ∈ wsX100, w ∈ lw_g := by decide +kernel
theorem ml_L_17 : Cond.methodLink RL 17 yX9_init ∈ lw_g := lw_i1 27 rfl rfl
theorem fl_X7_9 : Cond.fieldLink RX7 9 RX7 "tape" "[B" ∈ lw_g := lw_i1 45 rfl rfl
theorem fl_X7_15 : Cond.fieldLink RX7 15 RX7 "many" "I" ∈ lw_g := lw_i1 46 rfl rfl
theorem fl_X9_73 : Cond.fieldLink RX9 73 RX7 "many" "I" ∈ lw_g := lw_i1 47 rfl rfl
theorem fl_X7_19 : Cond.fieldLink RX7 19 RX7 "length" "I" ∈ lw_g := lw_i1 48 rfl rfl
theorem fl_X7_22 : Cond.fieldLink RX7 22 RX7 "at" "I" ∈ lw_g := lw_i1 49 rfl rfl
theorem fl_X4_41 : Cond.fieldLink RX4 41 RX7 "kind" "I" ∈ lw_g := lw_i1 50 rfl rfl
theorem fl_X7_44 : Cond.fieldLink RX7 44 RX7 "kind" "I" ∈ lw_g := lw_i1 51 rfl rfl
theorem fl_X4_91 : Cond.fieldLink RX4 91 RX7 "place" "I" ∈ lw_g := lw_i1 52 rfl rfl
theorem fl_X7_38 : Cond.fieldLink RX7 38 RX7 "place" "I" ∈ lw_g := lw_i1 53 rfl rfl
theorem fl_X7_41 : Cond.fieldLink RX7 41 RX7 "value" "I" ∈ lw_g := lw_i1 54 rfl rfl
theorem fl_X4_95 : Cond.fieldLink RX4 95 RX7 "value" "I" ∈ lw_g := lw_i1 55 rfl rfl
theorem fl_X4_12 : Cond.fieldLink RX4 12 RX4 "tokens" "LThirdInLine$Tokens;" ∈ lw_g := lw_i1 72 rfl rfl
theorem fl_X9_69 : Cond.fieldLink RX9 69 RX4 "tokens" "LThirdInLine$Tokens;" ∈ lw_g := lw_i1 73 rfl rfl
theorem fl_X4_28 : Cond.fieldLink RX4 28 RX4 "told" "LThirdInLine$Told;" ∈ lw_g := lw_i1 74 rfl rfl
theorem fl_X4_154 : Cond.fieldLink RX4 154 RX4 "law" "LThirdInLine$Law;" ∈ lw_g := lw_i1 75 rfl rfl
theorem fl_X4_18 : Cond.fieldLink RX4 18 RX4 "heard" "I" ∈ lw_g := lw_i1 76 rfl rfl
theorem fl_X4_22 : Cond.fieldLink RX4 22 RX4 "fault" "I" ∈ lw_g := lw_i1 77 rfl rfl
theorem fl_X9_94 : Cond.fieldLink RX9 94 RX4 "fault" "I" ∈ lw_g := lw_i1 78 rfl rfl
theorem fl_X4_25 : Cond.fieldLink RX4 25 RX4 "place" "I" ∈ lw_g := lw_i1 79 rfl rfl
theorem fl_X9_97 : Cond.fieldLink RX9 97 RX4 "place" "I" ∈ lw_g := lw_i1 80 rfl rfl
theorem ml_X9_18 : Cond.methodLink RX9 18 yX8_init ∈ lw_g := lw_i1 96 rfl rfl
theorem fl_X8_63 : Cond.fieldLink RX8 63 RX2 "name" "I" ∈ lw_g := lw_i1 109 rfl rfl
theorem fl_X4_105 : Cond.fieldLink RX4 105 RX2 "name" "I" ∈ lw_g := lw_i1 110 rfl rfl
theorem fl_X1_46 : Cond.fieldLink RX1 46 RX2 "age" "I" ∈ lw_g := lw_i1 111 rfl rfl
theorem fl_X9_119 : Cond.fieldLink RX9 119 RX2 "age" "I" ∈ lw_g := lw_i1 112 rfl rfl
theorem fl_X4_114 : Cond.fieldLink RX4 114 RX2 "age" "I" ∈ lw_g := lw_i1 113 rfl rfl
theorem fl_X3_179 : Cond.fieldLink RX3 179 RX2 "age" "I" ∈ lw_g := lw_i1 114 rfl rfl
theorem fl_X1_51 : Cond.fieldLink RX1 51 RX2 "far" "I" ∈ lw_g := lw_i1 115 rfl rfl
theorem fl_X9_124 : Cond.fieldLink RX9 124 RX2 "far" "I" ∈ lw_g := lw_i1 116 rfl rfl
theorem fl_X4_117 : Cond.fieldLink RX4 117 RX2 "far" "I" ∈ lw_g := lw_i1 117 rfl rfl
theorem fl_X3_176 : Cond.fieldLink RX3 176 RX2 "far" "I" ∈ lw_g := lw_i1 118 rfl rfl
theorem fl_X3_89 : Cond.fieldLink RX3 89 RX2 "patience" "I" ∈ lw_g := lw_i1 119 rfl rfl
theorem fl_X4_120 : Cond.fieldLink RX4 120 RX2 "patience" "I" ∈ lw_g := lw_i1 120 rfl rfl
theorem fl_X1_54 : Cond.fieldLink RX1 54 RX2 "bucket" "I" ∈ lw_g := lw_i1 121 rfl rfl
theorem fl_X4_123 : Cond.fieldLink RX4 123 RX2 "bucket" "I" ∈ lw_g := lw_i1 122 rfl rfl
theorem fl_X3_203 : Cond.fieldLink RX3 203 RX2 "bucket" "I" ∈ lw_g := lw_i1 123 rfl rfl
theorem fl_X3_91 : Cond.fieldLink RX3 91 RX2 "coin" "I" ∈ lw_g := lw_i1 124 rfl rfl
theorem fl_X4_126 : Cond.fieldLink RX4 126 RX2 "coin" "I" ∈ lw_g := lw_i1 125 rfl rfl
theorem fl_X0_109 : Cond.fieldLink RX0 109 RX2 "bribe" "I" ∈ lw_g := lw_i1 126 rfl rfl
theorem fl_X4_129 : Cond.fieldLink RX4 129 RX2 "bribe" "I" ∈ lw_g := lw_i1 127 rfl rfl
theorem fl_X3_85 : Cond.fieldLink RX3 85 RX2 "comes" "I" ∈ lw_g := lw_i1 128 rfl rfl
theorem fl_X4_132 : Cond.fieldLink RX4 132 RX2 "comes" "I" ∈ lw_g := lw_i1 129 rfl rfl
theorem fl_X0_90 : Cond.fieldLink RX0 90 RX2 "leans" "Z" ∈ lw_g := lw_i1 130 rfl rfl
theorem fl_X4_135 : Cond.fieldLink RX4 135 RX2 "leans" "Z" ∈ lw_g := lw_i1 131 rfl rfl
theorem fl_X9_151 : Cond.fieldLink RX9 151 RX2 "guards" "I" ∈ lw_g := lw_i1 132 rfl rfl
theorem fl_X4_139 : Cond.fieldLink RX4 139 RX2 "guards" "I" ∈ lw_g := lw_i1 133 rfl rfl
theorem fl_X3_131 : Cond.fieldLink RX3 131 RX2 "guards" "I" ∈ lw_g := lw_i1 134 rfl rfl
theorem fl_X1_11 : Cond.fieldLink RX1 11 RX1 "code" "[I" ∈ lw_g := lw_i1 162 rfl rfl
theorem fl_X1_17 : Cond.fieldLink RX1 17 RX1 "stack" "[J" ∈ lw_g := lw_i1 163 rfl rfl
theorem fl_X1_21 : Cond.fieldLink RX1 21 RX1 "facts" "[J" ∈ lw_g := lw_i1 164 rfl rfl
theorem fl_X1_24 : Cond.fieldLink RX1 24 RX1 "length" "I" ∈ lw_g := lw_i1 165 rfl rfl
theorem fl_X8_60 : Cond.fieldLink RX8 60 RX1 "length" "I" ∈ lw_g := lw_i1 166 rfl rfl
theorem ml_X8_29 : Cond.methodLink RX8 29 yX8_clear ∈ lw_g := lw_i1 177 rfl rfl
theorem fl_X8_11 : Cond.fieldLink RX8 11 RX8 "men" "[LThirdInLine$Man;" ∈ lw_g := lw_i1 181 rfl rfl
theorem fl_X3_81 : Cond.fieldLink RX3 81 RX8 "men" "[LThirdInLine$Man;" ∈ lw_g := lw_i1 182 rfl rfl
theorem fl_X1_40 : Cond.fieldLink RX1 40 RX8 "men" "[LThirdInLine$Man;" ∈ lw_g := lw_i1 183 rfl rfl
theorem fl_X0_84 : Cond.fieldLink RX0 84 RX8 "men" "[LThirdInLine$Man;" ∈ lw_g := lw_i1 184 rfl rfl
theorem fl_X9_115 : Cond.fieldLink RX9 115 RX8 "men" "[LThirdInLine$Man;" ∈ lw_g := lw_i1 185 rfl rfl
theorem fl_X4_101 : Cond.fieldLink RX4 101 RX8 "men" "[LThirdInLine$Man;" ∈ lw_g := lw_i1 186 rfl rfl
theorem fl_X8_17 : Cond.fieldLink RX8 17 RX8 "powers" "[I" ∈ lw_g := lw_i1 187 rfl rfl
theorem fl_X3_71 : Cond.fieldLink RX3 71 RX8 "powers" "[I" ∈ lw_g := lw_i1 188 rfl rfl
theorem fl_X4_146 : Cond.fieldLink RX4 146 RX8 "powers" "[I" ∈ lw_g := lw_i1 189 rfl rfl
theorem fl_X8_23 : Cond.fieldLink RX8 23 RX8 "laws" "[LThirdInLine$Law;" ∈ lw_g := lw_i1 190 rfl rfl
theorem fl_X9_175 : Cond.fieldLink RX9 175 RX8 "laws" "[LThirdInLine$Law;" ∈ lw_g := lw_i1 191 rfl rfl
theorem fl_X4_150 : Cond.fieldLink RX4 150 RX8 "laws" "[LThirdInLine$Law;" ∈ lw_g := lw_i1 192 rfl rfl
theorem fl_X3_119 : Cond.fieldLink RX3 119 RX8 "laws" "[LThirdInLine$Law;" ∈ lw_g := lw_i1 193 rfl rfl
theorem fl_X8_32 : Cond.fieldLink RX8 32 RX8 "lines" "I" ∈ lw_g := lw_i1 194 rfl rfl
theorem fl_X4_88 : Cond.fieldLink RX4 88 RX8 "lines" "I" ∈ lw_g := lw_i1 195 rfl rfl
theorem fl_X9_91 : Cond.fieldLink RX9 91 RX8 "lines" "I" ∈ lw_g := lw_i1 196 rfl rfl
theorem fl_X8_36 : Cond.fieldLink RX8 36 RX8 "manyMen" "I" ∈ lw_g := lw_i1 197 rfl rfl
theorem fl_X3_78 : Cond.fieldLink RX3 78 RX8 "manyMen" "I" ∈ lw_g := lw_i1 198 rfl rfl
theorem fl_X0_106 : Cond.fieldLink RX0 106 RX8 "manyMen" "I" ∈ lw_g := lw_i1 199 rfl rfl
theorem fl_X4_98 : Cond.fieldLink RX4 98 RX8 "manyMen" "I" ∈ lw_g := lw_i1 200 rfl rfl
theorem fl_X6_64 : Cond.fieldLink RX6 64 RX8 "manyMen" "I" ∈ lw_g := lw_i1 201 rfl rfl
theorem fl_X9_301 : Cond.fieldLink RX9 301 RX8 "manyMen" "I" ∈ lw_g := lw_i1 202 rfl rfl
theorem fl_X8_39 : Cond.fieldLink RX8 39 RX8 "knots" "I" ∈ lw_g := lw_i1 203 rfl rfl
theorem fl_X4_161 : Cond.fieldLink RX4 161 RX8 "knots" "I" ∈ lw_g := lw_i1 204 rfl rfl
theorem fl_X9_304 : Cond.fieldLink RX9 304 RX8 "knots" "I" ∈ lw_g := lw_i1 205 rfl rfl
theorem fl_X8_42 : Cond.fieldLink RX8 42 RX8 "water" "I" ∈ lw_g := lw_i1 206 rfl rfl
theorem fl_X3_59 : Cond.fieldLink RX3 59 RX8 "water" "I" ∈ lw_g := lw_i1 207 rfl rfl
theorem fl_X4_60 : Cond.fieldLink RX4 60 RX8 "water" "I" ∈ lw_g := lw_i1 208 rfl rfl
theorem fl_X8_45 : Cond.fieldLink RX8 45 RX8 "rate" "I" ∈ lw_g := lw_i1 209 rfl rfl
theorem fl_X4_63 : Cond.fieldLink RX4 63 RX8 "rate" "I" ∈ lw_g := lw_i1 210 rfl rfl
theorem fl_X3_200 : Cond.fieldLink RX3 200 RX8 "rate" "I" ∈ lw_g := lw_i1 211 rfl rfl
theorem fl_X8_48 : Cond.fieldLink RX8 48 RX8 "levies" "I" ∈ lw_g := lw_i1 212 rfl rfl
theorem fl_X4_66 : Cond.fieldLink RX4 66 RX8 "levies" "I" ∈ lw_g := lw_i1 213 rfl rfl
theorem fl_X3_206 : Cond.fieldLink RX3 206 RX8 "levies" "I" ∈ lw_g := lw_i1 214 rfl rfl
theorem fl_X8_51 : Cond.fieldLink RX8 51 RX8 "ear" "I" ∈ lw_g := lw_i1 215 rfl rfl
theorem fl_X4_69 : Cond.fieldLink RX4 69 RX8 "ear" "I" ∈ lw_g := lw_i1 216 rfl rfl
theorem fl_X3_134 : Cond.fieldLink RX3 134 RX8 "ear" "I" ∈ lw_g := lw_i1 217 rfl rfl
theorem fl_X8_54 : Cond.fieldLink RX8 54 RX8 "mutter" "I" ∈ lw_g := lw_i1 218 rfl rfl
theorem fl_X4_72 : Cond.fieldLink RX4 72 RX8 "mutter" "I" ∈ lw_g := lw_i1 219 rfl rfl
theorem fl_X3_209 : Cond.fieldLink RX3 209 RX8 "mutter" "I" ∈ lw_g := lw_i1 220 rfl rfl
theorem fl_X3_65 : Cond.fieldLink RX3 65 RX8 "seed" "I" ∈ lw_g := lw_i1 221 rfl rfl
theorem fl_X8_57 : Cond.fieldLink RX8 57 RX8 "seed" "I" ∈ lw_g := lw_i1 222 rfl rfl
theorem fl_X4_76 : Cond.fieldLink RX4 76 RX8 "seed" "I" ∈ lw_g := lw_i1 223 rfl rfl
theorem fl_X3_45 : Cond.fieldLink RX3 45 RX3 "told" "LThirdInLine$Told;" ∈ lw_g := lw_i2 15 rfl rfl
theorem fl_X1_36 : Cond.fieldLink RX1 36 RX3 "told" "LThirdInLine$Told;" ∈ lw_g := lw_i2 16 rfl rfl
theorem fl_X0_80 : Cond.fieldLink RX0 80 RX3 "told" "LThirdInLine$Told;" ∈ lw_g := lw_i2 17 rfl rfl
theorem fl_X3_49 : Cond.fieldLink RX3 49 RX3 "manner" "I" ∈ lw_g := lw_i2 18 rfl rfl
theorem fl_X0_39 : Cond.fieldLink RX0 39 RX3 "manner" "I" ∈ lw_g := lw_i2 19 rfl rfl
theorem fl_X6_73 : Cond.fieldLink RX6 73 RX3 "manner" "I" ∈ lw_g := lw_i2 20 rfl rfl
theorem fl_X3_53 : Cond.fieldLink RX3 53 RX3 "minute" "I" ∈ lw_g := lw_i2 21 rfl rfl
theorem fl_X0_45 : Cond.fieldLink RX0 45 RX3 "minute" "I" ∈ lw_g := lw_i2 22 rfl rfl
theorem fl_X9_186 : Cond.fieldLink RX9 186 RX3 "minute" "I" ∈ lw_g := lw_i2 23 rfl rfl
theorem fl_X6_110 : Cond.fieldLink RX6 110 RX3 "minute" "I" ∈ lw_g := lw_i2 24 rfl rfl
theorem fl_X3_56 : Cond.fieldLink RX3 56 RX3 "size" "I" ∈ lw_g := lw_i2 25 rfl rfl
theorem fl_X0_68 : Cond.fieldLink RX0 68 RX3 "size" "I" ∈ lw_g := lw_i2 26 rfl rfl
theorem fl_X9_179 : Cond.fieldLink RX9 179 RX3 "size" "I" ∈ lw_g := lw_i2 27 rfl rfl
theorem fl_X3_64 : Cond.fieldLink RX3 64 RX3 "water" "I" ∈ lw_g := lw_i2 28 rfl rfl
theorem fl_X9_310 : Cond.fieldLink RX9 310 RX3 "water" "I" ∈ lw_g := lw_i2 29 rfl rfl
theorem fl_X3_68 : Cond.fieldLink RX3 68 RX3 "number" "I" ∈ lw_g := lw_i2 30 rfl rfl
theorem fl_X0_154 : Cond.fieldLink RX0 154 RX3 "number" "I" ∈ lw_g := lw_i2 31 rfl rfl
theorem fl_X3_9 : Cond.fieldLink RX3 9 RX3 "places" "[I" ∈ lw_g := lw_i2 32 rfl rfl
theorem fl_X0_77 : Cond.fieldLink RX0 77 RX3 "places" "[I" ∈ lw_g := lw_i2 33 rfl rfl
theorem fl_X3_15 : Cond.fieldLink RX3 15 RX3 "powers" "[I" ∈ lw_g := lw_i2 34 rfl rfl
theorem fl_X9_168 : Cond.fieldLink RX9 168 RX3 "powers" "[I" ∈ lw_g := lw_i2 35 rfl rfl
theorem fl_X0_137 : Cond.fieldLink RX0 137 RX3 "powers" "[I" ∈ lw_g := lw_i2 36 rfl rfl
theorem fl_X3_18 : Cond.fieldLink RX3 18 RX3 "state" "[I" ∈ lw_g := lw_i2 37 rfl rfl
theorem fl_X0_48 : Cond.fieldLink RX0 48 RX3 "state" "[I" ∈ lw_g := lw_i2 38 rfl rfl
theorem fl_X9_139 : Cond.fieldLink RX9 139 RX3 "state" "[I" ∈ lw_g := lw_i2 39 rfl rfl
theorem fl_X3_21 : Cond.fieldLink RX3 21 RX3 "comes" "[I" ∈ lw_g := lw_i2 40 rfl rfl
theorem fl_X0_57 : Cond.fieldLink RX0 57 RX3 "comes" "[I" ∈ lw_g := lw_i2 41 rfl rfl
theorem fl_X6_76 : Cond.fieldLink RX6 76 RX3 "comes" "[I" ∈ lw_g := lw_i2 42 rfl rfl
theorem fl_X3_24 : Cond.fieldLink RX3 24 RX3 "patience" "[I" ∈ lw_g := lw_i2 43 rfl rfl
theorem fl_X9_127 : Cond.fieldLink RX9 127 RX3 "patience" "[I" ∈ lw_g := lw_i2 44 rfl rfl
theorem fl_X3_27 : Cond.fieldLink RX3 27 RX3 "filled" "[I" ∈ lw_g := lw_i2 45 rfl rfl
theorem fl_X9_130 : Cond.fieldLink RX9 130 RX3 "filled" "[I" ∈ lw_g := lw_i2 46 rfl rfl
theorem fl_X3_30 : Cond.fieldLink RX3 30 RX3 "coin" "[I" ∈ lw_g := lw_i2 47 rfl rfl
theorem fl_X1_57 : Cond.fieldLink RX1 57 RX3 "coin" "[I" ∈ lw_g := lw_i2 48 rfl rfl
theorem fl_X9_133 : Cond.fieldLink RX9 133 RX3 "coin" "[I" ∈ lw_g := lw_i2 49 rfl rfl
theorem fl_X3_33 : Cond.fieldLink RX3 33 RX3 "joined" "[I" ∈ lw_g := lw_i2 50 rfl rfl
theorem fl_X3_36 : Cond.fieldLink RX3 36 RX3 "left" "[I" ∈ lw_g := lw_i2 51 rfl rfl
theorem fl_X0_54 : Cond.fieldLink RX0 54 RX3 "left" "[I" ∈ lw_g := lw_i2 52 rfl rfl
theorem fl_X3_39 : Cond.fieldLink RX3 39 RX3 "kneeling" "[I" ∈ lw_g := lw_i2 53 rfl rfl
theorem fl_X9_145 : Cond.fieldLink RX9 145 RX3 "kneeling" "[I" ∈ lw_g := lw_i2 54 rfl rfl
theorem fl_X3_42 : Cond.fieldLink RX3 42 RX3 "coughed" "[I" ∈ lw_g := lw_i2 55 rfl rfl
theorem fl_X9_148 : Cond.fieldLink RX9 148 RX3 "coughed" "[I" ∈ lw_g := lw_i2 56 rfl rfl
theorem ml_X9_39 : Cond.methodLink RX9 39 yX5_init ∈ lw_g := lw_i2 94 rfl rfl
theorem fl_X5_11 : Cond.fieldLink RX5 11 RX5 "ring" "[LThirdInLine$Queue;" ∈ lw_g := lw_i2 101 rfl rfl
theorem fl_X5_17 : Cond.fieldLink RX5 17 RX5 "first" "I" ∈ lw_g := lw_i2 102 rfl rfl
theorem fl_X5_21 : Cond.fieldLink RX5 21 RX5 "many" "I" ∈ lw_g := lw_i2 103 rfl rfl
theorem fl_X9_297 : Cond.fieldLink RX9 297 RX5 "many" "I" ∈ lw_g := lw_i2 104 rfl rfl
theorem fl_X6_9 : Cond.fieldLink RX6 9 RX6 "minutes" "[I" ∈ lw_g := lw_i2 120 rfl rfl
theorem fl_X6_15 : Cond.fieldLink RX6 15 RX6 "places" "[I" ∈ lw_g := lw_i2 121 rfl rfl
theorem fl_X6_18 : Cond.fieldLink RX6 18 RX6 "men" "[I" ∈ lw_g := lw_i2 122 rfl rfl
theorem fl_X6_21 : Cond.fieldLink RX6 21 RX6 "strikes" "[I" ∈ lw_g := lw_i2 123 rfl rfl
theorem fl_X6_24 : Cond.fieldLink RX6 24 RX6 "struck" "I" ∈ lw_g := lw_i2 124 rfl rfl
theorem fl_X6_28 : Cond.fieldLink RX6 28 RX6 "many" "I" ∈ lw_g := lw_i2 125 rfl rfl
theorem fl_X9_317 : Cond.fieldLink RX9 317 RX6 "many" "I" ∈ lw_g := lw_i2 126 rfl rfl
theorem fl_X6_31 : Cond.fieldLink RX6 31 RX6 "known" "I" ∈ lw_g := lw_i2 127 rfl rfl
theorem fl_X6_34 : Cond.fieldLink RX6 34 RX6 "searched" "Z" ∈ lw_g := lw_i2 128 rfl rfl
theorem fl_X6_38 : Cond.fieldLink RX6 38 RX6 "wayMan" "[I" ∈ lw_g := lw_i2 129 rfl rfl
theorem fl_X9_278 : Cond.fieldLink RX9 278 RX6 "wayMan" "[I" ∈ lw_g := lw_i2 130 rfl rfl
theorem fl_X6_41 : Cond.fieldLink RX6 41 RX6 "wayMinute" "[I" ∈ lw_g := lw_i2 131 rfl rfl
theorem fl_X9_281 : Cond.fieldLink RX9 281 RX6 "wayMinute" "[I" ∈ lw_g := lw_i2 132 rfl rfl
theorem fl_X6_44 : Cond.fieldLink RX6 44 RX6 "manyWays" "I" ∈ lw_g := lw_i2 133 rfl rfl
theorem fl_X9_275 : Cond.fieldLink RX9 275 RX6 "manyWays" "I" ∈ lw_g := lw_i2 134 rfl rfl
theorem fl_X6_50 : Cond.fieldLink RX6 50 RX6 "without" "LThirdInLine$Queue;" ∈ lw_g := lw_i2 135 rfl rfl
theorem fl_X6_54 : Cond.fieldLink RX6 54 RX6 "with" "LThirdInLine$Queue;" ∈ lw_g := lw_i2 136 rfl rfl
theorem fl_X0_12 : Cond.fieldLink RX0 12 RX0 "ahead" "LThirdInLine$Queue;" ∈ lw_g := lw_i2 172 rfl rfl
theorem fl_X0_18 : Cond.fieldLink RX0 18 RX0 "branch" "LThirdInLine$Queue;" ∈ lw_g := lw_i2 173 rfl rfl
theorem fl_X0_21 : Cond.fieldLink RX0 21 RX0 "oneHas" "[I" ∈ lw_g := lw_i2 174 rfl rfl
theorem fl_X0_25 : Cond.fieldLink RX0 25 RX0 "otherHas" "[I" ∈ lw_g := lw_i2 175 rfl rfl
theorem fl_X0_28 : Cond.fieldLink RX0 28 RX0 "restRow" "[I" ∈ lw_g := lw_i2 176 rfl rfl
theorem fl_X9_244 : Cond.fieldLink RX9 244 RX0 "restRow" "[I" ∈ lw_g := lw_i2 177 rfl rfl
theorem fl_X0_31 : Cond.fieldLink RX0 31 RX0 "manyRests" "I" ∈ lw_g := lw_i2 178 rfl rfl
theorem fl_X9_241 : Cond.fieldLink RX9 241 RX0 "manyRests" "I" ∈ lw_g := lw_i2 179 rfl rfl
theorem ml_X9_65 : Cond.methodLink RX9 65 yX3_start ∈ lw_g := lw_i2 193 rfl rfl
theorem ml_X3_93 : Cond.methodLink RX3 93 yJ7_fill_53178 ∈ lw_g := lw_i2 200 rfl rfl
theorem fl_X9_12 : Cond.fieldLink RX9 12 RX9 "reader" "LThirdInLine$Reader;" ∈ lw_g := lw_i2 203 rfl rfl
theorem fl_X9_19 : Cond.fieldLink RX9 19 RX9 "told" "LThirdInLine$Told;" ∈ lw_g := lw_i2 204 rfl rfl
theorem fl_X9_23 : Cond.fieldLink RX9 23 RX9 "spare" "LThirdInLine$Told;" ∈ lw_g := lw_i2 205 rfl rfl
theorem fl_X9_29 : Cond.fieldLink RX9 29 RX9 "now" "LThirdInLine$Queue;" ∈ lw_g := lw_i2 206 rfl rfl
theorem fl_X9_33 : Cond.fieldLink RX9 33 RX9 "past" "[I" ∈ lw_g := lw_i2 207 rfl rfl
theorem fl_X9_40 : Cond.fieldLink RX9 40 RX9 "steps" "LThirdInLine$Steps;" ∈ lw_g := lw_i2 208 rfl rfl
theorem fl_X9_44 : Cond.fieldLink RX9 44 RX9 "image" "LThirdInLine$Queue;" ∈ lw_g := lw_i2 209 rfl rfl
theorem fl_X9_47 : Cond.fieldLink RX9 47 RX9 "imaged" "Z" ∈ lw_g := lw_i2 210 rfl rfl
theorem fl_X9_54 : Cond.fieldLink RX9 54 RX9 "stones" "LThirdInLine$Stones;" ∈ lw_g := lw_i2 211 rfl rfl
theorem fl_X9_61 : Cond.fieldLink RX9 61 RX9 "counsel" "LThirdInLine$Counsel;" ∈ lw_g := lw_i2 212 rfl rfl
theorem ml_L_21 : Cond.methodLink RL 21 yX9_feed ∈ lw_g := lw_i2 234 rfl rfl
theorem ml_X9_79 : Cond.methodLink RX9 79 yX7_put ∈ lw_g := lw_i2 238 rfl rfl
theorem ml_L_26 : Cond.methodLink RL 26 yX9_text ∈ lw_g := lw_i3 2 rfl rfl
theorem ml_X9_83 : Cond.methodLink RX9 83 yX4_read ∈ lw_g := lw_i3 6 rfl rfl
theorem ml_X4_32 : Cond.methodLink RX4 32 yX8_clear ∈ lw_g := lw_i3 10 rfl rfl
theorem ml_X4_37 : Cond.methodLink RX4 37 yX7_begin ∈ lw_g := lw_i3 11 rfl rfl
theorem ml_X7_25 : Cond.methodLink RX7 25 yJ9_min_7cf53 ∈ lw_g := lw_i3 15 rfl rfl
theorem ml_X7_31 : Cond.methodLink RX7 31 yX7_advance ∈ lw_g := lw_i3 18 rfl rfl
theorem ml_X7_34 : Cond.methodLink RX7 34 yX7_peek ∈ lw_g := lw_i3 22 rfl rfl
theorem ml_X7_47 : Cond.methodLink RX7 47 yX7_isLetter ∈ lw_g := lw_i3 26 rfl rfl
theorem ml_X7_51 : Cond.methodLink RX7 51 yX7_readWord ∈ lw_g := lw_i3 29 rfl rfl
theorem ml_X7_65 : Cond.methodLink RX7 65 yX7_wordKind ∈ lw_g := lw_i3 33 rfl rfl
theorem ml_X7_70 : Cond.methodLink RX7 70 yJ0_charAt_5068e ∈ lw_g := lw_i3 38 rfl rfl
theorem ml_J0_492 : Cond.methodLink RJ0 492 yJ0_isLatin1_aae02 ∈ lw_g := lw_i3 42 rfl rfl
theorem fl_J0_38 : Cond.fieldLink RJ0 38 RJ0 "COMPACT_STRINGS" "Z" ∈ lw_g := lw_i3 46 rfl rfl
theorem ml_J0_495 : Cond.methodLink RJ0 495 yJ1_charAt_3b067 ∈ lw_g := lw_i3 48 rfl rfl
theorem ml_J1_9 : Cond.methodLink RJ1 9 yJ0_checkIndex_df160 ∈ lw_g := lw_i3 51 rfl rfl
theorem fl_J0_1053 : Cond.fieldLink RJ0 1053 RJ3 "SIOOBE_FORMATTER" "Ljava/util/function/BiFunction;" ∈ lw_g := lw_i3 54 rfl rfl
theorem ml_J0_1059 : Cond.methodLink RJ0 1059 yJ3_checkIndex_8e157 ∈ lw_g := lw_i3 56 rfl rfl
theorem ml_X7_54 : Cond.methodLink RX7 54 yX7_isDigit ∈ lw_g := lw_i3 78 rfl rfl
theorem ml_X7_57 : Cond.methodLink RX7 57 yX7_readNumber ∈ lw_g := lw_i3 81 rfl rfl
theorem cn_X7_64 : Cond.constant RX7 64 (1000000) ∈ lw_g := lw_i3 85 rfl rfl
theorem ml_X7_60 : Cond.methodLink RX7 60 yX7_signKind ∈ lw_g := lw_i3 86 rfl rfl
theorem ml_X7_76 : Cond.methodLink RX7 76 yX7_belongs ∈ lw_g := lw_i3 90 rfl rfl
theorem ml_X4_44 : Cond.methodLink RX4 44 yX4_readMan ∈ lw_g := lw_i3 94 rfl rfl
theorem ml_X4_82 : Cond.methodLink RX4 82 yX4_refuse ∈ lw_g := lw_i3 98 rfl rfl
theorem ml_X4_92 : Cond.methodLink RX4 92 yX7_advance ∈ lw_g := lw_i3 102 rfl rfl
theorem ml_X4_110 : Cond.methodLink RX4 110 yX8_find ∈ lw_g := lw_i3 103 rfl rfl
theorem ml_X4_85 : Cond.methodLink RX4 85 yX4_take ∈ lw_g := lw_i3 107 rfl rfl
theorem ml_X4_56 : Cond.methodLink RX4 56 yX4_number ∈ lw_g := lw_i3 111 rfl rfl
theorem ml_X4_47 : Cond.methodLink RX4 47 yX4_readGuard ∈ lw_g := lw_i3 115 rfl rfl
theorem ml_X4_142 : Cond.methodLink RX4 142 yX4_toldMan ∈ lw_g := lw_i3 119 rfl rfl
theorem ml_X4_50 : Cond.methodLink RX4 50 yX4_readPower ∈ lw_g := lw_i3 123 rfl rfl
theorem ml_X4_53 : Cond.methodLink RX4 53 yX4_once ∈ lw_g := lw_i3 127 rfl rfl
theorem cn_X4_75 : Cond.constant RX4 75 (99999) ∈ lw_g := lw_i3 131 rfl rfl
theorem ml_X4_79 : Cond.methodLink RX4 79 yX4_readLaw ∈ lw_g := lw_i3 132 rfl rfl
theorem ml_X4_158 : Cond.methodLink RX4 158 yX4_readEither ∈ lw_g := lw_i3 136 rfl rfl
theorem ml_X4_164 : Cond.methodLink RX4 164 yX4_readBoth ∈ lw_g := lw_i3 140 rfl rfl
theorem ml_X4_175 : Cond.methodLink RX4 175 yX4_readNegated ∈ lw_g := lw_i3 144 rfl rfl
theorem ml_X4_167 : Cond.methodLink RX4 167 yX4_knot ∈ lw_g := lw_i3 148 rfl rfl
theorem ml_X4_178 : Cond.methodLink RX4 178 yX4_readComparison ∈ lw_g := lw_i3 152 rfl rfl
theorem ml_X4_181 : Cond.methodLink RX4 181 yX4_readSum ∈ lw_g := lw_i3 156 rfl rfl
theorem ml_X4_184 : Cond.methodLink RX4 184 yX4_readProduct ∈ lw_g := lw_i3 160 rfl rfl
theorem ml_X4_187 : Cond.methodLink RX4 187 yX4_readPart ∈ lw_g := lw_i3 164 rfl rfl
theorem ml_X4_170 : Cond.methodLink RX4 170 yX1_add ∈ lw_g := lw_i3 168 rfl rfl
theorem ml_X9_87 : Cond.methodLink RX9 87 yX5_clear ∈ lw_g := lw_i3 172 rfl rfl
theorem ml_X9_90 : Cond.methodLink RX9 90 yX6_clear ∈ lw_g := lw_i3 176 rfl rfl
theorem ml_L_31 : Cond.methodLink RL 31 yX9_fault ∈ lw_g := lw_i3 180 rfl rfl
theorem ml_L_35 : Cond.methodLink RL 35 yX9_named ∈ lw_g := lw_i3 184 rfl rfl
theorem ml_X9_100 : Cond.methodLink RX9 100 yX8_find ∈ lw_g := lw_i3 188 rfl rfl
theorem ml_L_49 : Cond.methodLink RL 49 yX9_stands ∈ lw_g := lw_i3 189 rfl rfl
theorem ml_X9_159 : Cond.methodLink RX9 159 yX9_isPlace ∈ lw_g := lw_i3 193 rfl rfl
theorem ml_X9_162 : Cond.methodLink RX9 162 yX3_manAt ∈ lw_g := lw_i3 197 rfl rfl
theorem ml_L_53 : Cond.methodLink RL 53 yX9_holder ∈ lw_g := lw_i3 201 rfl rfl
theorem ml_X9_165 : Cond.methodLink RX9 165 yX9_isPower ∈ lw_g := lw_i3 205 rfl rfl
theorem ml_L_57 : Cond.methodLink RL 57 yX9_law ∈ lw_g := lw_i3 209 rfl rfl
theorem cn_X9_173 : Cond.constantLong RX9 173 (-9223372036854775808) ∈ lw_g := lw_i3 213 rfl rfl
theorem ml_X9_182 : Cond.methodLink RX9 182 yX1_value ∈ lw_g := lw_i3 214 rfl rfl
theorem ml_X1_28 : Cond.methodLink RX1 28 yX3_manAt ∈ lw_g := lw_i3 218 rfl rfl
theorem cn_X1_34 : Cond.constantLong RX1 34 (-9223372036854775808) ∈ lw_g := lw_i3 219 rfl rfl
theorem ml_X1_60 : Cond.methodLink RX1 60 yX3_waited ∈ lw_g := lw_i3 220 rfl rfl
theorem ml_X1_63 : Cond.methodLink RX1 63 yX1_work ∈ lw_g := lw_i3 224 rfl rfl
theorem cn_X1_67 : Cond.constantLong RX1 67 (1000000000000) ∈ lw_g := lw_i3 227 rfl rfl
theorem cn_X1_69 : Cond.constantLong RX1 69 (-1000000000000) ∈ lw_g := lw_i3 228 rfl rfl
theorem ml_X9_136 : Cond.methodLink RX9 136 yX3_placeOf ∈ lw_g := lw_i3 229 rfl rfl
theorem ml_L_62 : Cond.methodLink RL 62 yX9_go ∈ lw_g := lw_i3 233 rfl rfl
theorem ml_X9_189 : Cond.methodLink RX9 189 yX3_pass ∈ lw_g := lw_i3 237 rfl rfl
theorem ml_X3_143 : Cond.methodLink RX3 143 yX3_welcome ∈ lw_g := lw_i4 1 rfl rfl
theorem ml_X3_164 : Cond.methodLink RX3 164 yX3_nextToJoin ∈ lw_g := lw_i4 5 rfl rfl
theorem ml_X3_172 : Cond.methodLink RX3 172 yX3_joinsAhead ∈ lw_g := lw_i4 9 rfl rfl
theorem ml_X3_168 : Cond.methodLink RX3 168 yX3_append ∈ lw_g := lw_i4 12 rfl rfl
theorem ml_X3_146 : Cond.methodLink RX3 146 yX3_hearCoughs ∈ lw_g := lw_i4 16 rfl rfl
theorem ml_X3_182 : Cond.methodLink RX3 182 yX3_is ∈ lw_g := lw_i4 20 rfl rfl
theorem ml_X3_186 : Cond.methodLink RX3 186 yX3_lastHeard ∈ lw_g := lw_i4 24 rfl rfl
theorem ml_X3_137 : Cond.methodLink RX3 137 yJ9_min_7cf53 ∈ lw_g := lw_i4 28 rfl rfl
theorem ml_X3_189 : Cond.methodLink RX3 189 yX3_need ∈ lw_g := lw_i4 29 rfl rfl
theorem ml_X3_123 : Cond.methodLink RX3 123 yX1_value ∈ lw_g := lw_i4 33 rfl rfl
theorem ml_X3_127 : Cond.methodLink RX3 127 yX3_put ∈ lw_g := lw_i4 34 rfl rfl
theorem cn_X3_108 : Cond.constantLong RX3 108 (-9223372036854775808) ∈ lw_g := lw_i4 37 rfl rfl
theorem ml_X3_110 : Cond.methodLink RX3 110 yJ9_min_f86c9 ∈ lw_g := lw_i4 38 rfl rfl
theorem ml_X3_116 : Cond.methodLink RX3 116 yJ9_max_f86c9 ∈ lw_g := lw_i4 41 rfl rfl
theorem ml_X3_192 : Cond.methodLink RX3 192 yX3_isGuarded ∈ lw_g := lw_i4 44 rfl rfl
theorem ml_X3_196 : Cond.methodLink RX3 196 yX3_remove ∈ lw_g := lw_i4 48 rfl rfl
theorem ml_X3_99 : Cond.methodLink RX3 99 yX3_manAt ∈ lw_g := lw_i4 52 rfl rfl
theorem ml_X3_149 : Cond.methodLink RX3 149 yX3_pour ∈ lw_g := lw_i4 53 rfl rfl
theorem ml_X3_152 : Cond.methodLink RX3 152 yX3_levy ∈ lw_g := lw_i4 57 rfl rfl
theorem ml_X3_155 : Cond.methodLink RX3 155 yX3_wear ∈ lw_g := lw_i4 61 rfl rfl
theorem ml_X3_158 : Cond.methodLink RX3 158 yX3_release ∈ lw_g := lw_i4 65 rfl rfl
theorem ml_X3_161 : Cond.methodLink RX3 161 yX3_mutter ∈ lw_g := lw_i4 69 rfl rfl
theorem cn_X3_211 : Cond.constantLong RX3 211 (1103515245) ∈ lw_g := lw_i4 73 rfl rfl
theorem cn_X3_213 : Cond.constantLong RX3 213 (12345) ∈ lw_g := lw_i4 74 rfl rfl
theorem cn_X3_215 : Cond.constantLong RX3 215 (2147483647) ∈ lw_g := lw_i4 75 rfl rfl
theorem cn_X3_217 : Cond.constant RX3 217 (65536) ∈ lw_g := lw_i4 76 rfl rfl
theorem ml_X9_192 : Cond.methodLink RX9 192 yX9_recordHolders ∈ lw_g := lw_i4 77 rfl rfl
theorem ml_L_66 : Cond.methodLink RL 66 yX9_join ∈ lw_g := lw_i4 81 rfl rfl
theorem ml_X9_195 : Cond.methodLink RX9 195 yX9_isToCome ∈ lw_g := lw_i4 85 rfl rfl
theorem ml_X9_104 : Cond.methodLink RX9 104 yX9_isMan ∈ lw_g := lw_i4 89 rfl rfl
theorem ml_X9_198 : Cond.methodLink RX9 198 yX5_remember ∈ lw_g := lw_i4 93 rfl rfl
theorem ml_X5_25 : Cond.methodLink RX5 25 yX3_copy ∈ lw_g := lw_i4 97 rfl rfl
theorem ml_X9_202 : Cond.methodLink RX9 202 yX3_append ∈ lw_g := lw_i4 101 rfl rfl
theorem ml_L_70 : Cond.methodLink RL 70 yX9_out ∈ lw_g := lw_i4 102 rfl rfl
theorem ml_X9_205 : Cond.methodLink RX9 205 yX9_isInQueue ∈ lw_g := lw_i4 106 rfl rfl
theorem ml_X9_208 : Cond.methodLink RX9 208 yX3_remove ∈ lw_g := lw_i4 110 rfl rfl
theorem ml_L_75 : Cond.methodLink RL 75 yX9_swap ∈ lw_g := lw_i4 111 rfl rfl
theorem ml_X9_212 : Cond.methodLink RX9 212 yX3_exchange ∈ lw_g := lw_i4 115 rfl rfl
theorem ml_X3_103 : Cond.methodLink RX3 103 yX3_placeOf ∈ lw_g := lw_i4 119 rfl rfl
theorem ml_L_80 : Cond.methodLink RL 80 yX9_kneel ∈ lw_g := lw_i4 120 rfl rfl
theorem ml_L_85 : Cond.methodLink RL 85 yX9_cough ∈ lw_g := lw_i4 124 rfl rfl
theorem ml_L_89 : Cond.methodLink RL 89 yX9_move ∈ lw_g := lw_i4 128 rfl rfl
theorem ml_L_93 : Cond.methodLink RL 93 yX9_was ∈ lw_g := lw_i4 132 rfl rfl
theorem ml_L_97 : Cond.methodLink RL 97 yX9_ruled ∈ lw_g := lw_i4 136 rfl rfl
theorem ml_L_101 : Cond.methodLink RL 101 yX9_served ∈ lw_g := lw_i4 140 rfl rfl
theorem ml_X9_215 : Cond.methodLink RX9 215 yX0_servedIn ∈ lw_g := lw_i4 144 rfl rfl
theorem ml_X0_42 : Cond.methodLink RX0 42 yX0_prepare ∈ lw_g := lw_i4 148 rfl rfl
theorem ml_X0_35 : Cond.methodLink RX0 35 yX3_copy ∈ lw_g := lw_i4 152 rfl rfl
theorem ml_X0_51 : Cond.methodLink RX0 51 yX3_pass ∈ lw_g := lw_i4 153 rfl rfl
theorem ml_L_105 : Cond.methodLink RL 105 yX9_coming ∈ lw_g := lw_i4 154 rfl rfl
theorem ml_X9_219 : Cond.methodLink RX9 219 yX0_firstToCome ∈ lw_g := lw_i4 158 rfl rfl
theorem ml_X0_60 : Cond.methodLink RX0 60 yX3_passTo ∈ lw_g := lw_i4 162 rfl rfl
theorem ml_X3_140 : Cond.methodLink RX3 140 yX3_pass ∈ lw_g := lw_i4 166 rfl rfl
theorem ml_X0_64 : Cond.methodLink RX0 64 yX3_manAt ∈ lw_g := lw_i4 167 rfl rfl
theorem ml_L_110 : Cond.methodLink RL 110 yX9_decree ∈ lw_g := lw_i4 168 rfl rfl
theorem ml_X9_223 : Cond.methodLink RX9 223 yX9_isZeroOrOne ∈ lw_g := lw_i4 172 rfl rfl
theorem ml_X9_226 : Cond.methodLink RX9 226 yX0_bribes ∈ lw_g := lw_i4 176 rfl rfl
theorem ml_X0_71 : Cond.methodLink RX0 71 yJ9_min_7cf53 ∈ lw_g := lw_i4 180 rfl rfl
theorem ml_X0_96 : Cond.methodLink RX0 96 yJ6_bitCount_0f7a4 ∈ lw_g := lw_i4 181 rfl rfl
theorem cn_J6_265 : Cond.constant RJ6 265 (1431655765) ∈ lw_g := lw_i4 184 rfl rfl
theorem cn_J6_266 : Cond.constant RJ6 266 (858993459) ∈ lw_g := lw_i4 185 rfl rfl
theorem cn_J6_267 : Cond.constant RJ6 267 (252645135) ∈ lw_g := lw_i4 186 rfl rfl
theorem cn_X0_101 : Cond.constant RX0 101 (2147483647) ∈ lw_g := lw_i4 187 rfl rfl
theorem ml_X0_102 : Cond.methodLink RX0 102 yX0_price ∈ lw_g := lw_i4 188 rfl rfl
theorem ml_L_114 : Cond.methodLink RL 114 yX9_coup ∈ lw_g := lw_i4 191 rfl rfl
theorem ml_X9_229 : Cond.methodLink RX9 229 yX0_plotters ∈ lw_g := lw_i4 195 rfl rfl
theorem ml_X0_112 : Cond.methodLink RX0 112 yX3_need ∈ lw_g := lw_i4 199 rfl rfl
theorem ml_X0_116 : Cond.methodLink RX0 116 yX3_isGuarded ∈ lw_g := lw_i4 200 rfl rfl
theorem ml_X0_120 : Cond.methodLink RX0 120 yX3_lastHeard ∈ lw_g := lw_i4 201 rfl rfl
theorem ml_L_118 : Cond.methodLink RL 118 yX9_rests ∈ lw_g := lw_i4 202 rfl rfl
theorem ml_X9_233 : Cond.methodLink RX9 233 yX9_isGame ∈ lw_g := lw_i4 206 rfl rfl
theorem ml_X9_247 : Cond.methodLink RX9 247 yX9_isAhead ∈ lw_g := lw_i4 210 rfl rfl
theorem ml_X9_237 : Cond.methodLink RX9 237 yX0_play ∈ lw_g := lw_i4 214 rfl rfl
theorem ml_X0_123 : Cond.methodLink RX0 123 yX0_worth ∈ lw_g := lw_i4 218 rfl rfl
theorem ml_X0_130 : Cond.methodLink RX0 130 yX3_placeOf ∈ lw_g := lw_i4 222 rfl rfl
theorem ml_X0_126 : Cond.methodLink RX0 126 yX0_isRest ∈ lw_g := lw_i4 223 rfl rfl
theorem ml_L_122 : Cond.methodLink RL 122 yX9_rest ∈ lw_g := lw_i4 227 rfl rfl
theorem ml_L_127 : Cond.methodLink RL 127 yX9_best ∈ lw_g := lw_i4 231 rfl rfl
theorem ml_X9_251 : Cond.methodLink RX9 251 yX0_bestPlace ∈ lw_g := lw_i4 235 rfl rfl
theorem ml_X0_133 : Cond.methodLink RX0 133 yX0_minutesHeld ∈ lw_g := lw_i4 239 rfl rfl
theorem ml_L_131 : Cond.methodLink RL 131 yX9_fairest ∈ lw_g := lw_i5 3 rfl rfl
theorem ml_X9_255 : Cond.methodLink RX9 255 yX0_fairestPlace ∈ lw_g := lw_i5 7 rfl rfl
theorem ml_X0_140 : Cond.methodLink RX0 140 yX0_holders ∈ lw_g := lw_i5 11 rfl rfl
theorem ml_L_135 : Cond.methodLink RL 135 yX9_gain ∈ lw_g := lw_i5 15 rfl rfl
theorem ml_X9_258 : Cond.methodLink RX9 258 yX0_gainers ∈ lw_g := lw_i5 19 rfl rfl
theorem ml_X0_144 : Cond.methodLink RX0 144 yX3_remove ∈ lw_g := lw_i5 23 rfl rfl
theorem ml_X0_148 : Cond.methodLink RX0 148 yJ7_fill_53178 ∈ lw_g := lw_i5 24 rfl rfl
theorem ml_L_139 : Cond.methodLink RL 139 yX9_stone ∈ lw_g := lw_i5 25 rfl rfl
theorem ml_X9_262 : Cond.methodLink RX9 262 yX6_lay ∈ lw_g := lw_i5 29 rfl rfl
theorem ml_L_143 : Cond.methodLink RL 143 yX9_strike ∈ lw_g := lw_i5 33 rfl rfl
theorem ml_X9_266 : Cond.methodLink RX9 266 yX6_layStrike ∈ lw_g := lw_i5 37 rfl rfl
theorem ml_L_147 : Cond.methodLink RL 147 yX9_known ∈ lw_g := lw_i5 41 rfl rfl
theorem ml_X9_269 : Cond.methodLink RX9 269 yX6_knowBy ∈ lw_g := lw_i5 45 rfl rfl
theorem ml_L_151 : Cond.methodLink RL 151 yX9_came ∈ lw_g := lw_i5 49 rfl rfl
theorem ml_X9_272 : Cond.methodLink RX9 272 yX6_search ∈ lw_g := lw_i5 53 rfl rfl
theorem ml_X6_57 : Cond.methodLink RX6 57 yX6_markStruck ∈ lw_g := lw_i5 57 rfl rfl
theorem ml_X6_98 : Cond.methodLink RX6 98 yX6_knownBy ∈ lw_g := lw_i5 61 rfl rfl
theorem ml_X6_60 : Cond.methodLink RX6 60 yX6_lastMinute ∈ lw_g := lw_i5 65 rfl rfl
theorem ml_X6_101 : Cond.methodLink RX6 101 yX6_tells ∈ lw_g := lw_i5 69 rfl rfl
theorem ml_X6_104 : Cond.methodLink RX6 104 yJ9_max_7cf53 ∈ lw_g := lw_i5 73 rfl rfl
theorem ml_X6_69 : Cond.methodLink RX6 69 yX3_start ∈ lw_g := lw_i5 76 rfl rfl
theorem ml_X6_79 : Cond.methodLink RX6 79 yX3_copy ∈ lw_g := lw_i5 77 rfl rfl
theorem ml_X6_83 : Cond.methodLink RX6 83 yX6_fitsThrough ∈ lw_g := lw_i5 78 rfl rfl
theorem ml_X6_91 : Cond.methodLink RX6 91 yX3_pass ∈ lw_g := lw_i5 82 rfl rfl
theorem ml_X6_94 : Cond.methodLink RX6 94 yX6_fitsBehindLast ∈ lw_g := lw_i5 83 rfl rfl
theorem ml_X6_113 : Cond.methodLink RX6 113 yX3_manAt ∈ lw_g := lw_i5 87 rfl rfl
theorem ml_X6_87 : Cond.methodLink RX6 87 yX6_addWay ∈ lw_g := lw_i5 88 rfl rfl
theorem ml_L_155 : Cond.methodLink RL 155 yX9_one ∈ lw_g := lw_i5 92 rfl rfl
theorem ml_L_159 : Cond.methodLink RL 159 yX9_empty ∈ lw_g := lw_i5 96 rfl rfl
theorem ml_X9_284 : Cond.methodLink RX9 284 yX0_emptyMinutes ∈ lw_g := lw_i5 100 rfl rfl
theorem ml_L_163 : Cond.methodLink RL 163 yX9_chance ∈ lw_g := lw_i5 104 rfl rfl
theorem ml_X9_287 : Cond.methodLink RX9 287 yX0_timesServed ∈ lw_g := lw_i5 108 rfl rfl
theorem ml_L_167 : Cond.methodLink RL 167 yX9_tried ∈ lw_g := lw_i5 112 rfl rfl
theorem ml_X9_290 : Cond.methodLink RX9 290 yX0_servedOtherwise ∈ lw_g := lw_i5 116 rfl rfl
theorem ml_X0_157 : Cond.methodLink RX0 157 yX3_howMany ∈ lw_g := lw_i5 120 rfl rfl
theorem ml_L_171 : Cond.methodLink RL 171 yX9_undo ∈ lw_g := lw_i5 124 rfl rfl
theorem ml_X9_293 : Cond.methodLink RX9 293 yX5_takeBack ∈ lw_g := lw_i5 128 rfl rfl
theorem ml_L_175 : Cond.methodLink RL 175 yX9_keep ∈ lw_g := lw_i5 132 rfl rfl
theorem ml_X9_298 : Cond.methodLink RX9 298 yX3_copy ∈ lw_g := lw_i5 136 rfl rfl
theorem ml_L_179 : Cond.methodLink RL 179 yX9_back ∈ lw_g := lw_i5 137 rfl rfl
theorem ml_L_183 : Cond.methodLink RL 183 yX9_count ∈ lw_g := lw_i5 141 rfl rfl
theorem ml_X9_307 : Cond.methodLink RX9 307 yX3_howMany ∈ lw_g := lw_i5 145 rfl rfl
theorem ml_X9_313 : Cond.methodLink RX9 313 yX3_allCoin ∈ lw_g := lw_i5 146 rfl rfl
theorem ml_X9_318 : Cond.methodLink RX9 318 yX6_knownBy ∈ lw_g := lw_i5 150 rfl rfl
theorem ml_X9_321 : Cond.methodLink RX9 321 yX3_allCoughs ∈ lw_g := lw_i5 151 rfl rfl
theorem ml_L_7 : Cond.methodLink RL 7 yX9_look ∈ lw_g := lw_i5 160 rfl rfl
theorem ml_X9_142 : Cond.methodLink RX9 142 yX3_waited ∈ lw_g := lw_i5 230 rfl rfl
theorem ml_L_20 : Cond.methodLink RL 20 yX10_init ∈ lw_g := lw_i6 9 rfl rfl
theorem ml_X10_151 : Cond.methodLink RX10 151 yX10_begins ∈ lw_g := lw_i6 13 rfl rfl
theorem ml_X10_353 : Cond.methodLink RX10 353 yX10_starts ∈ lw_g := lw_i6 17 rfl rfl
theorem fl_X10_154 : Cond.fieldLink RX10 154 RX10 "thrown" "I" ∈ lw_g := lw_i6 21 rfl rfl
theorem fl_X10_7 : Cond.fieldLink RX10 7 RX10 "tape" "[I" ∈ lw_g := lw_i6 22 rfl rfl
theorem fl_X10_157 : Cond.fieldLink RX10 157 RX10 "taped" "I" ∈ lw_g := lw_i6 23 rfl rfl
theorem fl_X10_13 : Cond.fieldLink RX10 13 RX10 "number" "[I" ∈ lw_g := lw_i6 24 rfl rfl
theorem fl_X10_16 : Cond.fieldLink RX10 16 RX10 "manName" "[I" ∈ lw_g := lw_i6 25 rfl rfl
theorem fl_X10_19 : Cond.fieldLink RX10 19 RX10 "age" "[I" ∈ lw_g := lw_i6 26 rfl rfl
theorem fl_X10_22 : Cond.fieldLink RX10 22 RX10 "farAs" "[I" ∈ lw_g := lw_i6 27 rfl rfl
theorem fl_X10_25 : Cond.fieldLink RX10 25 RX10 "patienceAs" "[I" ∈ lw_g := lw_i6 28 rfl rfl
theorem fl_X10_28 : Cond.fieldLink RX10 28 RX10 "bucket" "[I" ∈ lw_g := lw_i6 29 rfl rfl
theorem fl_X10_31 : Cond.fieldLink RX10 31 RX10 "coinAs" "[I" ∈ lw_g := lw_i6 30 rfl rfl
theorem fl_X10_34 : Cond.fieldLink RX10 34 RX10 "bribe" "[I" ∈ lw_g := lw_i6 31 rfl rfl
theorem fl_X10_37 : Cond.fieldLink RX10 37 RX10 "comesAs" "[I" ∈ lw_g := lw_i6 32 rfl rfl
theorem fl_X10_40 : Cond.fieldLink RX10 40 RX10 "leans" "[I" ∈ lw_g := lw_i6 33 rfl rfl
theorem fl_X10_43 : Cond.fieldLink RX10 43 RX10 "guards" "[I" ∈ lw_g := lw_i6 34 rfl rfl
theorem fl_X10_46 : Cond.fieldLink RX10 46 RX10 "sumFrom" "[I" ∈ lw_g := lw_i6 35 rfl rfl
theorem fl_X10_49 : Cond.fieldLink RX10 49 RX10 "sumTo" "[I" ∈ lw_g := lw_i6 36 rfl rfl
theorem fl_X10_52 : Cond.fieldLink RX10 52 RX10 "knotSort" "[I" ∈ lw_g := lw_i6 37 rfl rfl
theorem fl_X10_55 : Cond.fieldLink RX10 55 RX10 "knotValue" "[I" ∈ lw_g := lw_i6 38 rfl rfl
theorem fl_X10_228 : Cond.fieldLink RX10 228 RX10 "told" "I" ∈ lw_g := lw_i6 39 rfl rfl
theorem fl_X10_254 : Cond.fieldLink RX10 254 RX10 "lines" "I" ∈ lw_g := lw_i6 40 rfl rfl
theorem fl_X10_163 : Cond.fieldLink RX10 163 RX10 "size" "I" ∈ lw_g := lw_i6 41 rfl rfl
theorem fl_X10_160 : Cond.fieldLink RX10 160 RX10 "at" "I" ∈ lw_g := lw_i6 42 rfl rfl
theorem fl_X10_170 : Cond.fieldLink RX10 170 RX10 "place" "I" ∈ lw_g := lw_i6 43 rfl rfl
theorem fl_X10_173 : Cond.fieldLink RX10 173 RX10 "sort" "I" ∈ lw_g := lw_i6 44 rfl rfl
theorem fl_X10_183 : Cond.fieldLink RX10 183 RX10 "value" "I" ∈ lw_g := lw_i6 45 rfl rfl
theorem fl_X10_208 : Cond.fieldLink RX10 208 RX10 "fault" "I" ∈ lw_g := lw_i6 46 rfl rfl
theorem fl_X10_211 : Cond.fieldLink RX10 211 RX10 "faultPlace" "I" ∈ lw_g := lw_i6 47 rfl rfl
theorem fl_X10_303 : Cond.fieldLink RX10 303 RX10 "lastFault" "I" ∈ lw_g := lw_i6 48 rfl rfl
theorem fl_X10_58 : Cond.fieldLink RX10 58 RX10 "lastPlace" "I" ∈ lw_g := lw_i6 49 rfl rfl
theorem fl_X10_297 : Cond.fieldLink RX10 297 RX10 "open" "I" ∈ lw_g := lw_i6 50 rfl rfl
theorem fl_X10_273 : Cond.fieldLink RX10 273 RX10 "counted" "I" ∈ lw_g := lw_i6 51 rfl rfl
theorem fl_X10_62 : Cond.fieldLink RX10 62 RX10 "names" "[J" ∈ lw_g := lw_i6 52 rfl rfl
theorem fl_X10_66 : Cond.fieldLink RX10 66 RX10 "worked" "[J" ∈ lw_g := lw_i6 53 rfl rfl
theorem fl_X10_320 : Cond.fieldLink RX10 320 RX10 "workedMany" "I" ∈ lw_g := lw_i6 54 rfl rfl
theorem fl_X10_69 : Cond.fieldLink RX10 69 RX10 "minute" "[I" ∈ lw_g := lw_i6 55 rfl rfl
theorem fl_X10_72 : Cond.fieldLink RX10 72 RX10 "water" "[I" ∈ lw_g := lw_i6 56 rfl rfl
theorem fl_X10_75 : Cond.fieldLink RX10 75 RX10 "drawn" "[I" ∈ lw_g := lw_i6 57 rfl rfl
theorem fl_X10_78 : Cond.fieldLink RX10 78 RX10 "coughs" "[I" ∈ lw_g := lw_i6 58 rfl rfl
theorem fl_X10_81 : Cond.fieldLink RX10 81 RX10 "many" "[I" ∈ lw_g := lw_i6 59 rfl rfl
theorem fl_X10_84 : Cond.fieldLink RX10 84 RX10 "queue" "[I" ∈ lw_g := lw_i6 60 rfl rfl
theorem fl_X10_87 : Cond.fieldLink RX10 87 RX10 "where" "[I" ∈ lw_g := lw_i6 61 rfl rfl
theorem fl_X10_90 : Cond.fieldLink RX10 90 RX10 "patience" "[I" ∈ lw_g := lw_i6 62 rfl rfl
theorem fl_X10_93 : Cond.fieldLink RX10 93 RX10 "has" "[I" ∈ lw_g := lw_i6 63 rfl rfl
theorem fl_X10_96 : Cond.fieldLink RX10 96 RX10 "coin" "[I" ∈ lw_g := lw_i6 64 rfl rfl
theorem fl_X10_99 : Cond.fieldLink RX10 99 RX10 "comes" "[I" ∈ lw_g := lw_i6 65 rfl rfl
theorem fl_X10_102 : Cond.fieldLink RX10 102 RX10 "joined" "[I" ∈ lw_g := lw_i6 66 rfl rfl
theorem fl_X10_105 : Cond.fieldLink RX10 105 RX10 "left" "[I" ∈ lw_g := lw_i6 67 rfl rfl
theorem fl_X10_108 : Cond.fieldLink RX10 108 RX10 "kneels" "[I" ∈ lw_g := lw_i6 68 rfl rfl
theorem fl_X10_111 : Cond.fieldLink RX10 111 RX10 "servedAt" "[I" ∈ lw_g := lw_i6 69 rfl rfl
theorem fl_X10_114 : Cond.fieldLink RX10 114 RX10 "power" "[I" ∈ lw_g := lw_i6 70 rfl rfl
theorem fl_X10_117 : Cond.fieldLink RX10 117 RX10 "holders" "[I" ∈ lw_g := lw_i6 71 rfl rfl
theorem fl_X10_313 : Cond.fieldLink RX10 313 RX10 "hasImage" "Z" ∈ lw_g := lw_i6 72 rfl rfl
theorem fl_X10_317 : Cond.fieldLink RX10 317 RX10 "undoMany" "I" ∈ lw_g := lw_i6 73 rfl rfl
theorem fl_X10_120 : Cond.fieldLink RX10 120 RX10 "tryWhat" "I" ∈ lw_g := lw_i6 74 rfl rfl
theorem fl_X10_123 : Cond.fieldLink RX10 123 RX10 "gameOne" "[I" ∈ lw_g := lw_i6 75 rfl rfl
theorem fl_X10_126 : Cond.fieldLink RX10 126 RX10 "gameTwo" "[I" ∈ lw_g := lw_i6 76 rfl rfl
theorem fl_X10_451 : Cond.fieldLink RX10 451 RX10 "gameMany" "I" ∈ lw_g := lw_i6 77 rfl rfl
theorem fl_X10_129 : Cond.fieldLink RX10 129 RX10 "servedFirst" "[I" ∈ lw_g := lw_i6 78 rfl rfl
theorem fl_X10_310 : Cond.fieldLink RX10 310 RX10 "stones" "I" ∈ lw_g := lw_i6 79 rfl rfl
theorem fl_X10_132 : Cond.fieldLink RX10 132 RX10 "knownBy" "I" ∈ lw_g := lw_i6 80 rfl rfl
theorem fl_X10_135 : Cond.fieldLink RX10 135 RX10 "stoneMinute" "[I" ∈ lw_g := lw_i6 81 rfl rfl
theorem fl_X10_138 : Cond.fieldLink RX10 138 RX10 "stonePlace" "[I" ∈ lw_g := lw_i6 82 rfl rfl
theorem fl_X10_141 : Cond.fieldLink RX10 141 RX10 "stoneMan" "[I" ∈ lw_g := lw_i6 83 rfl rfl
theorem fl_X10_144 : Cond.fieldLink RX10 144 RX10 "strikes" "[I" ∈ lw_g := lw_i6 84 rfl rfl
theorem fl_X10_147 : Cond.fieldLink RX10 147 RX10 "isStruck" "[Z" ∈ lw_g := lw_i6 85 rfl rfl
theorem fl_X10_482 : Cond.fieldLink RX10 482 RX10 "cameMan" "I" ∈ lw_g := lw_i6 86 rfl rfl
theorem fl_X10_485 : Cond.fieldLink RX10 485 RX10 "cameAt" "I" ∈ lw_g := lw_i6 87 rfl rfl
theorem ml_L_45 : Cond.methodLink RL 45 yX10_thrown ∈ lw_g := lw_i6 224 rfl rfl
theorem ml_L_25 : Cond.methodLink RL 25 yX10_feed ∈ lw_g := lw_i6 228 rfl rfl
theorem ml_L_30 : Cond.methodLink RL 30 yX10_text ∈ lw_g := lw_i6 232 rfl rfl
theorem ml_X10_244 : Cond.methodLink RX10 244 yX10_reads ∈ lw_g := lw_i6 236 rfl rfl
theorem ml_X10_214 : Cond.methodLink RX10 214 yX10_token ∈ lw_g := lw_i7 0 rfl rfl
theorem ml_X10_166 : Cond.methodLink RX10 166 yX10_here ∈ lw_g := lw_i7 4 rfl rfl
theorem ml_X10_176 : Cond.methodLink RX10 176 yX10_isSmall ∈ lw_g := lw_i7 8 rfl rfl
theorem ml_X10_180 : Cond.methodLink RX10 180 yX10_word ∈ lw_g := lw_i7 11 rfl rfl
theorem ml_X10_199 : Cond.methodLink RX10 199 yJ0_length_8abf5 ∈ lw_g := lw_i7 16 rfl rfl
theorem ml_J0_335 : Cond.methodLink RJ0 335 yJ0_coder_7d493 ∈ lw_g := lw_i7 20 rfl rfl
theorem ml_X10_204 : Cond.methodLink RX10 204 yJ0_charAt_5068e ∈ lw_g := lw_i7 24 rfl rfl
theorem ml_X10_186 : Cond.methodLink RX10 186 yX10_name ∈ lw_g := lw_i7 25 rfl rfl
theorem ml_X10_189 : Cond.methodLink RX10 189 yX10_isDigit ∈ lw_g := lw_i7 29 rfl rfl
theorem cn_X10_192 : Cond.constant RX10 192 (99999) ∈ lw_g := lw_i7 32 rfl rfl
theorem ml_X10_193 : Cond.methodLink RX10 193 yX10_sign ∈ lw_g := lw_i7 33 rfl rfl
theorem ml_X10_300 : Cond.methodLink RX10 300 yX10_line ∈ lw_g := lw_i7 37 rfl rfl
theorem ml_X10_217 : Cond.methodLink RX10 217 yX10_wrong ∈ lw_g := lw_i7 41 rfl rfl
theorem ml_X10_224 : Cond.methodLink RX10 224 yX10_fresher ∈ lw_g := lw_i7 45 rfl rfl
theorem ml_X10_231 : Cond.methodLink RX10 231 yX10_manLine ∈ lw_g := lw_i7 49 rfl rfl
theorem ml_X10_257 : Cond.methodLink RX10 257 yX10_fresh ∈ lw_g := lw_i7 53 rfl rfl
theorem ml_X10_220 : Cond.methodLink RX10 220 yX10_found ∈ lw_g := lw_i7 57 rfl rfl
theorem ml_X10_240 : Cond.methodLink RX10 240 yX10_numeral ∈ lw_g := lw_i7 60 rfl rfl
theorem ml_X10_261 : Cond.methodLink RX10 261 yX10_isWord ∈ lw_g := lw_i7 64 rfl rfl
theorem ml_X10_234 : Cond.methodLink RX10 234 yX10_guardLine ∈ lw_g := lw_i7 68 rfl rfl
theorem ml_X10_264 : Cond.methodLink RX10 264 yX10_manAtHand ∈ lw_g := lw_i7 72 rfl rfl
theorem ml_X10_267 : Cond.methodLink RX10 267 yX10_goOn ∈ lw_g := lw_i7 76 rfl rfl
theorem ml_X10_237 : Cond.methodLink RX10 237 yX10_powerLine ∈ lw_g := lw_i7 80 rfl rfl
theorem ml_X10_248 : Cond.methodLink RX10 248 yX10_lawLine ∈ lw_g := lw_i7 84 rfl rfl
theorem ml_X10_270 : Cond.methodLink RX10 270 yX10_expression ∈ lw_g := lw_i7 88 rfl rfl
theorem ml_X10_276 : Cond.methodLink RX10 276 yX10_conjunction ∈ lw_g := lw_i7 92 rfl rfl
theorem ml_X10_285 : Cond.methodLink RX10 285 yX10_negation ∈ lw_g := lw_i7 96 rfl rfl
theorem ml_X10_279 : Cond.methodLink RX10 279 yX10_knot ∈ lw_g := lw_i7 100 rfl rfl
theorem ml_X10_282 : Cond.methodLink RX10 282 yX10_puts ∈ lw_g := lw_i7 104 rfl rfl
theorem ml_X10_288 : Cond.methodLink RX10 288 yX10_sum ∈ lw_g := lw_i7 108 rfl rfl
theorem ml_X10_291 : Cond.methodLink RX10 291 yX10_product ∈ lw_g := lw_i7 112 rfl rfl
theorem ml_X10_294 : Cond.methodLink RX10 294 yX10_primary ∈ lw_g := lw_i7 116 rfl rfl
theorem ml_X10_251 : Cond.methodLink RX10 251 yX10_isSign ∈ lw_g := lw_i7 120 rfl rfl
theorem ml_X10_306 : Cond.methodLink RX10 306 yX10_half ∈ lw_g := lw_i7 124 rfl rfl
theorem ml_L_34 : Cond.methodLink RL 34 yX10_fault ∈ lw_g := lw_i7 127 rfl rfl
theorem ml_L_38 : Cond.methodLink RL 38 yX10_named ∈ lw_g := lw_i7 131 rfl rfl
theorem ml_L_44 : Cond.methodLink RL 44 yX10_look ∈ lw_g := lw_i7 135 rfl rfl
theorem ml_X10_356 : Cond.methodLink RX10 356 yX10_isMan ∈ lw_g := lw_i7 139 rfl rfl
theorem ml_X10_411 : Cond.methodLink RX10 411 yX10_placeOf ∈ lw_g := lw_i7 143 rfl rfl
theorem ml_L_52 : Cond.methodLink RL 52 yX10_stands ∈ lw_g := lw_i7 147 rfl rfl
theorem ml_X10_414 : Cond.methodLink RX10 414 yX10_isPlace ∈ lw_g := lw_i7 151 rfl rfl
theorem ml_X10_417 : Cond.methodLink RX10 417 yX10_standsAt ∈ lw_g := lw_i7 154 rfl rfl
theorem ml_L_56 : Cond.methodLink RL 56 yX10_holder ∈ lw_g := lw_i7 158 rfl rfl
theorem ml_X10_420 : Cond.methodLink RX10 420 yX10_isPower ∈ lw_g := lw_i7 162 rfl rfl
theorem ml_L_61 : Cond.methodLink RL 61 yX10_law ∈ lw_g := lw_i7 165 rfl rfl
theorem ml_X10_340 : Cond.methodLink RX10 340 yX10_hasLaw ∈ lw_g := lw_i7 169 rfl rfl
theorem ml_X10_423 : Cond.methodLink RX10 423 yX10_isIn ∈ lw_g := lw_i7 173 rfl rfl
theorem cn_X10_428 : Cond.constantLong RX10 428 (-9223372036854775808) ∈ lw_g := lw_i7 177 rfl rfl
theorem ml_X10_363 : Cond.methodLink RX10 363 yX10_calls ∈ lw_g := lw_i7 178 rfl rfl
theorem ml_X10_343 : Cond.methodLink RX10 343 yX10_goes ∈ lw_g := lw_i7 182 rfl rfl
theorem ml_X10_337 : Cond.methodLink RX10 337 yX10_works ∈ lw_g := lw_i7 186 rfl rfl
theorem ml_X10_323 : Cond.methodLink RX10 323 yX10_is ∈ lw_g := lw_i7 190 rfl rfl
theorem ml_X10_327 : Cond.methodLink RX10 327 yJ9_abs_067f4 ∈ lw_g := lw_i7 193 rfl rfl
theorem cn_X10_333 : Cond.constantLong RX10 333 (1000000000000) ∈ lw_g := lw_i7 196 rfl rfl
theorem cn_X10_335 : Cond.constantLong RX10 335 (-1000000000000) ∈ lw_g := lw_i7 197 rfl rfl
theorem ml_L_65 : Cond.methodLink RL 65 yX10_go ∈ lw_g := lw_i7 198 rfl rfl
theorem ml_X10_430 : Cond.methodLink RX10 430 yX10_minutesLeft ∈ lw_g := lw_i7 202 rfl rfl
theorem ml_X10_407 : Cond.methodLink RX10 407 yX10_passes ∈ lw_g := lw_i7 206 rfl rfl
theorem ml_X10_382 : Cond.methodLink RX10 382 yX10_arrive ∈ lw_g := lw_i7 210 rfl rfl
theorem ml_X10_359 : Cond.methodLink RX10 359 yX10_joins ∈ lw_g := lw_i7 214 rfl rfl
theorem ml_X10_385 : Cond.methodLink RX10 385 yX10_coughing ∈ lw_g := lw_i7 218 rfl rfl
theorem ml_X10_371 : Cond.methodLink RX10 371 yX10_needOf ∈ lw_g := lw_i7 222 rfl rfl
theorem ml_X10_367 : Cond.methodLink RX10 367 yX10_within ∈ lw_g := lw_i7 226 rfl rfl
theorem ml_X10_346 : Cond.methodLink RX10 346 yJ9_min_f86c9 ∈ lw_g := lw_i7 230 rfl rfl
theorem ml_X10_350 : Cond.methodLink RX10 350 yJ9_max_f86c9 ∈ lw_g := lw_i7 231 rfl rfl
theorem ml_X10_374 : Cond.methodLink RX10 374 yX10_isGuarded ∈ lw_g := lw_i7 232 rfl rfl
theorem ml_X10_377 : Cond.methodLink RX10 377 yX10_leaves ∈ lw_g := lw_i7 236 rfl rfl
theorem ml_X10_388 : Cond.methodLink RX10 388 yX10_pour ∈ lw_g := lw_i8 0 rfl rfl
theorem ml_X10_380 : Cond.methodLink RX10 380 yJ9_min_7cf53 ∈ lw_g := lw_i8 4 rfl rfl
theorem ml_X10_391 : Cond.methodLink RX10 391 yX10_levy ∈ lw_g := lw_i8 5 rfl rfl
theorem ml_X10_394 : Cond.methodLink RX10 394 yX10_wear ∈ lw_g := lw_i8 9 rfl rfl
theorem ml_X10_397 : Cond.methodLink RX10 397 yX10_draw ∈ lw_g := lw_i8 13 rfl rfl
theorem cn_X10_400 : Cond.constant RX10 400 (1103515245) ∈ lw_g := lw_i8 17 rfl rfl
theorem cn_X10_403 : Cond.constant RX10 403 (2147483647) ∈ lw_g := lw_i8 18 rfl rfl
theorem ml_L_69 : Cond.methodLink RL 69 yX10_join ∈ lw_g := lw_i8 19 rfl rfl
theorem ml_X10_433 : Cond.methodLink RX10 433 yX10_isToCome ∈ lw_g := lw_i8 23 rfl rfl
theorem ml_X10_436 : Cond.methodLink RX10 436 yX10_keepNow ∈ lw_g := lw_i8 27 rfl rfl
theorem ml_X10_404 : Cond.methodLink RX10 404 yX10_copies ∈ lw_g := lw_i8 31 rfl rfl
theorem ml_L_74 : Cond.methodLink RL 74 yX10_out ∈ lw_g := lw_i8 35 rfl rfl
theorem ml_L_79 : Cond.methodLink RL 79 yX10_swap ∈ lw_g := lw_i8 39 rfl rfl
theorem ml_L_84 : Cond.methodLink RL 84 yX10_kneel ∈ lw_g := lw_i8 43 rfl rfl
theorem ml_L_88 : Cond.methodLink RL 88 yX10_cough ∈ lw_g := lw_i8 47 rfl rfl
theorem ml_L_92 : Cond.methodLink RL 92 yX10_move ∈ lw_g := lw_i8 51 rfl rfl
theorem ml_L_96 : Cond.methodLink RL 96 yX10_was ∈ lw_g := lw_i8 55 rfl rfl
theorem ml_X10_439 : Cond.methodLink RX10 439 yX10_isGone ∈ lw_g := lw_i8 59 rfl rfl
theorem ml_L_100 : Cond.methodLink RL 100 yX10_ruled ∈ lw_g := lw_i8 63 rfl rfl
theorem ml_L_104 : Cond.methodLink RL 104 yX10_served ∈ lw_g := lw_i8 67 rfl rfl
theorem ml_X10_442 : Cond.methodLink RX10 442 yX10_lays ∈ lw_g := lw_i8 71 rfl rfl
theorem ml_X10_445 : Cond.methodLink RX10 445 yX10_runs ∈ lw_g := lw_i8 75 rfl rfl
theorem ml_L_109 : Cond.methodLink RL 109 yX10_coming ∈ lw_g := lw_i8 79 rfl rfl
theorem ml_L_113 : Cond.methodLink RL 113 yX10_decree ∈ lw_g := lw_i8 83 rfl rfl
theorem ml_X10_448 : Cond.methodLink RX10 448 yX10_bitsOf ∈ lw_g := lw_i8 87 rfl rfl
theorem ml_L_117 : Cond.methodLink RL 117 yX10_coup ∈ lw_g := lw_i8 90 rfl rfl
theorem ml_L_121 : Cond.methodLink RL 121 yX10_rests ∈ lw_g := lw_i8 94 rfl rfl
theorem ml_X10_464 : Cond.methodLink RX10 464 yX10_isGame ∈ lw_g := lw_i8 98 rfl rfl
theorem ml_X10_461 : Cond.methodLink RX10 461 yX10_isLong ∈ lw_g := lw_i8 102 rfl rfl
theorem ml_X10_468 : Cond.methodLink RX10 468 yX10_layGame ∈ lw_g := lw_i8 106 rfl rfl
theorem ml_X10_454 : Cond.methodLink RX10 454 yX10_endOf ∈ lw_g := lw_i8 110 rfl rfl
theorem ml_X10_471 : Cond.methodLink RX10 471 yX10_restOf ∈ lw_g := lw_i8 114 rfl rfl
theorem ml_X10_457 : Cond.methodLink RX10 457 yX10_isRest ∈ lw_g := lw_i8 118 rfl rfl
theorem ml_L_126 : Cond.methodLink RL 126 yX10_rest ∈ lw_g := lw_i8 122 rfl rfl
theorem ml_L_130 : Cond.methodLink RL 130 yX10_best ∈ lw_g := lw_i8 126 rfl rfl
theorem ml_L_134 : Cond.methodLink RL 134 yX10_fairest ∈ lw_g := lw_i8 130 rfl rfl
theorem ml_L_138 : Cond.methodLink RL 138 yX10_gain ∈ lw_g := lw_i8 134 rfl rfl
theorem ml_L_142 : Cond.methodLink RL 142 yX10_stone ∈ lw_g := lw_i8 138 rfl rfl
theorem ml_L_146 : Cond.methodLink RL 146 yX10_strike ∈ lw_g := lw_i8 142 rfl rfl
theorem ml_L_150 : Cond.methodLink RL 150 yX10_known ∈ lw_g := lw_i8 146 rfl rfl
theorem ml_L_154 : Cond.methodLink RL 154 yX10_came ∈ lw_g := lw_i8 150 rfl rfl
theorem ml_X10_488 : Cond.methodLink RX10 488 yX10_layCame ∈ lw_g := lw_i8 154 rfl rfl
theorem ml_X10_474 : Cond.methodLink RX10 474 yX10_knownMany ∈ lw_g := lw_i8 158 rfl rfl
theorem ml_X10_479 : Cond.methodLink RX10 479 yX10_isWay ∈ lw_g := lw_i8 162 rfl rfl
theorem ml_X10_477 : Cond.methodLink RX10 477 yJ9_max_7cf53 ∈ lw_g := lw_i8 166 rfl rfl
theorem ml_L_158 : Cond.methodLink RL 158 yX10_one ∈ lw_g := lw_i8 167 rfl rfl
theorem ml_L_162 : Cond.methodLink RL 162 yX10_empty ∈ lw_g := lw_i8 171 rfl rfl
theorem ml_L_166 : Cond.methodLink RL 166 yX10_chance ∈ lw_g := lw_i8 175 rfl rfl
theorem ml_L_170 : Cond.methodLink RL 170 yX10_tried ∈ lw_g := lw_i8 179 rfl rfl
theorem ml_X10_491 : Cond.methodLink RX10 491 yX10_servedMany ∈ lw_g := lw_i8 183 rfl rfl
theorem ml_X10_494 : Cond.methodLink RX10 494 yX10_howMany ∈ lw_g := lw_i8 187 rfl rfl
theorem ml_L_174 : Cond.methodLink RL 174 yX10_undo ∈ lw_g := lw_i8 191 rfl rfl
theorem ml_L_178 : Cond.methodLink RL 178 yX10_keep ∈ lw_g := lw_i8 195 rfl rfl
theorem ml_X10_497 : Cond.methodLink RX10 497 yX10_copiesLog ∈ lw_g := lw_i8 199 rfl rfl
theorem ml_L_182 : Cond.methodLink RL 182 yX10_back ∈ lw_g := lw_i8 203 rfl rfl
theorem ml_L_186 : Cond.methodLink RL 186 yX10_count ∈ lw_g := lw_i8 207 rfl rfl
theorem fl_J0_15 : Cond.fieldLink RJ0 15 RJ0 "coder" "B" ∈ lw_g := lw_i8 227 rfl rfl
theorem fl_J0_9 : Cond.fieldLink RJ0 9 RJ0 "value" "[B" ∈ lw_g := lw_i8 228 rfl rfl
theorem yc_X0_init : Cond.code yX0_init cX0_init 1 none ∈ lw_g := lw_i2 168 rfl rfl
theorem yi_X0_init : Cond.initialized (yX0_init).cls ∈ lw_g := lw_i1 10 rfl rfl
theorem ym_X0_init : Cond.instanceMethod yX0_init ∈ lw_g := lw_i2 167 rfl rfl
theorem yc_X0_prepare : Cond.code yX0_prepare cX0_prepare 2 none ∈ lw_g := lw_i4 151 rfl rfl
theorem yi_X0_prepare : Cond.initialized (yX0_prepare).cls ∈ lw_g := lw_i1 10 rfl rfl
theorem ym_X0_prepare : Cond.instanceMethod yX0_prepare ∈ lw_g := lw_i4 150 rfl rfl
theorem yv_X0_prepare : Cond.selects (yX0_prepare).cls yX0_prepare yX0_prepare ∈ lw_g := lw_g_mem 38 (by decide +kernel) (by decide +kernel)
theorem yc_X0_servedIn : Cond.code yX0_servedIn cX0_servedIn 4 (some .int) ∈ lw_g := lw_i4 147 rfl rfl
theorem yi_X0_servedIn : Cond.initialized (yX0_servedIn).cls ∈ lw_g := lw_i1 10 rfl rfl
theorem ym_X0_servedIn : Cond.instanceMethod yX0_servedIn ∈ lw_g := lw_i4 145 rfl rfl
theorem yv_X0_servedIn : Cond.selects (yX0_servedIn).cls yX0_servedIn yX0_servedIn ∈ lw_g := lw_i4 146 rfl rfl
theorem yc_X0_firstToCome : Cond.code yX0_firstToCome cX0_firstToCome 6 (some .int) ∈ lw_g := lw_i4 161 rfl rfl
theorem yi_X0_firstToCome : Cond.initialized (yX0_firstToCome).cls ∈ lw_g := lw_i1 10 rfl rfl
theorem ym_X0_firstToCome : Cond.instanceMethod yX0_firstToCome ∈ lw_g := lw_i4 159 rfl rfl
theorem yv_X0_firstToCome : Cond.selects (yX0_firstToCome).cls yX0_firstToCome yX0_firstToCome ∈ lw_g := lw_i4 160 rfl rfl
theorem yc_X0_bribes : Cond.code yX0_bribes cX0_bribes 12 (some .int) ∈ lw_g := lw_i4 179 rfl rfl
theorem yi_X0_bribes : Cond.initialized (yX0_bribes).cls ∈ lw_g := lw_i1 10 rfl rfl
theorem ym_X0_bribes : Cond.instanceMethod yX0_bribes ∈ lw_g := lw_i4 177 rfl rfl
theorem yv_X0_bribes : Cond.selects (yX0_bribes).cls yX0_bribes yX0_bribes ∈ lw_g := lw_i4 178 rfl rfl
theorem yc_X0_price : Cond.code yX0_price cX0_price 4 (some .int) ∈ lw_g := lw_i4 190 rfl rfl
theorem yi_X0_price : Cond.initialized (yX0_price).cls ∈ lw_g := lw_i1 10 rfl rfl
theorem ys_X0_price : Cond.static yX0_price ∈ lw_g := lw_i4 189 rfl rfl
theorem yc_X0_plotters : Cond.code yX0_plotters cX0_plotters 5 (some .int) ∈ lw_g := lw_i4 198 rfl rfl
theorem yi_X0_plotters : Cond.initialized (yX0_plotters).cls ∈ lw_g := lw_i1 10 rfl rfl
theorem ym_X0_plotters : Cond.instanceMethod yX0_plotters ∈ lw_g := lw_i4 196 rfl rfl
theorem yv_X0_plotters : Cond.selects (yX0_plotters).cls yX0_plotters yX0_plotters ∈ lw_g := lw_i4 197 rfl rfl
theorem yc_X0_play : Cond.code yX0_play cX0_play 8 none ∈ lw_g := lw_i4 217 rfl rfl
theorem yi_X0_play : Cond.initialized (yX0_play).cls ∈ lw_g := lw_i1 10 rfl rfl
theorem ym_X0_play : Cond.instanceMethod yX0_play ∈ lw_g := lw_i4 215 rfl rfl
theorem yv_X0_play : Cond.selects (yX0_play).cls yX0_play yX0_play ∈ lw_g := lw_i4 216 rfl rfl
theorem yc_X0_worth : Cond.code yX0_worth cX0_worth 2 (some .int) ∈ lw_g := lw_i4 221 rfl rfl
theorem yi_X0_worth : Cond.initialized (yX0_worth).cls ∈ lw_g := lw_i1 10 rfl rfl
theorem ym_X0_worth : Cond.instanceMethod yX0_worth ∈ lw_g := lw_i4 220 rfl rfl
theorem yv_X0_worth : Cond.selects (yX0_worth).cls yX0_worth yX0_worth ∈ lw_g := lw_g_mem 42 (by decide +kernel) (by decide +kernel)
theorem yc_X0_isRest : Cond.code yX0_isRest cX0_isRest 6 (some .boolean) ∈ lw_g := lw_i4 226 rfl rfl
theorem yi_X0_isRest : Cond.initialized (yX0_isRest).cls ∈ lw_g := lw_i1 10 rfl rfl
theorem ym_X0_isRest : Cond.instanceMethod yX0_isRest ∈ lw_g := lw_i4 225 rfl rfl
theorem yv_X0_isRest : Cond.selects (yX0_isRest).cls yX0_isRest yX0_isRest ∈ lw_g := lw_g_mem 43 (by decide +kernel) (by decide +kernel)
theorem yc_X0_bestPlace : Cond.code yX0_bestPlace cX0_bestPlace 10 (some .int) ∈ lw_g := lw_i4 238 rfl rfl
theorem yi_X0_bestPlace : Cond.initialized (yX0_bestPlace).cls ∈ lw_g := lw_i1 10 rfl rfl
theorem ym_X0_bestPlace : Cond.instanceMethod yX0_bestPlace ∈ lw_g := lw_i4 236 rfl rfl
theorem yv_X0_bestPlace : Cond.selects (yX0_bestPlace).cls yX0_bestPlace yX0_bestPlace ∈ lw_g := lw_i4 237 rfl rfl
theorem yc_X0_minutesHeld : Cond.code yX0_minutesHeld cX0_minutesHeld 8 (some .int) ∈ lw_g := lw_i5 2 rfl rfl
theorem yi_X0_minutesHeld : Cond.initialized (yX0_minutesHeld).cls ∈ lw_g := lw_i1 10 rfl rfl
theorem ym_X0_minutesHeld : Cond.instanceMethod yX0_minutesHeld ∈ lw_g := lw_i5 1 rfl rfl
theorem yv_X0_minutesHeld : Cond.selects (yX0_minutesHeld).cls yX0_minutesHeld yX0_minutesHeld ∈ lw_g := lw_g_mem 44 (by decide +kernel) (by decide +kernel)
theorem yc_X0_fairestPlace : Cond.code yX0_fairestPlace cX0_fairestPlace 9 (some .int) ∈ lw_g := lw_i5 10 rfl rfl
theorem yi_X0_fairestPlace : Cond.initialized (yX0_fairestPlace).cls ∈ lw_g := lw_i1 10 rfl rfl
theorem ym_X0_fairestPlace : Cond.instanceMethod yX0_fairestPlace ∈ lw_g := lw_i5 8 rfl rfl
theorem yv_X0_fairestPlace : Cond.selects (yX0_fairestPlace).cls yX0_fairestPlace yX0_fairestPlace ∈ lw_g := lw_i5 9 rfl rfl
theorem yc_X0_holders : Cond.code yX0_holders cX0_holders 8 (some .int) ∈ lw_g := lw_i5 14 rfl rfl
theorem yi_X0_holders : Cond.initialized (yX0_holders).cls ∈ lw_g := lw_i1 10 rfl rfl
theorem ym_X0_holders : Cond.instanceMethod yX0_holders ∈ lw_g := lw_i5 13 rfl rfl
theorem yv_X0_holders : Cond.selects (yX0_holders).cls yX0_holders yX0_holders ∈ lw_g := lw_g_mem 45 (by decide +kernel) (by decide +kernel)
theorem yc_X0_gainers : Cond.code yX0_gainers cX0_gainers 7 (some .int) ∈ lw_g := lw_i5 22 rfl rfl
theorem yi_X0_gainers : Cond.initialized (yX0_gainers).cls ∈ lw_g := lw_i1 10 rfl rfl
theorem ym_X0_gainers : Cond.instanceMethod yX0_gainers ∈ lw_g := lw_i5 20 rfl rfl
theorem yv_X0_gainers : Cond.selects (yX0_gainers).cls yX0_gainers yX0_gainers ∈ lw_g := lw_i5 21 rfl rfl
theorem yc_X0_emptyMinutes : Cond.code yX0_emptyMinutes cX0_emptyMinutes 7 (some .int) ∈ lw_g := lw_i5 103 rfl rfl
theorem yi_X0_emptyMinutes : Cond.initialized (yX0_emptyMinutes).cls ∈ lw_g := lw_i1 10 rfl rfl
theorem ym_X0_emptyMinutes : Cond.instanceMethod yX0_emptyMinutes ∈ lw_g := lw_i5 101 rfl rfl
theorem yv_X0_emptyMinutes : Cond.selects (yX0_emptyMinutes).cls yX0_emptyMinutes yX0_emptyMinutes ∈ lw_g := lw_i5 102 rfl rfl
theorem yc_X0_timesServed : Cond.code yX0_timesServed cX0_timesServed 8 (some .int) ∈ lw_g := lw_i5 111 rfl rfl
theorem yi_X0_timesServed : Cond.initialized (yX0_timesServed).cls ∈ lw_g := lw_i1 10 rfl rfl
theorem ym_X0_timesServed : Cond.instanceMethod yX0_timesServed ∈ lw_g := lw_i5 109 rfl rfl
theorem yv_X0_timesServed : Cond.selects (yX0_timesServed).cls yX0_timesServed yX0_timesServed ∈ lw_g := lw_i5 110 rfl rfl
theorem yc_X0_servedOtherwise : Cond.code yX0_servedOtherwise cX0_servedOtherwise 5 (some .int) ∈ lw_g := lw_i5 119 rfl rfl
theorem yi_X0_servedOtherwise : Cond.initialized (yX0_servedOtherwise).cls ∈ lw_g := lw_i1 10 rfl rfl
theorem ym_X0_servedOtherwise : Cond.instanceMethod yX0_servedOtherwise ∈ lw_g := lw_i5 117 rfl rfl
theorem yv_X0_servedOtherwise : Cond.selects (yX0_servedOtherwise).cls yX0_servedOtherwise yX0_servedOtherwise ∈ lw_g := lw_i5 118 rfl rfl
theorem yc_X1_init : Cond.code yX1_init cX1_init 1 none ∈ lw_g := lw_i1 160 rfl rfl
theorem yi_X1_init : Cond.initialized (yX1_init).cls ∈ lw_g := lw_i1 6 rfl rfl
theorem ym_X1_init : Cond.instanceMethod yX1_init ∈ lw_g := lw_i1 159 rfl rfl
theorem yc_X1_add : Cond.code yX1_add cX1_add 2 none ∈ lw_g := lw_i3 171 rfl rfl
theorem yi_X1_add : Cond.initialized (yX1_add).cls ∈ lw_g := lw_i1 6 rfl rfl
theorem ym_X1_add : Cond.instanceMethod yX1_add ∈ lw_g := lw_i3 169 rfl rfl
theorem yv_X1_add : Cond.selects (yX1_add).cls yX1_add yX1_add ∈ lw_g := lw_i3 170 rfl rfl
theorem yc_X1_value : Cond.code yX1_value cX1_value 10 (some .long) ∈ lw_g := lw_i3 217 rfl rfl
theorem yi_X1_value : Cond.initialized (yX1_value).cls ∈ lw_g := lw_i1 6 rfl rfl
theorem ym_X1_value : Cond.instanceMethod yX1_value ∈ lw_g := lw_i3 215 rfl rfl
theorem yv_X1_value : Cond.selects (yX1_value).cls yX1_value yX1_value ∈ lw_g := lw_i3 216 rfl rfl
theorem yc_X1_work : Cond.code yX1_work cX1_work 7 (some .long) ∈ lw_g := lw_i3 226 rfl rfl
theorem yi_X1_work : Cond.initialized (yX1_work).cls ∈ lw_g := lw_i1 6 rfl rfl
theorem ys_X1_work : Cond.static yX1_work ∈ lw_g := lw_i3 225 rfl rfl
theorem yc_X2_init : Cond.code yX2_init cX2_init 1 none ∈ lw_g := lw_i1 107 rfl rfl
theorem yi_X2_init : Cond.initialized (yX2_init).cls ∈ lw_g := lw_i1 5 rfl rfl
theorem ym_X2_init : Cond.instanceMethod yX2_init ∈ lw_g := lw_i1 106 rfl rfl
theorem yc_X3_init : Cond.code yX3_init cX3_init 1 none ∈ lw_g := lw_i2 13 rfl rfl
theorem yi_X3_init : Cond.initialized (yX3_init).cls ∈ lw_g := lw_i1 7 rfl rfl
theorem ym_X3_init : Cond.instanceMethod yX3_init ∈ lw_g := lw_i2 12 rfl rfl
theorem yc_X3_start : Cond.code yX3_start cX3_start 3 none ∈ lw_g := lw_i2 196 rfl rfl
theorem yi_X3_start : Cond.initialized (yX3_start).cls ∈ lw_g := lw_i1 7 rfl rfl
theorem ym_X3_start : Cond.instanceMethod yX3_start ∈ lw_g := lw_i2 194 rfl rfl
theorem yv_X3_start : Cond.selects (yX3_start).cls yX3_start yX3_start ∈ lw_g := lw_i2 195 rfl rfl
theorem yc_X3_copy : Cond.code yX3_copy cX3_copy 2 none ∈ lw_g := lw_i4 100 rfl rfl
theorem yi_X3_copy : Cond.initialized (yX3_copy).cls ∈ lw_g := lw_i1 7 rfl rfl
theorem ym_X3_copy : Cond.instanceMethod yX3_copy ∈ lw_g := lw_i4 98 rfl rfl
theorem yv_X3_copy : Cond.selects (yX3_copy).cls yX3_copy yX3_copy ∈ lw_g := lw_i4 99 rfl rfl
theorem yc_X3_manAt : Cond.code yX3_manAt cX3_manAt 2 (some .int) ∈ lw_g := lw_i3 200 rfl rfl
theorem yi_X3_manAt : Cond.initialized (yX3_manAt).cls ∈ lw_g := lw_i1 7 rfl rfl
theorem ym_X3_manAt : Cond.instanceMethod yX3_manAt ∈ lw_g := lw_i3 198 rfl rfl
theorem yv_X3_manAt : Cond.selects (yX3_manAt).cls yX3_manAt yX3_manAt ∈ lw_g := lw_i3 199 rfl rfl
theorem yc_X3_placeOf : Cond.code yX3_placeOf cX3_placeOf 3 (some .int) ∈ lw_g := lw_i3 232 rfl rfl
theorem yi_X3_placeOf : Cond.initialized (yX3_placeOf).cls ∈ lw_g := lw_i1 7 rfl rfl
theorem ym_X3_placeOf : Cond.instanceMethod yX3_placeOf ∈ lw_g := lw_i3 230 rfl rfl
theorem yv_X3_placeOf : Cond.selects (yX3_placeOf).cls yX3_placeOf yX3_placeOf ∈ lw_g := lw_i3 231 rfl rfl
theorem yc_X3_waited : Cond.code yX3_waited cX3_waited 2 (some .int) ∈ lw_g := lw_i3 223 rfl rfl
theorem yi_X3_waited : Cond.initialized (yX3_waited).cls ∈ lw_g := lw_i1 7 rfl rfl
theorem ym_X3_waited : Cond.instanceMethod yX3_waited ∈ lw_g := lw_i3 221 rfl rfl
theorem yv_X3_waited : Cond.selects (yX3_waited).cls yX3_waited yX3_waited ∈ lw_g := lw_i3 222 rfl rfl
theorem yc_X3_howMany : Cond.code yX3_howMany cX3_howMany 4 (some .int) ∈ lw_g := lw_i5 123 rfl rfl
theorem yi_X3_howMany : Cond.initialized (yX3_howMany).cls ∈ lw_g := lw_i1 7 rfl rfl
theorem ym_X3_howMany : Cond.instanceMethod yX3_howMany ∈ lw_g := lw_i5 121 rfl rfl
theorem yv_X3_howMany : Cond.selects (yX3_howMany).cls yX3_howMany yX3_howMany ∈ lw_g := lw_i5 122 rfl rfl
theorem yc_X3_allCoin : Cond.code yX3_allCoin cX3_allCoin 3 (some .int) ∈ lw_g := lw_i5 149 rfl rfl
theorem yi_X3_allCoin : Cond.initialized (yX3_allCoin).cls ∈ lw_g := lw_i1 7 rfl rfl
theorem ym_X3_allCoin : Cond.instanceMethod yX3_allCoin ∈ lw_g := lw_i5 147 rfl rfl
theorem yv_X3_allCoin : Cond.selects (yX3_allCoin).cls yX3_allCoin yX3_allCoin ∈ lw_g := lw_i5 148 rfl rfl
theorem yc_X3_allCoughs : Cond.code yX3_allCoughs cX3_allCoughs 3 (some .int) ∈ lw_g := lw_i5 154 rfl rfl
theorem yi_X3_allCoughs : Cond.initialized (yX3_allCoughs).cls ∈ lw_g := lw_i1 7 rfl rfl
theorem ym_X3_allCoughs : Cond.instanceMethod yX3_allCoughs ∈ lw_g := lw_i5 152 rfl rfl
theorem yv_X3_allCoughs : Cond.selects (yX3_allCoughs).cls yX3_allCoughs yX3_allCoughs ∈ lw_g := lw_i5 153 rfl rfl
theorem yc_X3_append : Cond.code yX3_append cX3_append 2 none ∈ lw_g := lw_i4 15 rfl rfl
theorem yi_X3_append : Cond.initialized (yX3_append).cls ∈ lw_g := lw_i1 7 rfl rfl
theorem ym_X3_append : Cond.instanceMethod yX3_append ∈ lw_g := lw_i4 13 rfl rfl
theorem yv_X3_append : Cond.selects (yX3_append).cls yX3_append yX3_append ∈ lw_g := lw_i4 14 rfl rfl
theorem yc_X3_remove : Cond.code yX3_remove cX3_remove 5 none ∈ lw_g := lw_i4 51 rfl rfl
theorem yi_X3_remove : Cond.initialized (yX3_remove).cls ∈ lw_g := lw_i1 7 rfl rfl
theorem ym_X3_remove : Cond.instanceMethod yX3_remove ∈ lw_g := lw_i4 49 rfl rfl
theorem yv_X3_remove : Cond.selects (yX3_remove).cls yX3_remove yX3_remove ∈ lw_g := lw_i4 50 rfl rfl
theorem yc_X3_exchange : Cond.code yX3_exchange cX3_exchange 5 none ∈ lw_g := lw_i4 118 rfl rfl
theorem yi_X3_exchange : Cond.initialized (yX3_exchange).cls ∈ lw_g := lw_i1 7 rfl rfl
theorem ym_X3_exchange : Cond.instanceMethod yX3_exchange ∈ lw_g := lw_i4 116 rfl rfl
theorem yv_X3_exchange : Cond.selects (yX3_exchange).cls yX3_exchange yX3_exchange ∈ lw_g := lw_i4 117 rfl rfl
theorem yc_X3_put : Cond.code yX3_put cX3_put 5 (some .int) ∈ lw_g := lw_i4 36 rfl rfl
theorem yi_X3_put : Cond.initialized (yX3_put).cls ∈ lw_g := lw_i1 7 rfl rfl
theorem ys_X3_put : Cond.static yX3_put ∈ lw_g := lw_i4 35 rfl rfl
theorem yc_X3_need : Cond.code yX3_need cX3_need 1 (some .int) ∈ lw_g := lw_i4 32 rfl rfl
theorem yi_X3_need : Cond.initialized (yX3_need).cls ∈ lw_g := lw_i1 7 rfl rfl
theorem ym_X3_need : Cond.instanceMethod yX3_need ∈ lw_g := lw_i4 30 rfl rfl
theorem yv_X3_need : Cond.selects (yX3_need).cls yX3_need yX3_need ∈ lw_g := lw_i4 31 rfl rfl
theorem yc_X3_isGuarded : Cond.code yX3_isGuarded cX3_isGuarded 1 (some .boolean) ∈ lw_g := lw_i4 47 rfl rfl
theorem yi_X3_isGuarded : Cond.initialized (yX3_isGuarded).cls ∈ lw_g := lw_i1 7 rfl rfl
theorem ym_X3_isGuarded : Cond.instanceMethod yX3_isGuarded ∈ lw_g := lw_i4 45 rfl rfl
theorem yv_X3_isGuarded : Cond.selects (yX3_isGuarded).cls yX3_isGuarded yX3_isGuarded ∈ lw_g := lw_i4 46 rfl rfl
theorem yc_X3_lastHeard : Cond.code yX3_lastHeard cX3_lastHeard 1 (some .int) ∈ lw_g := lw_i4 27 rfl rfl
theorem yi_X3_lastHeard : Cond.initialized (yX3_lastHeard).cls ∈ lw_g := lw_i1 7 rfl rfl
theorem ym_X3_lastHeard : Cond.instanceMethod yX3_lastHeard ∈ lw_g := lw_i4 25 rfl rfl
theorem yv_X3_lastHeard : Cond.selects (yX3_lastHeard).cls yX3_lastHeard yX3_lastHeard ∈ lw_g := lw_i4 26 rfl rfl
theorem yc_X3_is : Cond.code yX3_is cX3_is 2 (some .boolean) ∈ lw_g := lw_i4 23 rfl rfl
theorem yi_X3_is : Cond.initialized (yX3_is).cls ∈ lw_g := lw_i1 7 rfl rfl
theorem ym_X3_is : Cond.instanceMethod yX3_is ∈ lw_g := lw_i4 22 rfl rfl
theorem yv_X3_is : Cond.selects (yX3_is).cls yX3_is yX3_is ∈ lw_g := lw_g_mem 28 (by decide +kernel) (by decide +kernel)
theorem yc_X3_passTo : Cond.code yX3_passTo cX3_passTo 3 none ∈ lw_g := lw_i4 165 rfl rfl
theorem yi_X3_passTo : Cond.initialized (yX3_passTo).cls ∈ lw_g := lw_i1 7 rfl rfl
theorem ym_X3_passTo : Cond.instanceMethod yX3_passTo ∈ lw_g := lw_i4 163 rfl rfl
theorem yv_X3_passTo : Cond.selects (yX3_passTo).cls yX3_passTo yX3_passTo ∈ lw_g := lw_i4 164 rfl rfl
theorem yc_X3_pass : Cond.code yX3_pass cX3_pass 1 none ∈ lw_g := lw_i4 0 rfl rfl
theorem yi_X3_pass : Cond.initialized (yX3_pass).cls ∈ lw_g := lw_i1 7 rfl rfl
theorem ym_X3_pass : Cond.instanceMethod yX3_pass ∈ lw_g := lw_i3 238 rfl rfl
theorem yv_X3_pass : Cond.selects (yX3_pass).cls yX3_pass yX3_pass ∈ lw_g := lw_i3 239 rfl rfl
theorem yc_X3_welcome : Cond.code yX3_welcome cX3_welcome 3 none ∈ lw_g := lw_i4 4 rfl rfl
theorem yi_X3_welcome : Cond.initialized (yX3_welcome).cls ∈ lw_g := lw_i1 7 rfl rfl
theorem ym_X3_welcome : Cond.instanceMethod yX3_welcome ∈ lw_g := lw_i4 3 rfl rfl
theorem yv_X3_welcome : Cond.selects (yX3_welcome).cls yX3_welcome yX3_welcome ∈ lw_g := lw_g_mem 25 (by decide +kernel) (by decide +kernel)
theorem yc_X3_nextToJoin : Cond.code yX3_nextToJoin cX3_nextToJoin 3 (some .int) ∈ lw_g := lw_i4 8 rfl rfl
theorem yi_X3_nextToJoin : Cond.initialized (yX3_nextToJoin).cls ∈ lw_g := lw_i1 7 rfl rfl
theorem ym_X3_nextToJoin : Cond.instanceMethod yX3_nextToJoin ∈ lw_g := lw_i4 7 rfl rfl
theorem yv_X3_nextToJoin : Cond.selects (yX3_nextToJoin).cls yX3_nextToJoin yX3_nextToJoin ∈ lw_g := lw_g_mem 26 (by decide +kernel) (by decide +kernel)
theorem yc_X3_joinsAhead : Cond.code yX3_joinsAhead cX3_joinsAhead 2 (some .boolean) ∈ lw_g := lw_i4 11 rfl rfl
theorem yi_X3_joinsAhead : Cond.initialized (yX3_joinsAhead).cls ∈ lw_g := lw_i1 7 rfl rfl
theorem ys_X3_joinsAhead : Cond.static yX3_joinsAhead ∈ lw_g := lw_i4 10 rfl rfl
theorem yc_X3_hearCoughs : Cond.code yX3_hearCoughs cX3_hearCoughs 4 none ∈ lw_g := lw_i4 19 rfl rfl
theorem yi_X3_hearCoughs : Cond.initialized (yX3_hearCoughs).cls ∈ lw_g := lw_i1 7 rfl rfl
theorem ym_X3_hearCoughs : Cond.instanceMethod yX3_hearCoughs ∈ lw_g := lw_i4 18 rfl rfl
theorem yv_X3_hearCoughs : Cond.selects (yX3_hearCoughs).cls yX3_hearCoughs yX3_hearCoughs ∈ lw_g := lw_g_mem 27 (by decide +kernel) (by decide +kernel)
theorem yc_X3_pour : Cond.code yX3_pour cX3_pour 4 none ∈ lw_g := lw_i4 56 rfl rfl
theorem yi_X3_pour : Cond.initialized (yX3_pour).cls ∈ lw_g := lw_i1 7 rfl rfl
theorem ym_X3_pour : Cond.instanceMethod yX3_pour ∈ lw_g := lw_i4 55 rfl rfl
theorem yv_X3_pour : Cond.selects (yX3_pour).cls yX3_pour yX3_pour ∈ lw_g := lw_g_mem 29 (by decide +kernel) (by decide +kernel)
theorem yc_X3_levy : Cond.code yX3_levy cX3_levy 6 none ∈ lw_g := lw_i4 60 rfl rfl
theorem yi_X3_levy : Cond.initialized (yX3_levy).cls ∈ lw_g := lw_i1 7 rfl rfl
theorem ym_X3_levy : Cond.instanceMethod yX3_levy ∈ lw_g := lw_i4 59 rfl rfl
theorem yv_X3_levy : Cond.selects (yX3_levy).cls yX3_levy yX3_levy ∈ lw_g := lw_g_mem 30 (by decide +kernel) (by decide +kernel)
theorem yc_X3_wear : Cond.code yX3_wear cX3_wear 3 none ∈ lw_g := lw_i4 64 rfl rfl
theorem yi_X3_wear : Cond.initialized (yX3_wear).cls ∈ lw_g := lw_i1 7 rfl rfl
theorem ym_X3_wear : Cond.instanceMethod yX3_wear ∈ lw_g := lw_i4 63 rfl rfl
theorem yv_X3_wear : Cond.selects (yX3_wear).cls yX3_wear yX3_wear ∈ lw_g := lw_g_mem 31 (by decide +kernel) (by decide +kernel)
theorem yc_X3_release : Cond.code yX3_release cX3_release 2 none ∈ lw_g := lw_i4 68 rfl rfl
theorem yi_X3_release : Cond.initialized (yX3_release).cls ∈ lw_g := lw_i1 7 rfl rfl
theorem ym_X3_release : Cond.instanceMethod yX3_release ∈ lw_g := lw_i4 67 rfl rfl
theorem yv_X3_release : Cond.selects (yX3_release).cls yX3_release yX3_release ∈ lw_g := lw_g_mem 32 (by decide +kernel) (by decide +kernel)
theorem yc_X3_mutter : Cond.code yX3_mutter cX3_mutter 1 none ∈ lw_g := lw_i4 72 rfl rfl
theorem yi_X3_mutter : Cond.initialized (yX3_mutter).cls ∈ lw_g := lw_i1 7 rfl rfl
theorem ym_X3_mutter : Cond.instanceMethod yX3_mutter ∈ lw_g := lw_i4 71 rfl rfl
theorem yv_X3_mutter : Cond.selects (yX3_mutter).cls yX3_mutter yX3_mutter ∈ lw_g := lw_g_mem 33 (by decide +kernel) (by decide +kernel)
theorem yc_X4_init : Cond.code yX4_init cX4_init 1 none ∈ lw_g := lw_i1 37 rfl rfl
theorem yi_X4_init : Cond.initialized (yX4_init).cls ∈ lw_g := lw_i1 2 rfl rfl
theorem ym_X4_init : Cond.instanceMethod yX4_init ∈ lw_g := lw_i1 36 rfl rfl
theorem yc_X4_read : Cond.code yX4_read cX4_read 4 (some .boolean) ∈ lw_g := lw_i3 9 rfl rfl
theorem yi_X4_read : Cond.initialized (yX4_read).cls ∈ lw_g := lw_i1 2 rfl rfl
theorem ym_X4_read : Cond.instanceMethod yX4_read ∈ lw_g := lw_i3 7 rfl rfl
theorem yv_X4_read : Cond.selects (yX4_read).cls yX4_read yX4_read ∈ lw_g := lw_i3 8 rfl rfl
theorem yc_X4_refuse : Cond.code yX4_refuse cX4_refuse 2 none ∈ lw_g := lw_i3 101 rfl rfl
theorem yi_X4_refuse : Cond.initialized (yX4_refuse).cls ∈ lw_g := lw_i1 2 rfl rfl
theorem ym_X4_refuse : Cond.instanceMethod yX4_refuse ∈ lw_g := lw_i3 100 rfl rfl
theorem yv_X4_refuse : Cond.selects (yX4_refuse).cls yX4_refuse yX4_refuse ∈ lw_g := lw_g_mem 7 (by decide +kernel) (by decide +kernel)
theorem yc_X4_take : Cond.code yX4_take cX4_take 2 none ∈ lw_g := lw_i3 110 rfl rfl
theorem yi_X4_take : Cond.initialized (yX4_take).cls ∈ lw_g := lw_i1 2 rfl rfl
theorem ym_X4_take : Cond.instanceMethod yX4_take ∈ lw_g := lw_i3 109 rfl rfl
theorem yv_X4_take : Cond.selects (yX4_take).cls yX4_take yX4_take ∈ lw_g := lw_g_mem 8 (by decide +kernel) (by decide +kernel)
theorem yc_X4_number : Cond.code yX4_number cX4_number 4 (some .int) ∈ lw_g := lw_i3 114 rfl rfl
theorem yi_X4_number : Cond.initialized (yX4_number).cls ∈ lw_g := lw_i1 2 rfl rfl
theorem ym_X4_number : Cond.instanceMethod yX4_number ∈ lw_g := lw_i3 113 rfl rfl
theorem yv_X4_number : Cond.selects (yX4_number).cls yX4_number yX4_number ∈ lw_g := lw_g_mem 9 (by decide +kernel) (by decide +kernel)
theorem yc_X4_once : Cond.code yX4_once cX4_once 2 none ∈ lw_g := lw_i3 130 rfl rfl
theorem yi_X4_once : Cond.initialized (yX4_once).cls ∈ lw_g := lw_i1 2 rfl rfl
theorem ym_X4_once : Cond.instanceMethod yX4_once ∈ lw_g := lw_i3 129 rfl rfl
theorem yv_X4_once : Cond.selects (yX4_once).cls yX4_once yX4_once ∈ lw_g := lw_g_mem 13 (by decide +kernel) (by decide +kernel)
theorem yc_X4_readMan : Cond.code yX4_readMan cX4_readMan 2 none ∈ lw_g := lw_i3 97 rfl rfl
theorem yi_X4_readMan : Cond.initialized (yX4_readMan).cls ∈ lw_g := lw_i1 2 rfl rfl
theorem ym_X4_readMan : Cond.instanceMethod yX4_readMan ∈ lw_g := lw_i3 96 rfl rfl
theorem yv_X4_readMan : Cond.selects (yX4_readMan).cls yX4_readMan yX4_readMan ∈ lw_g := lw_g_mem 6 (by decide +kernel) (by decide +kernel)
theorem yc_X4_readGuard : Cond.code yX4_readGuard cX4_readGuard 3 none ∈ lw_g := lw_i3 118 rfl rfl
theorem yi_X4_readGuard : Cond.initialized (yX4_readGuard).cls ∈ lw_g := lw_i1 2 rfl rfl
theorem ym_X4_readGuard : Cond.instanceMethod yX4_readGuard ∈ lw_g := lw_i3 117 rfl rfl
theorem yv_X4_readGuard : Cond.selects (yX4_readGuard).cls yX4_readGuard yX4_readGuard ∈ lw_g := lw_g_mem 10 (by decide +kernel) (by decide +kernel)
theorem yc_X4_toldMan : Cond.code yX4_toldMan cX4_toldMan 2 (some .int) ∈ lw_g := lw_i3 122 rfl rfl
theorem yi_X4_toldMan : Cond.initialized (yX4_toldMan).cls ∈ lw_g := lw_i1 2 rfl rfl
theorem ym_X4_toldMan : Cond.instanceMethod yX4_toldMan ∈ lw_g := lw_i3 121 rfl rfl
theorem yv_X4_toldMan : Cond.selects (yX4_toldMan).cls yX4_toldMan yX4_toldMan ∈ lw_g := lw_g_mem 11 (by decide +kernel) (by decide +kernel)
theorem yc_X4_readPower : Cond.code yX4_readPower cX4_readPower 2 none ∈ lw_g := lw_i3 126 rfl rfl
theorem yi_X4_readPower : Cond.initialized (yX4_readPower).cls ∈ lw_g := lw_i1 2 rfl rfl
theorem ym_X4_readPower : Cond.instanceMethod yX4_readPower ∈ lw_g := lw_i3 125 rfl rfl
theorem yv_X4_readPower : Cond.selects (yX4_readPower).cls yX4_readPower yX4_readPower ∈ lw_g := lw_g_mem 12 (by decide +kernel) (by decide +kernel)
theorem yc_X4_readLaw : Cond.code yX4_readLaw cX4_readLaw 2 none ∈ lw_g := lw_i3 135 rfl rfl
theorem yi_X4_readLaw : Cond.initialized (yX4_readLaw).cls ∈ lw_g := lw_i1 2 rfl rfl
theorem ym_X4_readLaw : Cond.instanceMethod yX4_readLaw ∈ lw_g := lw_i3 134 rfl rfl
theorem yv_X4_readLaw : Cond.selects (yX4_readLaw).cls yX4_readLaw yX4_readLaw ∈ lw_g := lw_g_mem 14 (by decide +kernel) (by decide +kernel)
theorem yc_X4_knot : Cond.code yX4_knot cX4_knot 1 none ∈ lw_g := lw_i3 151 rfl rfl
theorem yi_X4_knot : Cond.initialized (yX4_knot).cls ∈ lw_g := lw_i1 2 rfl rfl
theorem ym_X4_knot : Cond.instanceMethod yX4_knot ∈ lw_g := lw_i3 150 rfl rfl
theorem yv_X4_knot : Cond.selects (yX4_knot).cls yX4_knot yX4_knot ∈ lw_g := lw_g_mem 18 (by decide +kernel) (by decide +kernel)
theorem yc_X4_readEither : Cond.code yX4_readEither cX4_readEither 3 none ∈ lw_g := lw_i3 139 rfl rfl
theorem yi_X4_readEither : Cond.initialized (yX4_readEither).cls ∈ lw_g := lw_i1 2 rfl rfl
theorem ym_X4_readEither : Cond.instanceMethod yX4_readEither ∈ lw_g := lw_i3 138 rfl rfl
theorem yv_X4_readEither : Cond.selects (yX4_readEither).cls yX4_readEither yX4_readEither ∈ lw_g := lw_g_mem 15 (by decide +kernel) (by decide +kernel)
theorem yc_X4_readBoth : Cond.code yX4_readBoth cX4_readBoth 3 none ∈ lw_g := lw_i3 143 rfl rfl
theorem yi_X4_readBoth : Cond.initialized (yX4_readBoth).cls ∈ lw_g := lw_i1 2 rfl rfl
theorem ym_X4_readBoth : Cond.instanceMethod yX4_readBoth ∈ lw_g := lw_i3 142 rfl rfl
theorem yv_X4_readBoth : Cond.selects (yX4_readBoth).cls yX4_readBoth yX4_readBoth ∈ lw_g := lw_g_mem 16 (by decide +kernel) (by decide +kernel)
theorem yc_X4_readNegated : Cond.code yX4_readNegated cX4_readNegated 4 none ∈ lw_g := lw_i3 147 rfl rfl
theorem yi_X4_readNegated : Cond.initialized (yX4_readNegated).cls ∈ lw_g := lw_i1 2 rfl rfl
theorem ym_X4_readNegated : Cond.instanceMethod yX4_readNegated ∈ lw_g := lw_i3 146 rfl rfl
theorem yv_X4_readNegated : Cond.selects (yX4_readNegated).cls yX4_readNegated yX4_readNegated ∈ lw_g := lw_g_mem 17 (by decide +kernel) (by decide +kernel)
theorem yc_X4_readComparison : Cond.code yX4_readComparison cX4_readComparison 3 none ∈ lw_g := lw_i3 155 rfl rfl
theorem yi_X4_readComparison : Cond.initialized (yX4_readComparison).cls ∈ lw_g := lw_i1 2 rfl rfl
theorem ym_X4_readComparison : Cond.instanceMethod yX4_readComparison ∈ lw_g := lw_i3 154 rfl rfl
theorem yv_X4_readComparison : Cond.selects (yX4_readComparison).cls yX4_readComparison yX4_readComparison ∈ lw_g := lw_g_mem 19 (by decide +kernel) (by decide +kernel)
theorem yc_X4_readSum : Cond.code yX4_readSum cX4_readSum 4 none ∈ lw_g := lw_i3 159 rfl rfl
theorem yi_X4_readSum : Cond.initialized (yX4_readSum).cls ∈ lw_g := lw_i1 2 rfl rfl
theorem ym_X4_readSum : Cond.instanceMethod yX4_readSum ∈ lw_g := lw_i3 158 rfl rfl
theorem yv_X4_readSum : Cond.selects (yX4_readSum).cls yX4_readSum yX4_readSum ∈ lw_g := lw_g_mem 20 (by decide +kernel) (by decide +kernel)
theorem yc_X4_readProduct : Cond.code yX4_readProduct cX4_readProduct 4 none ∈ lw_g := lw_i3 163 rfl rfl
theorem yi_X4_readProduct : Cond.initialized (yX4_readProduct).cls ∈ lw_g := lw_i1 2 rfl rfl
theorem ym_X4_readProduct : Cond.instanceMethod yX4_readProduct ∈ lw_g := lw_i3 162 rfl rfl
theorem yv_X4_readProduct : Cond.selects (yX4_readProduct).cls yX4_readProduct yX4_readProduct ∈ lw_g := lw_g_mem 21 (by decide +kernel) (by decide +kernel)
theorem yc_X4_readPart : Cond.code yX4_readPart cX4_readPart 3 none ∈ lw_g := lw_i3 167 rfl rfl
theorem yi_X4_readPart : Cond.initialized (yX4_readPart).cls ∈ lw_g := lw_i1 2 rfl rfl
theorem ym_X4_readPart : Cond.instanceMethod yX4_readPart ∈ lw_g := lw_i3 166 rfl rfl
theorem yv_X4_readPart : Cond.selects (yX4_readPart).cls yX4_readPart yX4_readPart ∈ lw_g := lw_g_mem 22 (by decide +kernel) (by decide +kernel)
theorem yc_X5_init : Cond.code yX5_init cX5_init 2 none ∈ lw_g := lw_i2 96 rfl rfl
theorem yi_X5_init : Cond.initialized (yX5_init).cls ∈ lw_g := lw_i1 8 rfl rfl
theorem ym_X5_init : Cond.instanceMethod yX5_init ∈ lw_g := lw_i2 95 rfl rfl
theorem yc_X5_clear : Cond.code yX5_clear cX5_clear 1 none ∈ lw_g := lw_i3 175 rfl rfl
theorem yi_X5_clear : Cond.initialized (yX5_clear).cls ∈ lw_g := lw_i1 8 rfl rfl
theorem ym_X5_clear : Cond.instanceMethod yX5_clear ∈ lw_g := lw_i3 173 rfl rfl
theorem yv_X5_clear : Cond.selects (yX5_clear).cls yX5_clear yX5_clear ∈ lw_g := lw_i3 174 rfl rfl
theorem yc_X5_remember : Cond.code yX5_remember cX5_remember 2 none ∈ lw_g := lw_i4 96 rfl rfl
theorem yi_X5_remember : Cond.initialized (yX5_remember).cls ∈ lw_g := lw_i1 8 rfl rfl
theorem ym_X5_remember : Cond.instanceMethod yX5_remember ∈ lw_g := lw_i4 94 rfl rfl
theorem yv_X5_remember : Cond.selects (yX5_remember).cls yX5_remember yX5_remember ∈ lw_g := lw_i4 95 rfl rfl
theorem yc_X5_takeBack : Cond.code yX5_takeBack cX5_takeBack 2 (some .boolean) ∈ lw_g := lw_i5 131 rfl rfl
theorem yi_X5_takeBack : Cond.initialized (yX5_takeBack).cls ∈ lw_g := lw_i1 8 rfl rfl
theorem ym_X5_takeBack : Cond.instanceMethod yX5_takeBack ∈ lw_g := lw_i5 129 rfl rfl
theorem yv_X5_takeBack : Cond.selects (yX5_takeBack).cls yX5_takeBack yX5_takeBack ∈ lw_g := lw_i5 130 rfl rfl
theorem yc_X6_init : Cond.code yX6_init cX6_init 1 none ∈ lw_g := lw_i2 116 rfl rfl
theorem yi_X6_init : Cond.initialized (yX6_init).cls ∈ lw_g := lw_i1 9 rfl rfl
theorem ym_X6_init : Cond.instanceMethod yX6_init ∈ lw_g := lw_i2 115 rfl rfl
theorem yc_X6_clear : Cond.code yX6_clear cX6_clear 1 none ∈ lw_g := lw_i3 179 rfl rfl
theorem yi_X6_clear : Cond.initialized (yX6_clear).cls ∈ lw_g := lw_i1 9 rfl rfl
theorem ym_X6_clear : Cond.instanceMethod yX6_clear ∈ lw_g := lw_i3 177 rfl rfl
theorem yv_X6_clear : Cond.selects (yX6_clear).cls yX6_clear yX6_clear ∈ lw_g := lw_i3 178 rfl rfl
theorem yc_X6_lay : Cond.code yX6_lay cX6_lay 4 (some .int) ∈ lw_g := lw_i5 32 rfl rfl
theorem yi_X6_lay : Cond.initialized (yX6_lay).cls ∈ lw_g := lw_i1 9 rfl rfl
theorem ym_X6_lay : Cond.instanceMethod yX6_lay ∈ lw_g := lw_i5 30 rfl rfl
theorem yv_X6_lay : Cond.selects (yX6_lay).cls yX6_lay yX6_lay ∈ lw_g := lw_i5 31 rfl rfl
theorem yc_X6_layStrike : Cond.code yX6_layStrike cX6_layStrike 2 (some .int) ∈ lw_g := lw_i5 40 rfl rfl
theorem yi_X6_layStrike : Cond.initialized (yX6_layStrike).cls ∈ lw_g := lw_i1 9 rfl rfl
theorem ym_X6_layStrike : Cond.instanceMethod yX6_layStrike ∈ lw_g := lw_i5 38 rfl rfl
theorem yv_X6_layStrike : Cond.selects (yX6_layStrike).cls yX6_layStrike yX6_layStrike ∈ lw_g := lw_i5 39 rfl rfl
theorem yc_X6_knowBy : Cond.code yX6_knowBy cX6_knowBy 2 (some .boolean) ∈ lw_g := lw_i5 48 rfl rfl
theorem yi_X6_knowBy : Cond.initialized (yX6_knowBy).cls ∈ lw_g := lw_i1 9 rfl rfl
theorem ym_X6_knowBy : Cond.instanceMethod yX6_knowBy ∈ lw_g := lw_i5 46 rfl rfl
theorem yv_X6_knowBy : Cond.selects (yX6_knowBy).cls yX6_knowBy yX6_knowBy ∈ lw_g := lw_i5 47 rfl rfl
theorem yc_X6_knownBy : Cond.code yX6_knownBy cX6_knownBy 1 (some .int) ∈ lw_g := lw_i5 64 rfl rfl
theorem yi_X6_knownBy : Cond.initialized (yX6_knownBy).cls ∈ lw_g := lw_i1 9 rfl rfl
theorem ym_X6_knownBy : Cond.instanceMethod yX6_knownBy ∈ lw_g := lw_i5 62 rfl rfl
theorem yv_X6_knownBy : Cond.selects (yX6_knownBy).cls yX6_knownBy yX6_knownBy ∈ lw_g := lw_i5 63 rfl rfl
theorem yc_X6_search : Cond.code yX6_search cX6_search 6 none ∈ lw_g := lw_i5 56 rfl rfl
theorem yi_X6_search : Cond.initialized (yX6_search).cls ∈ lw_g := lw_i1 9 rfl rfl
theorem ym_X6_search : Cond.instanceMethod yX6_search ∈ lw_g := lw_i5 54 rfl rfl
theorem yv_X6_search : Cond.selects (yX6_search).cls yX6_search yX6_search ∈ lw_g := lw_i5 55 rfl rfl
theorem yc_X6_markStruck : Cond.code yX6_markStruck cX6_markStruck 2 none ∈ lw_g := lw_i5 60 rfl rfl
theorem yi_X6_markStruck : Cond.initialized (yX6_markStruck).cls ∈ lw_g := lw_i1 9 rfl rfl
theorem ym_X6_markStruck : Cond.instanceMethod yX6_markStruck ∈ lw_g := lw_i5 59 rfl rfl
theorem yv_X6_markStruck : Cond.selects (yX6_markStruck).cls yX6_markStruck yX6_markStruck ∈ lw_g := lw_g_mem 46 (by decide +kernel) (by decide +kernel)
theorem yc_X6_tells : Cond.code yX6_tells cX6_tells 2 (some .boolean) ∈ lw_g := lw_i5 72 rfl rfl
theorem yi_X6_tells : Cond.initialized (yX6_tells).cls ∈ lw_g := lw_i1 9 rfl rfl
theorem ym_X6_tells : Cond.instanceMethod yX6_tells ∈ lw_g := lw_i5 71 rfl rfl
theorem yv_X6_tells : Cond.selects (yX6_tells).cls yX6_tells yX6_tells ∈ lw_g := lw_g_mem 48 (by decide +kernel) (by decide +kernel)
theorem yc_X6_lastMinute : Cond.code yX6_lastMinute cX6_lastMinute 4 (some .int) ∈ lw_g := lw_i5 68 rfl rfl
theorem yi_X6_lastMinute : Cond.initialized (yX6_lastMinute).cls ∈ lw_g := lw_i1 9 rfl rfl
theorem ym_X6_lastMinute : Cond.instanceMethod yX6_lastMinute ∈ lw_g := lw_i5 67 rfl rfl
theorem yv_X6_lastMinute : Cond.selects (yX6_lastMinute).cls yX6_lastMinute yX6_lastMinute ∈ lw_g := lw_g_mem 47 (by decide +kernel) (by decide +kernel)
theorem yc_X6_fitsThrough : Cond.code yX6_fitsThrough cX6_fitsThrough 3 (some .boolean) ∈ lw_g := lw_i5 81 rfl rfl
theorem yi_X6_fitsThrough : Cond.initialized (yX6_fitsThrough).cls ∈ lw_g := lw_i1 9 rfl rfl
theorem ym_X6_fitsThrough : Cond.instanceMethod yX6_fitsThrough ∈ lw_g := lw_i5 80 rfl rfl
theorem yv_X6_fitsThrough : Cond.selects (yX6_fitsThrough).cls yX6_fitsThrough yX6_fitsThrough ∈ lw_g := lw_g_mem 49 (by decide +kernel) (by decide +kernel)
theorem yc_X6_fitsBehindLast : Cond.code yX6_fitsBehindLast cX6_fitsBehindLast 4 (some .boolean) ∈ lw_g := lw_i5 86 rfl rfl
theorem yi_X6_fitsBehindLast : Cond.initialized (yX6_fitsBehindLast).cls ∈ lw_g := lw_i1 9 rfl rfl
theorem ym_X6_fitsBehindLast : Cond.instanceMethod yX6_fitsBehindLast ∈ lw_g := lw_i5 85 rfl rfl
theorem yv_X6_fitsBehindLast : Cond.selects (yX6_fitsBehindLast).cls yX6_fitsBehindLast yX6_fitsBehindLast ∈ lw_g := lw_g_mem 50 (by decide +kernel) (by decide +kernel)
theorem yc_X6_addWay : Cond.code yX6_addWay cX6_addWay 3 none ∈ lw_g := lw_i5 91 rfl rfl
theorem yi_X6_addWay : Cond.initialized (yX6_addWay).cls ∈ lw_g := lw_i1 9 rfl rfl
theorem ym_X6_addWay : Cond.instanceMethod yX6_addWay ∈ lw_g := lw_i5 90 rfl rfl
theorem yv_X6_addWay : Cond.selects (yX6_addWay).cls yX6_addWay yX6_addWay ∈ lw_g := lw_g_mem 51 (by decide +kernel) (by decide +kernel)
theorem yc_X7_init : Cond.code yX7_init cX7_init 1 none ∈ lw_g := lw_i1 43 rfl rfl
theorem yi_X7_init : Cond.initialized (yX7_init).cls ∈ lw_g := lw_i1 3 rfl rfl
theorem ym_X7_init : Cond.instanceMethod yX7_init ∈ lw_g := lw_i1 42 rfl rfl
theorem yc_X7_put : Cond.code yX7_put cX7_put 3 none ∈ lw_g := lw_i3 1 rfl rfl
theorem yi_X7_put : Cond.initialized (yX7_put).cls ∈ lw_g := lw_i1 3 rfl rfl
theorem ym_X7_put : Cond.instanceMethod yX7_put ∈ lw_g := lw_i2 239 rfl rfl
theorem yv_X7_put : Cond.selects (yX7_put).cls yX7_put yX7_put ∈ lw_g := lw_i3 0 rfl rfl
theorem yc_X7_begin : Cond.code yX7_begin cX7_begin 2 none ∈ lw_g := lw_i3 14 rfl rfl
theorem yi_X7_begin : Cond.initialized (yX7_begin).cls ∈ lw_g := lw_i1 3 rfl rfl
theorem ym_X7_begin : Cond.instanceMethod yX7_begin ∈ lw_g := lw_i3 12 rfl rfl
theorem yv_X7_begin : Cond.selects (yX7_begin).cls yX7_begin yX7_begin ∈ lw_g := lw_i3 13 rfl rfl
theorem yc_X7_advance : Cond.code yX7_advance cX7_advance 2 none ∈ lw_g := lw_i3 21 rfl rfl
theorem yi_X7_advance : Cond.initialized (yX7_advance).cls ∈ lw_g := lw_i1 3 rfl rfl
theorem ym_X7_advance : Cond.instanceMethod yX7_advance ∈ lw_g := lw_i3 19 rfl rfl
theorem yv_X7_advance : Cond.selects (yX7_advance).cls yX7_advance yX7_advance ∈ lw_g := lw_i3 20 rfl rfl
theorem yc_X7_peek : Cond.code yX7_peek cX7_peek 1 (some .int) ∈ lw_g := lw_i3 25 rfl rfl
theorem yi_X7_peek : Cond.initialized (yX7_peek).cls ∈ lw_g := lw_i1 3 rfl rfl
theorem ym_X7_peek : Cond.instanceMethod yX7_peek ∈ lw_g := lw_i3 24 rfl rfl
theorem yv_X7_peek : Cond.selects (yX7_peek).cls yX7_peek yX7_peek ∈ lw_g := lw_g_mem 0 (by decide +kernel) (by decide +kernel)
theorem yc_X7_isLetter : Cond.code yX7_isLetter cX7_isLetter 1 (some .boolean) ∈ lw_g := lw_i3 28 rfl rfl
theorem yi_X7_isLetter : Cond.initialized (yX7_isLetter).cls ∈ lw_g := lw_i1 3 rfl rfl
theorem ys_X7_isLetter : Cond.static yX7_isLetter ∈ lw_g := lw_i3 27 rfl rfl
theorem yc_X7_isDigit : Cond.code yX7_isDigit cX7_isDigit 1 (some .boolean) ∈ lw_g := lw_i3 80 rfl rfl
theorem yi_X7_isDigit : Cond.initialized (yX7_isDigit).cls ∈ lw_g := lw_i1 3 rfl rfl
theorem ys_X7_isDigit : Cond.static yX7_isDigit ∈ lw_g := lw_i3 79 rfl rfl
theorem yc_X7_readNumber : Cond.code yX7_readNumber cX7_readNumber 1 none ∈ lw_g := lw_i3 84 rfl rfl
theorem yi_X7_readNumber : Cond.initialized (yX7_readNumber).cls ∈ lw_g := lw_i1 3 rfl rfl
theorem ym_X7_readNumber : Cond.instanceMethod yX7_readNumber ∈ lw_g := lw_i3 83 rfl rfl
theorem yv_X7_readNumber : Cond.selects (yX7_readNumber).cls yX7_readNumber yX7_readNumber ∈ lw_g := lw_g_mem 3 (by decide +kernel) (by decide +kernel)
theorem yc_X7_readWord : Cond.code yX7_readWord cX7_readWord 2 none ∈ lw_g := lw_i3 32 rfl rfl
theorem yi_X7_readWord : Cond.initialized (yX7_readWord).cls ∈ lw_g := lw_i1 3 rfl rfl
theorem ym_X7_readWord : Cond.instanceMethod yX7_readWord ∈ lw_g := lw_i3 31 rfl rfl
theorem yv_X7_readWord : Cond.selects (yX7_readWord).cls yX7_readWord yX7_readWord ∈ lw_g := lw_g_mem 1 (by decide +kernel) (by decide +kernel)
theorem yc_X7_wordKind : Cond.code yX7_wordKind cX7_wordKind 5 (some .int) ∈ lw_g := lw_i3 36 rfl rfl
theorem yi_X7_wordKind : Cond.initialized (yX7_wordKind).cls ∈ lw_g := lw_i1 3 rfl rfl
theorem ym_X7_wordKind : Cond.instanceMethod yX7_wordKind ∈ lw_g := lw_i3 35 rfl rfl
theorem yv_X7_wordKind : Cond.selects (yX7_wordKind).cls yX7_wordKind yX7_wordKind ∈ lw_g := lw_g_mem 2 (by decide +kernel) (by decide +kernel)
theorem yc_X7_signKind : Cond.code yX7_signKind cX7_signKind 2 (some .int) ∈ lw_g := lw_i3 89 rfl rfl
theorem yi_X7_signKind : Cond.initialized (yX7_signKind).cls ∈ lw_g := lw_i1 3 rfl rfl
theorem ym_X7_signKind : Cond.instanceMethod yX7_signKind ∈ lw_g := lw_i3 88 rfl rfl
theorem yv_X7_signKind : Cond.selects (yX7_signKind).cls yX7_signKind yX7_signKind ∈ lw_g := lw_g_mem 4 (by decide +kernel) (by decide +kernel)
theorem yc_X7_belongs : Cond.code yX7_belongs cX7_belongs 2 (some .boolean) ∈ lw_g := lw_i3 93 rfl rfl
theorem yi_X7_belongs : Cond.initialized (yX7_belongs).cls ∈ lw_g := lw_i1 3 rfl rfl
theorem ym_X7_belongs : Cond.instanceMethod yX7_belongs ∈ lw_g := lw_i3 92 rfl rfl
theorem yv_X7_belongs : Cond.selects (yX7_belongs).cls yX7_belongs yX7_belongs ∈ lw_g := lw_g_mem 5 (by decide +kernel) (by decide +kernel)
theorem yc_X8_init : Cond.code yX8_init cX8_init 2 none ∈ lw_g := lw_i1 98 rfl rfl
theorem yi_X8_init : Cond.initialized (yX8_init).cls ∈ lw_g := lw_i1 4 rfl rfl
theorem ym_X8_init : Cond.instanceMethod yX8_init ∈ lw_g := lw_i1 97 rfl rfl
theorem yc_X8_clear : Cond.code yX8_clear cX8_clear 2 none ∈ lw_g := lw_i1 180 rfl rfl
theorem yi_X8_clear : Cond.initialized (yX8_clear).cls ∈ lw_g := lw_i1 4 rfl rfl
theorem ym_X8_clear : Cond.instanceMethod yX8_clear ∈ lw_g := lw_i1 178 rfl rfl
theorem yv_X8_clear : Cond.selects (yX8_clear).cls yX8_clear yX8_clear ∈ lw_g := lw_i1 179 rfl rfl
theorem yc_X8_find : Cond.code yX8_find cX8_find 3 (some .int) ∈ lw_g := lw_i3 106 rfl rfl
theorem yi_X8_find : Cond.initialized (yX8_find).cls ∈ lw_g := lw_i1 4 rfl rfl
theorem ym_X8_find : Cond.instanceMethod yX8_find ∈ lw_g := lw_i3 104 rfl rfl
theorem yv_X8_find : Cond.selects (yX8_find).cls yX8_find yX8_find ∈ lw_g := lw_i3 105 rfl rfl
theorem yc_X9_init : Cond.code yX9_init cX9_init 1 none ∈ lw_g := lw_i1 29 rfl rfl
theorem yi_X9_init : Cond.initialized (yX9_init).cls ∈ lw_g := lw_i1 1 rfl rfl
theorem ym_X9_init : Cond.instanceMethod yX9_init ∈ lw_g := lw_i1 28 rfl rfl
theorem yc_X9_feed : Cond.code yX9_feed cX9_feed 7 (some .int) ∈ lw_g := lw_i2 237 rfl rfl
theorem yi_X9_feed : Cond.initialized (yX9_feed).cls ∈ lw_g := lw_i1 1 rfl rfl
theorem ym_X9_feed : Cond.instanceMethod yX9_feed ∈ lw_g := lw_i2 235 rfl rfl
theorem yv_X9_feed : Cond.selects (yX9_feed).cls yX9_feed yX9_feed ∈ lw_g := lw_i2 236 rfl rfl
theorem yc_X9_text : Cond.code yX9_text cX9_text 3 (some .int) ∈ lw_g := lw_i3 5 rfl rfl
theorem yi_X9_text : Cond.initialized (yX9_text).cls ∈ lw_g := lw_i1 1 rfl rfl
theorem ym_X9_text : Cond.instanceMethod yX9_text ∈ lw_g := lw_i3 3 rfl rfl
theorem yv_X9_text : Cond.selects (yX9_text).cls yX9_text yX9_text ∈ lw_g := lw_i3 4 rfl rfl
theorem yc_X9_fault : Cond.code yX9_fault cX9_fault 2 (some .int) ∈ lw_g := lw_i3 183 rfl rfl
theorem yi_X9_fault : Cond.initialized (yX9_fault).cls ∈ lw_g := lw_i1 1 rfl rfl
theorem ym_X9_fault : Cond.instanceMethod yX9_fault ∈ lw_g := lw_i3 181 rfl rfl
theorem yv_X9_fault : Cond.selects (yX9_fault).cls yX9_fault yX9_fault ∈ lw_g := lw_i3 182 rfl rfl
theorem yc_X9_named : Cond.code yX9_named cX9_named 2 (some .int) ∈ lw_g := lw_i3 187 rfl rfl
theorem yi_X9_named : Cond.initialized (yX9_named).cls ∈ lw_g := lw_i1 1 rfl rfl
theorem ym_X9_named : Cond.instanceMethod yX9_named ∈ lw_g := lw_i3 185 rfl rfl
theorem yv_X9_named : Cond.selects (yX9_named).cls yX9_named yX9_named ∈ lw_g := lw_i3 186 rfl rfl
theorem yc_X9_look : Cond.code yX9_look cX9_look 3 (some .int) ∈ lw_g := lw_i5 163 rfl rfl
theorem yi_X9_look : Cond.initialized (yX9_look).cls ∈ lw_g := lw_i1 1 rfl rfl
theorem ym_X9_look : Cond.instanceMethod yX9_look ∈ lw_g := lw_i5 161 rfl rfl
theorem yv_X9_look : Cond.selects (yX9_look).cls yX9_look yX9_look ∈ lw_g := lw_i5 162 rfl rfl
theorem yc_X9_stands : Cond.code yX9_stands cX9_stands 2 (some .int) ∈ lw_g := lw_i3 192 rfl rfl
theorem yi_X9_stands : Cond.initialized (yX9_stands).cls ∈ lw_g := lw_i1 1 rfl rfl
theorem ym_X9_stands : Cond.instanceMethod yX9_stands ∈ lw_g := lw_i3 190 rfl rfl
theorem yv_X9_stands : Cond.selects (yX9_stands).cls yX9_stands yX9_stands ∈ lw_g := lw_i3 191 rfl rfl
theorem yc_X9_holder : Cond.code yX9_holder cX9_holder 2 (some .int) ∈ lw_g := lw_i3 204 rfl rfl
theorem yi_X9_holder : Cond.initialized (yX9_holder).cls ∈ lw_g := lw_i1 1 rfl rfl
theorem ym_X9_holder : Cond.instanceMethod yX9_holder ∈ lw_g := lw_i3 202 rfl rfl
theorem yv_X9_holder : Cond.selects (yX9_holder).cls yX9_holder yX9_holder ∈ lw_g := lw_i3 203 rfl rfl
theorem yc_X9_law : Cond.code yX9_law cX9_law 4 (some .long) ∈ lw_g := lw_i3 212 rfl rfl
theorem yi_X9_law : Cond.initialized (yX9_law).cls ∈ lw_g := lw_i1 1 rfl rfl
theorem ym_X9_law : Cond.instanceMethod yX9_law ∈ lw_g := lw_i3 210 rfl rfl
theorem yv_X9_law : Cond.selects (yX9_law).cls yX9_law yX9_law ∈ lw_g := lw_i3 211 rfl rfl
theorem yc_X9_go : Cond.code yX9_go cX9_go 3 (some .int) ∈ lw_g := lw_i3 236 rfl rfl
theorem yi_X9_go : Cond.initialized (yX9_go).cls ∈ lw_g := lw_i1 1 rfl rfl
theorem ym_X9_go : Cond.instanceMethod yX9_go ∈ lw_g := lw_i3 234 rfl rfl
theorem yv_X9_go : Cond.selects (yX9_go).cls yX9_go yX9_go ∈ lw_g := lw_i3 235 rfl rfl
theorem yc_X9_recordHolders : Cond.code yX9_recordHolders cX9_recordHolders 3 none ∈ lw_g := lw_i4 80 rfl rfl
theorem yi_X9_recordHolders : Cond.initialized (yX9_recordHolders).cls ∈ lw_g := lw_i1 1 rfl rfl
theorem ym_X9_recordHolders : Cond.instanceMethod yX9_recordHolders ∈ lw_g := lw_i4 79 rfl rfl
theorem yv_X9_recordHolders : Cond.selects (yX9_recordHolders).cls yX9_recordHolders yX9_recordHolders ∈ lw_g := lw_g_mem 34 (by decide +kernel) (by decide +kernel)
theorem yc_X9_join : Cond.code yX9_join cX9_join 2 (some .int) ∈ lw_g := lw_i4 84 rfl rfl
theorem yi_X9_join : Cond.initialized (yX9_join).cls ∈ lw_g := lw_i1 1 rfl rfl
theorem ym_X9_join : Cond.instanceMethod yX9_join ∈ lw_g := lw_i4 82 rfl rfl
theorem yv_X9_join : Cond.selects (yX9_join).cls yX9_join yX9_join ∈ lw_g := lw_i4 83 rfl rfl
theorem yc_X9_out : Cond.code yX9_out cX9_out 2 (some .boolean) ∈ lw_g := lw_i4 105 rfl rfl
theorem yi_X9_out : Cond.initialized (yX9_out).cls ∈ lw_g := lw_i1 1 rfl rfl
theorem ym_X9_out : Cond.instanceMethod yX9_out ∈ lw_g := lw_i4 103 rfl rfl
theorem yv_X9_out : Cond.selects (yX9_out).cls yX9_out yX9_out ∈ lw_g := lw_i4 104 rfl rfl
theorem yc_X9_swap : Cond.code yX9_swap cX9_swap 4 (some .boolean) ∈ lw_g := lw_i4 114 rfl rfl
theorem yi_X9_swap : Cond.initialized (yX9_swap).cls ∈ lw_g := lw_i1 1 rfl rfl
theorem ym_X9_swap : Cond.instanceMethod yX9_swap ∈ lw_g := lw_i4 112 rfl rfl
theorem yv_X9_swap : Cond.selects (yX9_swap).cls yX9_swap yX9_swap ∈ lw_g := lw_i4 113 rfl rfl
theorem yc_X9_kneel : Cond.code yX9_kneel cX9_kneel 3 (some .boolean) ∈ lw_g := lw_i4 123 rfl rfl
theorem yi_X9_kneel : Cond.initialized (yX9_kneel).cls ∈ lw_g := lw_i1 1 rfl rfl
theorem ym_X9_kneel : Cond.instanceMethod yX9_kneel ∈ lw_g := lw_i4 121 rfl rfl
theorem yv_X9_kneel : Cond.selects (yX9_kneel).cls yX9_kneel yX9_kneel ∈ lw_g := lw_i4 122 rfl rfl
theorem yc_X9_cough : Cond.code yX9_cough cX9_cough 2 (some .boolean) ∈ lw_g := lw_i4 127 rfl rfl
theorem yi_X9_cough : Cond.initialized (yX9_cough).cls ∈ lw_g := lw_i1 1 rfl rfl
theorem ym_X9_cough : Cond.instanceMethod yX9_cough ∈ lw_g := lw_i4 125 rfl rfl
theorem yv_X9_cough : Cond.selects (yX9_cough).cls yX9_cough yX9_cough ∈ lw_g := lw_i4 126 rfl rfl
theorem yc_X9_move : Cond.code yX9_move cX9_move 3 (some .boolean) ∈ lw_g := lw_i4 131 rfl rfl
theorem yi_X9_move : Cond.initialized (yX9_move).cls ∈ lw_g := lw_i1 1 rfl rfl
theorem ym_X9_move : Cond.instanceMethod yX9_move ∈ lw_g := lw_i4 129 rfl rfl
theorem yv_X9_move : Cond.selects (yX9_move).cls yX9_move yX9_move ∈ lw_g := lw_i4 130 rfl rfl
theorem yc_X9_was : Cond.code yX9_was cX9_was 3 (some .int) ∈ lw_g := lw_i4 135 rfl rfl
theorem yi_X9_was : Cond.initialized (yX9_was).cls ∈ lw_g := lw_i1 1 rfl rfl
theorem ym_X9_was : Cond.instanceMethod yX9_was ∈ lw_g := lw_i4 133 rfl rfl
theorem yv_X9_was : Cond.selects (yX9_was).cls yX9_was yX9_was ∈ lw_g := lw_i4 134 rfl rfl
theorem yc_X9_ruled : Cond.code yX9_ruled cX9_ruled 5 (some .int) ∈ lw_g := lw_i4 139 rfl rfl
theorem yi_X9_ruled : Cond.initialized (yX9_ruled).cls ∈ lw_g := lw_i1 1 rfl rfl
theorem ym_X9_ruled : Cond.instanceMethod yX9_ruled ∈ lw_g := lw_i4 137 rfl rfl
theorem yv_X9_ruled : Cond.selects (yX9_ruled).cls yX9_ruled yX9_ruled ∈ lw_g := lw_i4 138 rfl rfl
theorem yc_X9_served : Cond.code yX9_served cX9_served 2 (some .int) ∈ lw_g := lw_i4 143 rfl rfl
theorem yi_X9_served : Cond.initialized (yX9_served).cls ∈ lw_g := lw_i1 1 rfl rfl
theorem ym_X9_served : Cond.instanceMethod yX9_served ∈ lw_g := lw_i4 141 rfl rfl
theorem yv_X9_served : Cond.selects (yX9_served).cls yX9_served yX9_served ∈ lw_g := lw_i4 142 rfl rfl
theorem yc_X9_coming : Cond.code yX9_coming cX9_coming 4 (some .int) ∈ lw_g := lw_i4 157 rfl rfl
theorem yi_X9_coming : Cond.initialized (yX9_coming).cls ∈ lw_g := lw_i1 1 rfl rfl
theorem ym_X9_coming : Cond.instanceMethod yX9_coming ∈ lw_g := lw_i4 155 rfl rfl
theorem yv_X9_coming : Cond.selects (yX9_coming).cls yX9_coming yX9_coming ∈ lw_g := lw_i4 156 rfl rfl
theorem yc_X9_decree : Cond.code yX9_decree cX9_decree 4 (some .int) ∈ lw_g := lw_i4 171 rfl rfl
theorem yi_X9_decree : Cond.initialized (yX9_decree).cls ∈ lw_g := lw_i1 1 rfl rfl
theorem ym_X9_decree : Cond.instanceMethod yX9_decree ∈ lw_g := lw_i4 169 rfl rfl
theorem yv_X9_decree : Cond.selects (yX9_decree).cls yX9_decree yX9_decree ∈ lw_g := lw_i4 170 rfl rfl
theorem yc_X9_coup : Cond.code yX9_coup cX9_coup 1 (some .int) ∈ lw_g := lw_i4 194 rfl rfl
theorem yi_X9_coup : Cond.initialized (yX9_coup).cls ∈ lw_g := lw_i1 1 rfl rfl
theorem ym_X9_coup : Cond.instanceMethod yX9_coup ∈ lw_g := lw_i4 192 rfl rfl
theorem yv_X9_coup : Cond.selects (yX9_coup).cls yX9_coup yX9_coup ∈ lw_g := lw_i4 193 rfl rfl
theorem yc_X9_rests : Cond.code yX9_rests cX9_rests 4 (some .int) ∈ lw_g := lw_i4 205 rfl rfl
theorem yi_X9_rests : Cond.initialized (yX9_rests).cls ∈ lw_g := lw_i1 1 rfl rfl
theorem ym_X9_rests : Cond.instanceMethod yX9_rests ∈ lw_g := lw_i4 203 rfl rfl
theorem yv_X9_rests : Cond.selects (yX9_rests).cls yX9_rests yX9_rests ∈ lw_g := lw_i4 204 rfl rfl
theorem yc_X9_rest : Cond.code yX9_rest cX9_rest 5 (some .int) ∈ lw_g := lw_i4 230 rfl rfl
theorem yi_X9_rest : Cond.initialized (yX9_rest).cls ∈ lw_g := lw_i1 1 rfl rfl
theorem ym_X9_rest : Cond.instanceMethod yX9_rest ∈ lw_g := lw_i4 228 rfl rfl
theorem yv_X9_rest : Cond.selects (yX9_rest).cls yX9_rest yX9_rest ∈ lw_g := lw_i4 229 rfl rfl
theorem yc_X9_best : Cond.code yX9_best cX9_best 5 (some .int) ∈ lw_g := lw_i4 234 rfl rfl
theorem yi_X9_best : Cond.initialized (yX9_best).cls ∈ lw_g := lw_i1 1 rfl rfl
theorem ym_X9_best : Cond.instanceMethod yX9_best ∈ lw_g := lw_i4 232 rfl rfl
theorem yv_X9_best : Cond.selects (yX9_best).cls yX9_best yX9_best ∈ lw_g := lw_i4 233 rfl rfl
theorem yc_X9_fairest : Cond.code yX9_fairest cX9_fairest 4 (some .int) ∈ lw_g := lw_i5 6 rfl rfl
theorem yi_X9_fairest : Cond.initialized (yX9_fairest).cls ∈ lw_g := lw_i1 1 rfl rfl
theorem ym_X9_fairest : Cond.instanceMethod yX9_fairest ∈ lw_g := lw_i5 4 rfl rfl
theorem yv_X9_fairest : Cond.selects (yX9_fairest).cls yX9_fairest yX9_fairest ∈ lw_g := lw_i5 5 rfl rfl
theorem yc_X9_gain : Cond.code yX9_gain cX9_gain 3 (some .int) ∈ lw_g := lw_i5 18 rfl rfl
theorem yi_X9_gain : Cond.initialized (yX9_gain).cls ∈ lw_g := lw_i1 1 rfl rfl
theorem ym_X9_gain : Cond.instanceMethod yX9_gain ∈ lw_g := lw_i5 16 rfl rfl
theorem yv_X9_gain : Cond.selects (yX9_gain).cls yX9_gain yX9_gain ∈ lw_g := lw_i5 17 rfl rfl
theorem yc_X9_stone : Cond.code yX9_stone cX9_stone 4 (some .int) ∈ lw_g := lw_i5 28 rfl rfl
theorem yi_X9_stone : Cond.initialized (yX9_stone).cls ∈ lw_g := lw_i1 1 rfl rfl
theorem ym_X9_stone : Cond.instanceMethod yX9_stone ∈ lw_g := lw_i5 26 rfl rfl
theorem yv_X9_stone : Cond.selects (yX9_stone).cls yX9_stone yX9_stone ∈ lw_g := lw_i5 27 rfl rfl
theorem yc_X9_strike : Cond.code yX9_strike cX9_strike 2 (some .int) ∈ lw_g := lw_i5 36 rfl rfl
theorem yi_X9_strike : Cond.initialized (yX9_strike).cls ∈ lw_g := lw_i1 1 rfl rfl
theorem ym_X9_strike : Cond.instanceMethod yX9_strike ∈ lw_g := lw_i5 34 rfl rfl
theorem yv_X9_strike : Cond.selects (yX9_strike).cls yX9_strike yX9_strike ∈ lw_g := lw_i5 35 rfl rfl
theorem yc_X9_known : Cond.code yX9_known cX9_known 2 (some .boolean) ∈ lw_g := lw_i5 44 rfl rfl
theorem yi_X9_known : Cond.initialized (yX9_known).cls ∈ lw_g := lw_i1 1 rfl rfl
theorem ym_X9_known : Cond.instanceMethod yX9_known ∈ lw_g := lw_i5 42 rfl rfl
theorem yv_X9_known : Cond.selects (yX9_known).cls yX9_known yX9_known ∈ lw_g := lw_i5 43 rfl rfl
theorem yc_X9_came : Cond.code yX9_came cX9_came 1 (some .int) ∈ lw_g := lw_i5 52 rfl rfl
theorem yi_X9_came : Cond.initialized (yX9_came).cls ∈ lw_g := lw_i1 1 rfl rfl
theorem ym_X9_came : Cond.instanceMethod yX9_came ∈ lw_g := lw_i5 50 rfl rfl
theorem yv_X9_came : Cond.selects (yX9_came).cls yX9_came yX9_came ∈ lw_g := lw_i5 51 rfl rfl
theorem yc_X9_one : Cond.code yX9_one cX9_one 3 (some .int) ∈ lw_g := lw_i5 95 rfl rfl
theorem yi_X9_one : Cond.initialized (yX9_one).cls ∈ lw_g := lw_i1 1 rfl rfl
theorem ym_X9_one : Cond.instanceMethod yX9_one ∈ lw_g := lw_i5 93 rfl rfl
theorem yv_X9_one : Cond.selects (yX9_one).cls yX9_one yX9_one ∈ lw_g := lw_i5 94 rfl rfl
theorem yc_X9_empty : Cond.code yX9_empty cX9_empty 3 (some .int) ∈ lw_g := lw_i5 99 rfl rfl
theorem yi_X9_empty : Cond.initialized (yX9_empty).cls ∈ lw_g := lw_i1 1 rfl rfl
theorem ym_X9_empty : Cond.instanceMethod yX9_empty ∈ lw_g := lw_i5 97 rfl rfl
theorem yv_X9_empty : Cond.selects (yX9_empty).cls yX9_empty yX9_empty ∈ lw_g := lw_i5 98 rfl rfl
theorem yc_X9_chance : Cond.code yX9_chance cX9_chance 4 (some .int) ∈ lw_g := lw_i5 107 rfl rfl
theorem yi_X9_chance : Cond.initialized (yX9_chance).cls ∈ lw_g := lw_i1 1 rfl rfl
theorem ym_X9_chance : Cond.instanceMethod yX9_chance ∈ lw_g := lw_i5 105 rfl rfl
theorem yv_X9_chance : Cond.selects (yX9_chance).cls yX9_chance yX9_chance ∈ lw_g := lw_i5 106 rfl rfl
theorem yc_X9_tried : Cond.code yX9_tried cX9_tried 4 (some .int) ∈ lw_g := lw_i5 115 rfl rfl
theorem yi_X9_tried : Cond.initialized (yX9_tried).cls ∈ lw_g := lw_i1 1 rfl rfl
theorem ym_X9_tried : Cond.instanceMethod yX9_tried ∈ lw_g := lw_i5 113 rfl rfl
theorem yv_X9_tried : Cond.selects (yX9_tried).cls yX9_tried yX9_tried ∈ lw_g := lw_i5 114 rfl rfl
theorem yc_X9_undo : Cond.code yX9_undo cX9_undo 1 (some .int) ∈ lw_g := lw_i5 127 rfl rfl
theorem yi_X9_undo : Cond.initialized (yX9_undo).cls ∈ lw_g := lw_i1 1 rfl rfl
theorem ym_X9_undo : Cond.instanceMethod yX9_undo ∈ lw_g := lw_i5 125 rfl rfl
theorem yv_X9_undo : Cond.selects (yX9_undo).cls yX9_undo yX9_undo ∈ lw_g := lw_i5 126 rfl rfl
theorem yc_X9_keep : Cond.code yX9_keep cX9_keep 1 (some .int) ∈ lw_g := lw_i5 135 rfl rfl
theorem yi_X9_keep : Cond.initialized (yX9_keep).cls ∈ lw_g := lw_i1 1 rfl rfl
theorem ym_X9_keep : Cond.instanceMethod yX9_keep ∈ lw_g := lw_i5 133 rfl rfl
theorem yv_X9_keep : Cond.selects (yX9_keep).cls yX9_keep yX9_keep ∈ lw_g := lw_i5 134 rfl rfl
theorem yc_X9_back : Cond.code yX9_back cX9_back 1 (some .int) ∈ lw_g := lw_i5 140 rfl rfl
theorem yi_X9_back : Cond.initialized (yX9_back).cls ∈ lw_g := lw_i1 1 rfl rfl
theorem ym_X9_back : Cond.instanceMethod yX9_back ∈ lw_g := lw_i5 138 rfl rfl
theorem yv_X9_back : Cond.selects (yX9_back).cls yX9_back yX9_back ∈ lw_g := lw_i5 139 rfl rfl
theorem yc_X9_count : Cond.code yX9_count cX9_count 2 (some .int) ∈ lw_g := lw_i5 144 rfl rfl
theorem yi_X9_count : Cond.initialized (yX9_count).cls ∈ lw_g := lw_i1 1 rfl rfl
theorem ym_X9_count : Cond.instanceMethod yX9_count ∈ lw_g := lw_i5 142 rfl rfl
theorem yv_X9_count : Cond.selects (yX9_count).cls yX9_count yX9_count ∈ lw_g := lw_i5 143 rfl rfl
theorem yc_X9_isMan : Cond.code yX9_isMan cX9_isMan 2 (some .boolean) ∈ lw_g := lw_i4 92 rfl rfl
theorem yi_X9_isMan : Cond.initialized (yX9_isMan).cls ∈ lw_g := lw_i1 1 rfl rfl
theorem ym_X9_isMan : Cond.instanceMethod yX9_isMan ∈ lw_g := lw_i4 91 rfl rfl
theorem yv_X9_isMan : Cond.selects (yX9_isMan).cls yX9_isMan yX9_isMan ∈ lw_g := lw_g_mem 36 (by decide +kernel) (by decide +kernel)
theorem yc_X9_isToCome : Cond.code yX9_isToCome cX9_isToCome 2 (some .boolean) ∈ lw_g := lw_i4 88 rfl rfl
theorem yi_X9_isToCome : Cond.initialized (yX9_isToCome).cls ∈ lw_g := lw_i1 1 rfl rfl
theorem ym_X9_isToCome : Cond.instanceMethod yX9_isToCome ∈ lw_g := lw_i4 87 rfl rfl
theorem yv_X9_isToCome : Cond.selects (yX9_isToCome).cls yX9_isToCome yX9_isToCome ∈ lw_g := lw_g_mem 35 (by decide +kernel) (by decide +kernel)
theorem yc_X9_isInQueue : Cond.code yX9_isInQueue cX9_isInQueue 2 (some .boolean) ∈ lw_g := lw_i4 109 rfl rfl
theorem yi_X9_isInQueue : Cond.initialized (yX9_isInQueue).cls ∈ lw_g := lw_i1 1 rfl rfl
theorem ym_X9_isInQueue : Cond.instanceMethod yX9_isInQueue ∈ lw_g := lw_i4 108 rfl rfl
theorem yv_X9_isInQueue : Cond.selects (yX9_isInQueue).cls yX9_isInQueue yX9_isInQueue ∈ lw_g := lw_g_mem 37 (by decide +kernel) (by decide +kernel)
theorem yc_X9_isPower : Cond.code yX9_isPower cX9_isPower 2 (some .boolean) ∈ lw_g := lw_i3 208 rfl rfl
theorem yi_X9_isPower : Cond.initialized (yX9_isPower).cls ∈ lw_g := lw_i1 1 rfl rfl
theorem ym_X9_isPower : Cond.instanceMethod yX9_isPower ∈ lw_g := lw_i3 207 rfl rfl
theorem yv_X9_isPower : Cond.selects (yX9_isPower).cls yX9_isPower yX9_isPower ∈ lw_g := lw_g_mem 24 (by decide +kernel) (by decide +kernel)
theorem yc_X9_isPlace : Cond.code yX9_isPlace cX9_isPlace 2 (some .boolean) ∈ lw_g := lw_i3 196 rfl rfl
theorem yi_X9_isPlace : Cond.initialized (yX9_isPlace).cls ∈ lw_g := lw_i1 1 rfl rfl
theorem ym_X9_isPlace : Cond.instanceMethod yX9_isPlace ∈ lw_g := lw_i3 195 rfl rfl
theorem yv_X9_isPlace : Cond.selects (yX9_isPlace).cls yX9_isPlace yX9_isPlace ∈ lw_g := lw_g_mem 23 (by decide +kernel) (by decide +kernel)
theorem yc_X9_isZeroOrOne : Cond.code yX9_isZeroOrOne cX9_isZeroOrOne 2 (some .boolean) ∈ lw_g := lw_i4 175 rfl rfl
theorem yi_X9_isZeroOrOne : Cond.initialized (yX9_isZeroOrOne).cls ∈ lw_g := lw_i1 1 rfl rfl
theorem ym_X9_isZeroOrOne : Cond.instanceMethod yX9_isZeroOrOne ∈ lw_g := lw_i4 174 rfl rfl
theorem yv_X9_isZeroOrOne : Cond.selects (yX9_isZeroOrOne).cls yX9_isZeroOrOne yX9_isZeroOrOne ∈ lw_g := lw_g_mem 39 (by decide +kernel) (by decide +kernel)
theorem yc_X9_isAhead : Cond.code yX9_isAhead cX9_isAhead 3 (some .boolean) ∈ lw_g := lw_i4 213 rfl rfl
theorem yi_X9_isAhead : Cond.initialized (yX9_isAhead).cls ∈ lw_g := lw_i1 1 rfl rfl
theorem ym_X9_isAhead : Cond.instanceMethod yX9_isAhead ∈ lw_g := lw_i4 212 rfl rfl
theorem yv_X9_isAhead : Cond.selects (yX9_isAhead).cls yX9_isAhead yX9_isAhead ∈ lw_g := lw_g_mem 41 (by decide +kernel) (by decide +kernel)
theorem yc_X9_isGame : Cond.code yX9_isGame cX9_isGame 4 (some .boolean) ∈ lw_g := lw_i4 209 rfl rfl
theorem yi_X9_isGame : Cond.initialized (yX9_isGame).cls ∈ lw_g := lw_i1 1 rfl rfl
theorem ym_X9_isGame : Cond.instanceMethod yX9_isGame ∈ lw_g := lw_i4 208 rfl rfl
theorem yv_X9_isGame : Cond.selects (yX9_isGame).cls yX9_isGame yX9_isGame ∈ lw_g := lw_g_mem 40 (by decide +kernel) (by decide +kernel)
theorem yc_X10_init : Cond.code yX10_init cX10_init 1 none ∈ lw_g := lw_i6 11 rfl rfl
theorem yi_X10_init : Cond.initialized (yX10_init).cls ∈ lw_g := lw_i1 13 rfl rfl
theorem ym_X10_init : Cond.instanceMethod yX10_init ∈ lw_g := lw_i6 10 rfl rfl
theorem yc_X10_thrown : Cond.code yX10_thrown cX10_thrown 1 (some .int) ∈ lw_g := lw_i6 227 rfl rfl
theorem yi_X10_thrown : Cond.initialized (yX10_thrown).cls ∈ lw_g := lw_i1 13 rfl rfl
theorem ym_X10_thrown : Cond.instanceMethod yX10_thrown ∈ lw_g := lw_i6 225 rfl rfl
theorem yv_X10_thrown : Cond.selects (yX10_thrown).cls yX10_thrown yX10_thrown ∈ lw_g := lw_i6 226 rfl rfl
theorem yc_X10_feed : Cond.code yX10_feed cX10_feed 8 (some .int) ∈ lw_g := lw_i6 231 rfl rfl
theorem yi_X10_feed : Cond.initialized (yX10_feed).cls ∈ lw_g := lw_i1 13 rfl rfl
theorem ym_X10_feed : Cond.instanceMethod yX10_feed ∈ lw_g := lw_i6 229 rfl rfl
theorem yv_X10_feed : Cond.selects (yX10_feed).cls yX10_feed yX10_feed ∈ lw_g := lw_i6 230 rfl rfl
theorem yc_X10_here : Cond.code yX10_here cX10_here 1 (some .int) ∈ lw_g := lw_i7 7 rfl rfl
theorem yi_X10_here : Cond.initialized (yX10_here).cls ∈ lw_g := lw_i1 13 rfl rfl
theorem ym_X10_here : Cond.instanceMethod yX10_here ∈ lw_g := lw_i7 6 rfl rfl
theorem yv_X10_here : Cond.selects (yX10_here).cls yX10_here yX10_here ∈ lw_g := lw_g_mem 57 (by decide +kernel) (by decide +kernel)
theorem yc_X10_isSmall : Cond.code yX10_isSmall cX10_isSmall 1 (some .boolean) ∈ lw_g := lw_i7 10 rfl rfl
theorem yi_X10_isSmall : Cond.initialized (yX10_isSmall).cls ∈ lw_g := lw_i1 13 rfl rfl
theorem ys_X10_isSmall : Cond.static yX10_isSmall ∈ lw_g := lw_i7 9 rfl rfl
theorem yc_X10_isDigit : Cond.code yX10_isDigit cX10_isDigit 1 (some .boolean) ∈ lw_g := lw_i7 31 rfl rfl
theorem yi_X10_isDigit : Cond.initialized (yX10_isDigit).cls ∈ lw_g := lw_i1 13 rfl rfl
theorem ys_X10_isDigit : Cond.static yX10_isDigit ∈ lw_g := lw_i7 30 rfl rfl
theorem yc_X10_token : Cond.code yX10_token cX10_token 2 none ∈ lw_g := lw_i7 3 rfl rfl
theorem yi_X10_token : Cond.initialized (yX10_token).cls ∈ lw_g := lw_i1 13 rfl rfl
theorem ym_X10_token : Cond.instanceMethod yX10_token ∈ lw_g := lw_i7 2 rfl rfl
theorem yv_X10_token : Cond.selects (yX10_token).cls yX10_token yX10_token ∈ lw_g := lw_g_mem 56 (by decide +kernel) (by decide +kernel)
theorem yc_X10_sign : Cond.code yX10_sign cX10_sign 2 none ∈ lw_g := lw_i7 36 rfl rfl
theorem yi_X10_sign : Cond.initialized (yX10_sign).cls ∈ lw_g := lw_i1 13 rfl rfl
theorem ym_X10_sign : Cond.instanceMethod yX10_sign ∈ lw_g := lw_i7 35 rfl rfl
theorem yv_X10_sign : Cond.selects (yX10_sign).cls yX10_sign yX10_sign ∈ lw_g := lw_g_mem 60 (by decide +kernel) (by decide +kernel)
theorem yc_X10_word : Cond.code yX10_word cX10_word 4 (some .int) ∈ lw_g := lw_i7 14 rfl rfl
theorem yi_X10_word : Cond.initialized (yX10_word).cls ∈ lw_g := lw_i1 13 rfl rfl
theorem ym_X10_word : Cond.instanceMethod yX10_word ∈ lw_g := lw_i7 13 rfl rfl
theorem yv_X10_word : Cond.selects (yX10_word).cls yX10_word yX10_word ∈ lw_g := lw_g_mem 58 (by decide +kernel) (by decide +kernel)
theorem yc_X10_name : Cond.code yX10_name cX10_name 2 none ∈ lw_g := lw_i7 28 rfl rfl
theorem yi_X10_name : Cond.initialized (yX10_name).cls ∈ lw_g := lw_i1 13 rfl rfl
theorem ym_X10_name : Cond.instanceMethod yX10_name ∈ lw_g := lw_i7 27 rfl rfl
theorem yv_X10_name : Cond.selects (yX10_name).cls yX10_name yX10_name ∈ lw_g := lw_g_mem 59 (by decide +kernel) (by decide +kernel)
theorem yc_X10_wrong : Cond.code yX10_wrong cX10_wrong 2 none ∈ lw_g := lw_i7 44 rfl rfl
theorem yi_X10_wrong : Cond.initialized (yX10_wrong).cls ∈ lw_g := lw_i1 13 rfl rfl
theorem ym_X10_wrong : Cond.instanceMethod yX10_wrong ∈ lw_g := lw_i7 43 rfl rfl
theorem yv_X10_wrong : Cond.selects (yX10_wrong).cls yX10_wrong yX10_wrong ∈ lw_g := lw_g_mem 62 (by decide +kernel) (by decide +kernel)
theorem yc_X10_isWord : Cond.code yX10_isWord cX10_isWord 2 (some .boolean) ∈ lw_g := lw_i7 67 rfl rfl
theorem yi_X10_isWord : Cond.initialized (yX10_isWord).cls ∈ lw_g := lw_i1 13 rfl rfl
theorem ym_X10_isWord : Cond.instanceMethod yX10_isWord ∈ lw_g := lw_i7 66 rfl rfl
theorem yv_X10_isWord : Cond.selects (yX10_isWord).cls yX10_isWord yX10_isWord ∈ lw_g := lw_g_mem 67 (by decide +kernel) (by decide +kernel)
theorem yc_X10_isSign : Cond.code yX10_isSign cX10_isSign 2 (some .boolean) ∈ lw_g := lw_i7 123 rfl rfl
theorem yi_X10_isSign : Cond.initialized (yX10_isSign).cls ∈ lw_g := lw_i1 13 rfl rfl
theorem ym_X10_isSign : Cond.instanceMethod yX10_isSign ∈ lw_g := lw_i7 122 rfl rfl
theorem yv_X10_isSign : Cond.selects (yX10_isSign).cls yX10_isSign yX10_isSign ∈ lw_g := lw_g_mem 81 (by decide +kernel) (by decide +kernel)
theorem yc_X10_goOn : Cond.code yX10_goOn cX10_goOn 1 none ∈ lw_g := lw_i7 79 rfl rfl
theorem yi_X10_goOn : Cond.initialized (yX10_goOn).cls ∈ lw_g := lw_i1 13 rfl rfl
theorem ym_X10_goOn : Cond.instanceMethod yX10_goOn ∈ lw_g := lw_i7 78 rfl rfl
theorem yv_X10_goOn : Cond.selects (yX10_goOn).cls yX10_goOn yX10_goOn ∈ lw_g := lw_g_mem 70 (by decide +kernel) (by decide +kernel)
theorem yc_X10_numeral : Cond.code yX10_numeral cX10_numeral 4 (some .int) ∈ lw_g := lw_i7 63 rfl rfl
theorem yi_X10_numeral : Cond.initialized (yX10_numeral).cls ∈ lw_g := lw_i1 13 rfl rfl
theorem ym_X10_numeral : Cond.instanceMethod yX10_numeral ∈ lw_g := lw_i7 62 rfl rfl
theorem yv_X10_numeral : Cond.selects (yX10_numeral).cls yX10_numeral yX10_numeral ∈ lw_g := lw_g_mem 66 (by decide +kernel) (by decide +kernel)
theorem yc_X10_found : Cond.code yX10_found cX10_found 5 (some .int) ∈ lw_g := lw_i7 59 rfl rfl
theorem yi_X10_found : Cond.initialized (yX10_found).cls ∈ lw_g := lw_i1 13 rfl rfl
theorem ys_X10_found : Cond.static yX10_found ∈ lw_g := lw_i7 58 rfl rfl
theorem yc_X10_fresh : Cond.code yX10_fresh cX10_fresh 5 (some .int) ∈ lw_g := lw_i7 56 rfl rfl
theorem yi_X10_fresh : Cond.initialized (yX10_fresh).cls ∈ lw_g := lw_i1 13 rfl rfl
theorem ym_X10_fresh : Cond.instanceMethod yX10_fresh ∈ lw_g := lw_i7 55 rfl rfl
theorem yv_X10_fresh : Cond.selects (yX10_fresh).cls yX10_fresh yX10_fresh ∈ lw_g := lw_g_mem 65 (by decide +kernel) (by decide +kernel)
theorem yc_X10_fresher : Cond.code yX10_fresher cX10_fresher 2 (some .int) ∈ lw_g := lw_i7 48 rfl rfl
theorem yi_X10_fresher : Cond.initialized (yX10_fresher).cls ∈ lw_g := lw_i1 13 rfl rfl
theorem ym_X10_fresher : Cond.instanceMethod yX10_fresher ∈ lw_g := lw_i7 47 rfl rfl
theorem yv_X10_fresher : Cond.selects (yX10_fresher).cls yX10_fresher yX10_fresher ∈ lw_g := lw_g_mem 63 (by decide +kernel) (by decide +kernel)
theorem yc_X10_reads : Cond.code yX10_reads cX10_reads 3 none ∈ lw_g := lw_i6 239 rfl rfl
theorem yi_X10_reads : Cond.initialized (yX10_reads).cls ∈ lw_g := lw_i1 13 rfl rfl
theorem ym_X10_reads : Cond.instanceMethod yX10_reads ∈ lw_g := lw_i6 238 rfl rfl
theorem yv_X10_reads : Cond.selects (yX10_reads).cls yX10_reads yX10_reads ∈ lw_g := lw_g_mem 55 (by decide +kernel) (by decide +kernel)
theorem yc_X10_line : Cond.code yX10_line cX10_line 2 none ∈ lw_g := lw_i7 40 rfl rfl
theorem yi_X10_line : Cond.initialized (yX10_line).cls ∈ lw_g := lw_i1 13 rfl rfl
theorem ym_X10_line : Cond.instanceMethod yX10_line ∈ lw_g := lw_i7 39 rfl rfl
theorem yv_X10_line : Cond.selects (yX10_line).cls yX10_line yX10_line ∈ lw_g := lw_g_mem 61 (by decide +kernel) (by decide +kernel)
theorem yc_X10_manLine : Cond.code yX10_manLine cX10_manLine 2 none ∈ lw_g := lw_i7 52 rfl rfl
theorem yi_X10_manLine : Cond.initialized (yX10_manLine).cls ∈ lw_g := lw_i1 13 rfl rfl
theorem ym_X10_manLine : Cond.instanceMethod yX10_manLine ∈ lw_g := lw_i7 51 rfl rfl
theorem yv_X10_manLine : Cond.selects (yX10_manLine).cls yX10_manLine yX10_manLine ∈ lw_g := lw_g_mem 64 (by decide +kernel) (by decide +kernel)
theorem yc_X10_manAtHand : Cond.code yX10_manAtHand cX10_manAtHand 1 (some .int) ∈ lw_g := lw_i7 75 rfl rfl
theorem yi_X10_manAtHand : Cond.initialized (yX10_manAtHand).cls ∈ lw_g := lw_i1 13 rfl rfl
theorem ym_X10_manAtHand : Cond.instanceMethod yX10_manAtHand ∈ lw_g := lw_i7 74 rfl rfl
theorem yv_X10_manAtHand : Cond.selects (yX10_manAtHand).cls yX10_manAtHand yX10_manAtHand ∈ lw_g := lw_g_mem 69 (by decide +kernel) (by decide +kernel)
theorem yc_X10_guardLine : Cond.code yX10_guardLine cX10_guardLine 3 none ∈ lw_g := lw_i7 71 rfl rfl
theorem yi_X10_guardLine : Cond.initialized (yX10_guardLine).cls ∈ lw_g := lw_i1 13 rfl rfl
theorem ym_X10_guardLine : Cond.instanceMethod yX10_guardLine ∈ lw_g := lw_i7 70 rfl rfl
theorem yv_X10_guardLine : Cond.selects (yX10_guardLine).cls yX10_guardLine yX10_guardLine ∈ lw_g := lw_g_mem 68 (by decide +kernel) (by decide +kernel)
theorem yc_X10_powerLine : Cond.code yX10_powerLine cX10_powerLine 2 none ∈ lw_g := lw_i7 83 rfl rfl
theorem yi_X10_powerLine : Cond.initialized (yX10_powerLine).cls ∈ lw_g := lw_i1 13 rfl rfl
theorem ym_X10_powerLine : Cond.instanceMethod yX10_powerLine ∈ lw_g := lw_i7 82 rfl rfl
theorem yv_X10_powerLine : Cond.selects (yX10_powerLine).cls yX10_powerLine yX10_powerLine ∈ lw_g := lw_g_mem 71 (by decide +kernel) (by decide +kernel)
theorem yc_X10_lawLine : Cond.code yX10_lawLine cX10_lawLine 2 none ∈ lw_g := lw_i7 87 rfl rfl
theorem yi_X10_lawLine : Cond.initialized (yX10_lawLine).cls ∈ lw_g := lw_i1 13 rfl rfl
theorem ym_X10_lawLine : Cond.instanceMethod yX10_lawLine ∈ lw_g := lw_i7 86 rfl rfl
theorem yv_X10_lawLine : Cond.selects (yX10_lawLine).cls yX10_lawLine yX10_lawLine ∈ lw_g := lw_g_mem 72 (by decide +kernel) (by decide +kernel)
theorem yc_X10_puts : Cond.code yX10_puts cX10_puts 3 none ∈ lw_g := lw_i7 107 rfl rfl
theorem yi_X10_puts : Cond.initialized (yX10_puts).cls ∈ lw_g := lw_i1 13 rfl rfl
theorem ym_X10_puts : Cond.instanceMethod yX10_puts ∈ lw_g := lw_i7 106 rfl rfl
theorem yv_X10_puts : Cond.selects (yX10_puts).cls yX10_puts yX10_puts ∈ lw_g := lw_g_mem 77 (by decide +kernel) (by decide +kernel)
theorem yc_X10_knot : Cond.code yX10_knot cX10_knot 1 none ∈ lw_g := lw_i7 103 rfl rfl
theorem yi_X10_knot : Cond.initialized (yX10_knot).cls ∈ lw_g := lw_i1 13 rfl rfl
theorem ym_X10_knot : Cond.instanceMethod yX10_knot ∈ lw_g := lw_i7 102 rfl rfl
theorem yv_X10_knot : Cond.selects (yX10_knot).cls yX10_knot yX10_knot ∈ lw_g := lw_g_mem 76 (by decide +kernel) (by decide +kernel)
theorem yc_X10_expression : Cond.code yX10_expression cX10_expression 1 none ∈ lw_g := lw_i7 91 rfl rfl
theorem yi_X10_expression : Cond.initialized (yX10_expression).cls ∈ lw_g := lw_i1 13 rfl rfl
theorem ym_X10_expression : Cond.instanceMethod yX10_expression ∈ lw_g := lw_i7 90 rfl rfl
theorem yv_X10_expression : Cond.selects (yX10_expression).cls yX10_expression yX10_expression ∈ lw_g := lw_g_mem 73 (by decide +kernel) (by decide +kernel)
theorem yc_X10_conjunction : Cond.code yX10_conjunction cX10_conjunction 1 none ∈ lw_g := lw_i7 95 rfl rfl
theorem yi_X10_conjunction : Cond.initialized (yX10_conjunction).cls ∈ lw_g := lw_i1 13 rfl rfl
theorem ym_X10_conjunction : Cond.instanceMethod yX10_conjunction ∈ lw_g := lw_i7 94 rfl rfl
theorem yv_X10_conjunction : Cond.selects (yX10_conjunction).cls yX10_conjunction yX10_conjunction ∈ lw_g := lw_g_mem 74 (by decide +kernel) (by decide +kernel)
theorem yc_X10_negation : Cond.code yX10_negation cX10_negation 2 none ∈ lw_g := lw_i7 99 rfl rfl
theorem yi_X10_negation : Cond.initialized (yX10_negation).cls ∈ lw_g := lw_i1 13 rfl rfl
theorem ym_X10_negation : Cond.instanceMethod yX10_negation ∈ lw_g := lw_i7 98 rfl rfl
theorem yv_X10_negation : Cond.selects (yX10_negation).cls yX10_negation yX10_negation ∈ lw_g := lw_g_mem 75 (by decide +kernel) (by decide +kernel)
theorem yc_X10_sum : Cond.code yX10_sum cX10_sum 2 none ∈ lw_g := lw_i7 111 rfl rfl
theorem yi_X10_sum : Cond.initialized (yX10_sum).cls ∈ lw_g := lw_i1 13 rfl rfl
theorem ym_X10_sum : Cond.instanceMethod yX10_sum ∈ lw_g := lw_i7 110 rfl rfl
theorem yv_X10_sum : Cond.selects (yX10_sum).cls yX10_sum yX10_sum ∈ lw_g := lw_g_mem 78 (by decide +kernel) (by decide +kernel)
theorem yc_X10_product : Cond.code yX10_product cX10_product 2 none ∈ lw_g := lw_i7 115 rfl rfl
theorem yi_X10_product : Cond.initialized (yX10_product).cls ∈ lw_g := lw_i1 13 rfl rfl
theorem ym_X10_product : Cond.instanceMethod yX10_product ∈ lw_g := lw_i7 114 rfl rfl
theorem yv_X10_product : Cond.selects (yX10_product).cls yX10_product yX10_product ∈ lw_g := lw_g_mem 79 (by decide +kernel) (by decide +kernel)
theorem yc_X10_primary : Cond.code yX10_primary cX10_primary 2 none ∈ lw_g := lw_i7 119 rfl rfl
theorem yi_X10_primary : Cond.initialized (yX10_primary).cls ∈ lw_g := lw_i1 13 rfl rfl
theorem ym_X10_primary : Cond.instanceMethod yX10_primary ∈ lw_g := lw_i7 118 rfl rfl
theorem yv_X10_primary : Cond.selects (yX10_primary).cls yX10_primary yX10_primary ∈ lw_g := lw_g_mem 80 (by decide +kernel) (by decide +kernel)
theorem yc_X10_half : Cond.code yX10_half cX10_half 3 none ∈ lw_g := lw_i7 126 rfl rfl
theorem yi_X10_half : Cond.initialized (yX10_half).cls ∈ lw_g := lw_i1 13 rfl rfl
theorem ys_X10_half : Cond.static yX10_half ∈ lw_g := lw_i7 125 rfl rfl
theorem yc_X10_text : Cond.code yX10_text cX10_text 3 (some .int) ∈ lw_g := lw_i6 235 rfl rfl
theorem yi_X10_text : Cond.initialized (yX10_text).cls ∈ lw_g := lw_i1 13 rfl rfl
theorem ym_X10_text : Cond.instanceMethod yX10_text ∈ lw_g := lw_i6 233 rfl rfl
theorem yv_X10_text : Cond.selects (yX10_text).cls yX10_text yX10_text ∈ lw_g := lw_i6 234 rfl rfl
theorem yc_X10_fault : Cond.code yX10_fault cX10_fault 2 (some .int) ∈ lw_g := lw_i7 130 rfl rfl
theorem yi_X10_fault : Cond.initialized (yX10_fault).cls ∈ lw_g := lw_i1 13 rfl rfl
theorem ym_X10_fault : Cond.instanceMethod yX10_fault ∈ lw_g := lw_i7 128 rfl rfl
theorem yv_X10_fault : Cond.selects (yX10_fault).cls yX10_fault yX10_fault ∈ lw_g := lw_i7 129 rfl rfl
theorem yc_X10_named : Cond.code yX10_named cX10_named 2 (some .int) ∈ lw_g := lw_i7 134 rfl rfl
theorem yi_X10_named : Cond.initialized (yX10_named).cls ∈ lw_g := lw_i1 13 rfl rfl
theorem ym_X10_named : Cond.instanceMethod yX10_named ∈ lw_g := lw_i7 132 rfl rfl
theorem yv_X10_named : Cond.selects (yX10_named).cls yX10_named yX10_named ∈ lw_g := lw_i7 133 rfl rfl
theorem yc_X10_is : Cond.code yX10_is cX10_is 1 (some .long) ∈ lw_g := lw_i7 192 rfl rfl
theorem yi_X10_is : Cond.initialized (yX10_is).cls ∈ lw_g := lw_i1 13 rfl rfl
theorem ys_X10_is : Cond.static yX10_is ∈ lw_g := lw_i7 191 rfl rfl
theorem yc_X10_works : Cond.code yX10_works cX10_works 8 (some .boolean) ∈ lw_g := lw_i7 189 rfl rfl
theorem yi_X10_works : Cond.initialized (yX10_works).cls ∈ lw_g := lw_i1 13 rfl rfl
theorem ym_X10_works : Cond.instanceMethod yX10_works ∈ lw_g := lw_i7 188 rfl rfl
theorem yv_X10_works : Cond.selects (yX10_works).cls yX10_works yX10_works ∈ lw_g := lw_g_mem 89 (by decide +kernel) (by decide +kernel)
theorem yc_X10_goes : Cond.code yX10_goes cX10_goes 3 (some .boolean) ∈ lw_g := lw_i7 185 rfl rfl
theorem yi_X10_goes : Cond.initialized (yX10_goes).cls ∈ lw_g := lw_i1 13 rfl rfl
theorem ym_X10_goes : Cond.instanceMethod yX10_goes ∈ lw_g := lw_i7 184 rfl rfl
theorem yv_X10_goes : Cond.selects (yX10_goes).cls yX10_goes yX10_goes ∈ lw_g := lw_g_mem 88 (by decide +kernel) (by decide +kernel)
theorem yc_X10_hasLaw : Cond.code yX10_hasLaw cX10_hasLaw 2 (some .boolean) ∈ lw_g := lw_i7 172 rfl rfl
theorem yi_X10_hasLaw : Cond.initialized (yX10_hasLaw).cls ∈ lw_g := lw_i1 13 rfl rfl
theorem ym_X10_hasLaw : Cond.instanceMethod yX10_hasLaw ∈ lw_g := lw_i7 171 rfl rfl
theorem yv_X10_hasLaw : Cond.selects (yX10_hasLaw).cls yX10_hasLaw yX10_hasLaw ∈ lw_g := lw_g_mem 85 (by decide +kernel) (by decide +kernel)
theorem yc_X10_calls : Cond.code yX10_calls cX10_calls 6 none ∈ lw_g := lw_i7 181 rfl rfl
theorem yi_X10_calls : Cond.initialized (yX10_calls).cls ∈ lw_g := lw_i1 13 rfl rfl
theorem ym_X10_calls : Cond.instanceMethod yX10_calls ∈ lw_g := lw_i7 180 rfl rfl
theorem yv_X10_calls : Cond.selects (yX10_calls).cls yX10_calls yX10_calls ∈ lw_g := lw_g_mem 87 (by decide +kernel) (by decide +kernel)
theorem yc_X10_within : Cond.code yX10_within cX10_within 5 (some .int) ∈ lw_g := lw_i7 229 rfl rfl
theorem yi_X10_within : Cond.initialized (yX10_within).cls ∈ lw_g := lw_i1 13 rfl rfl
theorem ym_X10_within : Cond.instanceMethod yX10_within ∈ lw_g := lw_i7 228 rfl rfl
theorem yv_X10_within : Cond.selects (yX10_within).cls yX10_within yX10_within ∈ lw_g := lw_g_mem 96 (by decide +kernel) (by decide +kernel)
theorem yc_X10_starts : Cond.code yX10_starts cX10_starts 4 none ∈ lw_g := lw_i6 20 rfl rfl
theorem yi_X10_starts : Cond.initialized (yX10_starts).cls ∈ lw_g := lw_i1 13 rfl rfl
theorem ym_X10_starts : Cond.instanceMethod yX10_starts ∈ lw_g := lw_i6 19 rfl rfl
theorem yv_X10_starts : Cond.selects (yX10_starts).cls yX10_starts yX10_starts ∈ lw_g := lw_g_mem 54 (by decide +kernel) (by decide +kernel)
theorem yc_X10_begins : Cond.code yX10_begins cX10_begins 1 none ∈ lw_g := lw_i6 16 rfl rfl
theorem yi_X10_begins : Cond.initialized (yX10_begins).cls ∈ lw_g := lw_i1 13 rfl rfl
theorem ym_X10_begins : Cond.instanceMethod yX10_begins ∈ lw_g := lw_i6 15 rfl rfl
theorem yv_X10_begins : Cond.selects (yX10_begins).cls yX10_begins yX10_begins ∈ lw_g := lw_g_mem 53 (by decide +kernel) (by decide +kernel)
theorem yc_X10_copies : Cond.code yX10_copies cX10_copies 6 none ∈ lw_g := lw_i8 34 rfl rfl
theorem yi_X10_copies : Cond.initialized (yX10_copies).cls ∈ lw_g := lw_i1 13 rfl rfl
theorem ym_X10_copies : Cond.instanceMethod yX10_copies ∈ lw_g := lw_i8 33 rfl rfl
theorem yv_X10_copies : Cond.selects (yX10_copies).cls yX10_copies yX10_copies ∈ lw_g := lw_g_mem 105 (by decide +kernel) (by decide +kernel)
theorem yc_X10_copiesLog : Cond.code yX10_copiesLog cX10_copiesLog 4 none ∈ lw_g := lw_i8 202 rfl rfl
theorem yi_X10_copiesLog : Cond.initialized (yX10_copiesLog).cls ∈ lw_g := lw_i1 13 rfl rfl
theorem ym_X10_copiesLog : Cond.instanceMethod yX10_copiesLog ∈ lw_g := lw_i8 201 rfl rfl
theorem yv_X10_copiesLog : Cond.selects (yX10_copiesLog).cls yX10_copiesLog yX10_copiesLog ∈ lw_g := lw_g_mem 120 (by decide +kernel) (by decide +kernel)
theorem yc_X10_isMan : Cond.code yX10_isMan cX10_isMan 2 (some .boolean) ∈ lw_g := lw_i7 142 rfl rfl
theorem yi_X10_isMan : Cond.initialized (yX10_isMan).cls ∈ lw_g := lw_i1 13 rfl rfl
theorem ym_X10_isMan : Cond.instanceMethod yX10_isMan ∈ lw_g := lw_i7 141 rfl rfl
theorem yv_X10_isMan : Cond.selects (yX10_isMan).cls yX10_isMan yX10_isMan ∈ lw_g := lw_g_mem 82 (by decide +kernel) (by decide +kernel)
theorem yc_X10_isIn : Cond.code yX10_isIn cX10_isIn 2 (some .boolean) ∈ lw_g := lw_i7 176 rfl rfl
theorem yi_X10_isIn : Cond.initialized (yX10_isIn).cls ∈ lw_g := lw_i1 13 rfl rfl
theorem ym_X10_isIn : Cond.instanceMethod yX10_isIn ∈ lw_g := lw_i7 175 rfl rfl
theorem yv_X10_isIn : Cond.selects (yX10_isIn).cls yX10_isIn yX10_isIn ∈ lw_g := lw_g_mem 86 (by decide +kernel) (by decide +kernel)
theorem yc_X10_isToCome : Cond.code yX10_isToCome cX10_isToCome 2 (some .boolean) ∈ lw_g := lw_i8 26 rfl rfl
theorem yi_X10_isToCome : Cond.initialized (yX10_isToCome).cls ∈ lw_g := lw_i1 13 rfl rfl
theorem ym_X10_isToCome : Cond.instanceMethod yX10_isToCome ∈ lw_g := lw_i8 25 rfl rfl
theorem yv_X10_isToCome : Cond.selects (yX10_isToCome).cls yX10_isToCome yX10_isToCome ∈ lw_g := lw_g_mem 103 (by decide +kernel) (by decide +kernel)
theorem yc_X10_isPlace : Cond.code yX10_isPlace cX10_isPlace 1 (some .boolean) ∈ lw_g := lw_i7 153 rfl rfl
theorem yi_X10_isPlace : Cond.initialized (yX10_isPlace).cls ∈ lw_g := lw_i1 13 rfl rfl
theorem ys_X10_isPlace : Cond.static yX10_isPlace ∈ lw_g := lw_i7 152 rfl rfl
theorem yc_X10_standsAt : Cond.code yX10_standsAt cX10_standsAt 3 (some .int) ∈ lw_g := lw_i7 157 rfl rfl
theorem yi_X10_standsAt : Cond.initialized (yX10_standsAt).cls ∈ lw_g := lw_i1 13 rfl rfl
theorem ym_X10_standsAt : Cond.instanceMethod yX10_standsAt ∈ lw_g := lw_i7 156 rfl rfl
theorem yv_X10_standsAt : Cond.selects (yX10_standsAt).cls yX10_standsAt yX10_standsAt ∈ lw_g := lw_g_mem 84 (by decide +kernel) (by decide +kernel)
theorem yc_X10_placeOf : Cond.code yX10_placeOf cX10_placeOf 4 (some .int) ∈ lw_g := lw_i7 146 rfl rfl
theorem yi_X10_placeOf : Cond.initialized (yX10_placeOf).cls ∈ lw_g := lw_i1 13 rfl rfl
theorem ym_X10_placeOf : Cond.instanceMethod yX10_placeOf ∈ lw_g := lw_i7 145 rfl rfl
theorem yv_X10_placeOf : Cond.selects (yX10_placeOf).cls yX10_placeOf yX10_placeOf ∈ lw_g := lw_g_mem 83 (by decide +kernel) (by decide +kernel)
theorem yc_X10_joins : Cond.code yX10_joins cX10_joins 4 none ∈ lw_g := lw_i7 217 rfl rfl
theorem yi_X10_joins : Cond.initialized (yX10_joins).cls ∈ lw_g := lw_i1 13 rfl rfl
theorem ym_X10_joins : Cond.instanceMethod yX10_joins ∈ lw_g := lw_i7 216 rfl rfl
theorem yv_X10_joins : Cond.selects (yX10_joins).cls yX10_joins yX10_joins ∈ lw_g := lw_g_mem 93 (by decide +kernel) (by decide +kernel)
theorem yc_X10_leaves : Cond.code yX10_leaves cX10_leaves 8 none ∈ lw_g := lw_i7 239 rfl rfl
theorem yi_X10_leaves : Cond.initialized (yX10_leaves).cls ∈ lw_g := lw_i1 13 rfl rfl
theorem ym_X10_leaves : Cond.instanceMethod yX10_leaves ∈ lw_g := lw_i7 238 rfl rfl
theorem yv_X10_leaves : Cond.selects (yX10_leaves).cls yX10_leaves yX10_leaves ∈ lw_g := lw_g_mem 98 (by decide +kernel) (by decide +kernel)
theorem yc_X10_arrive : Cond.code yX10_arrive cX10_arrive 5 none ∈ lw_g := lw_i7 213 rfl rfl
theorem yi_X10_arrive : Cond.initialized (yX10_arrive).cls ∈ lw_g := lw_i1 13 rfl rfl
theorem ym_X10_arrive : Cond.instanceMethod yX10_arrive ∈ lw_g := lw_i7 212 rfl rfl
theorem yv_X10_arrive : Cond.selects (yX10_arrive).cls yX10_arrive yX10_arrive ∈ lw_g := lw_g_mem 92 (by decide +kernel) (by decide +kernel)
theorem yc_X10_needOf : Cond.code yX10_needOf cX10_needOf 3 (some .int) ∈ lw_g := lw_i7 225 rfl rfl
theorem yi_X10_needOf : Cond.initialized (yX10_needOf).cls ∈ lw_g := lw_i1 13 rfl rfl
theorem ym_X10_needOf : Cond.instanceMethod yX10_needOf ∈ lw_g := lw_i7 224 rfl rfl
theorem yv_X10_needOf : Cond.selects (yX10_needOf).cls yX10_needOf yX10_needOf ∈ lw_g := lw_g_mem 95 (by decide +kernel) (by decide +kernel)
theorem yc_X10_isGuarded : Cond.code yX10_isGuarded cX10_isGuarded 2 (some .boolean) ∈ lw_g := lw_i7 235 rfl rfl
theorem yi_X10_isGuarded : Cond.initialized (yX10_isGuarded).cls ∈ lw_g := lw_i1 13 rfl rfl
theorem ym_X10_isGuarded : Cond.instanceMethod yX10_isGuarded ∈ lw_g := lw_i7 234 rfl rfl
theorem yv_X10_isGuarded : Cond.selects (yX10_isGuarded).cls yX10_isGuarded yX10_isGuarded ∈ lw_g := lw_g_mem 97 (by decide +kernel) (by decide +kernel)
theorem yc_X10_coughing : Cond.code yX10_coughing cX10_coughing 5 none ∈ lw_g := lw_i7 221 rfl rfl
theorem yi_X10_coughing : Cond.initialized (yX10_coughing).cls ∈ lw_g := lw_i1 13 rfl rfl
theorem ym_X10_coughing : Cond.instanceMethod yX10_coughing ∈ lw_g := lw_i7 220 rfl rfl
theorem yv_X10_coughing : Cond.selects (yX10_coughing).cls yX10_coughing yX10_coughing ∈ lw_g := lw_g_mem 94 (by decide +kernel) (by decide +kernel)
theorem yc_X10_pour : Cond.code yX10_pour cX10_pour 4 none ∈ lw_g := lw_i8 3 rfl rfl
theorem yi_X10_pour : Cond.initialized (yX10_pour).cls ∈ lw_g := lw_i1 13 rfl rfl
theorem ym_X10_pour : Cond.instanceMethod yX10_pour ∈ lw_g := lw_i8 2 rfl rfl
theorem yv_X10_pour : Cond.selects (yX10_pour).cls yX10_pour yX10_pour ∈ lw_g := lw_g_mem 99 (by decide +kernel) (by decide +kernel)
theorem yc_X10_levy : Cond.code yX10_levy cX10_levy 8 none ∈ lw_g := lw_i8 8 rfl rfl
theorem yi_X10_levy : Cond.initialized (yX10_levy).cls ∈ lw_g := lw_i1 13 rfl rfl
theorem ym_X10_levy : Cond.instanceMethod yX10_levy ∈ lw_g := lw_i8 7 rfl rfl
theorem yv_X10_levy : Cond.selects (yX10_levy).cls yX10_levy yX10_levy ∈ lw_g := lw_g_mem 100 (by decide +kernel) (by decide +kernel)
theorem yc_X10_wear : Cond.code yX10_wear cX10_wear 6 none ∈ lw_g := lw_i8 12 rfl rfl
theorem yi_X10_wear : Cond.initialized (yX10_wear).cls ∈ lw_g := lw_i1 13 rfl rfl
theorem ym_X10_wear : Cond.instanceMethod yX10_wear ∈ lw_g := lw_i8 11 rfl rfl
theorem yv_X10_wear : Cond.selects (yX10_wear).cls yX10_wear yX10_wear ∈ lw_g := lw_g_mem 101 (by decide +kernel) (by decide +kernel)
theorem yc_X10_passes : Cond.code yX10_passes cX10_passes 5 none ∈ lw_g := lw_i7 209 rfl rfl
theorem yi_X10_passes : Cond.initialized (yX10_passes).cls ∈ lw_g := lw_i1 13 rfl rfl
theorem ym_X10_passes : Cond.instanceMethod yX10_passes ∈ lw_g := lw_i7 208 rfl rfl
theorem yv_X10_passes : Cond.selects (yX10_passes).cls yX10_passes yX10_passes ∈ lw_g := lw_g_mem 91 (by decide +kernel) (by decide +kernel)
theorem yc_X10_draw : Cond.code yX10_draw cX10_draw 2 (some .int) ∈ lw_g := lw_i8 16 rfl rfl
theorem yi_X10_draw : Cond.initialized (yX10_draw).cls ∈ lw_g := lw_i1 13 rfl rfl
theorem ym_X10_draw : Cond.instanceMethod yX10_draw ∈ lw_g := lw_i8 15 rfl rfl
theorem yv_X10_draw : Cond.selects (yX10_draw).cls yX10_draw yX10_draw ∈ lw_g := lw_g_mem 102 (by decide +kernel) (by decide +kernel)
theorem yc_X10_lays : Cond.code yX10_lays cX10_lays 1 none ∈ lw_g := lw_i8 74 rfl rfl
theorem yi_X10_lays : Cond.initialized (yX10_lays).cls ∈ lw_g := lw_i1 13 rfl rfl
theorem ym_X10_lays : Cond.instanceMethod yX10_lays ∈ lw_g := lw_i8 73 rfl rfl
theorem yv_X10_lays : Cond.selects (yX10_lays).cls yX10_lays yX10_lays ∈ lw_g := lw_g_mem 107 (by decide +kernel) (by decide +kernel)
theorem yc_X10_runs : Cond.code yX10_runs cX10_runs 3 none ∈ lw_g := lw_i8 78 rfl rfl
theorem yi_X10_runs : Cond.initialized (yX10_runs).cls ∈ lw_g := lw_i1 13 rfl rfl
theorem ym_X10_runs : Cond.instanceMethod yX10_runs ∈ lw_g := lw_i8 77 rfl rfl
theorem yv_X10_runs : Cond.selects (yX10_runs).cls yX10_runs yX10_runs ∈ lw_g := lw_g_mem 108 (by decide +kernel) (by decide +kernel)
theorem yc_X10_look : Cond.code yX10_look cX10_look 3 (some .int) ∈ lw_g := lw_i7 138 rfl rfl
theorem yi_X10_look : Cond.initialized (yX10_look).cls ∈ lw_g := lw_i1 13 rfl rfl
theorem ym_X10_look : Cond.instanceMethod yX10_look ∈ lw_g := lw_i7 136 rfl rfl
theorem yv_X10_look : Cond.selects (yX10_look).cls yX10_look yX10_look ∈ lw_g := lw_i7 137 rfl rfl
theorem yc_X10_stands : Cond.code yX10_stands cX10_stands 2 (some .int) ∈ lw_g := lw_i7 150 rfl rfl
theorem yi_X10_stands : Cond.initialized (yX10_stands).cls ∈ lw_g := lw_i1 13 rfl rfl
theorem ym_X10_stands : Cond.instanceMethod yX10_stands ∈ lw_g := lw_i7 148 rfl rfl
theorem yv_X10_stands : Cond.selects (yX10_stands).cls yX10_stands yX10_stands ∈ lw_g := lw_i7 149 rfl rfl
theorem yc_X10_isPower : Cond.code yX10_isPower cX10_isPower 1 (some .boolean) ∈ lw_g := lw_i7 164 rfl rfl
theorem yi_X10_isPower : Cond.initialized (yX10_isPower).cls ∈ lw_g := lw_i1 13 rfl rfl
theorem ys_X10_isPower : Cond.static yX10_isPower ∈ lw_g := lw_i7 163 rfl rfl
theorem yc_X10_holder : Cond.code yX10_holder cX10_holder 2 (some .int) ∈ lw_g := lw_i7 161 rfl rfl
theorem yi_X10_holder : Cond.initialized (yX10_holder).cls ∈ lw_g := lw_i1 13 rfl rfl
theorem ym_X10_holder : Cond.instanceMethod yX10_holder ∈ lw_g := lw_i7 159 rfl rfl
theorem yv_X10_holder : Cond.selects (yX10_holder).cls yX10_holder yX10_holder ∈ lw_g := lw_i7 160 rfl rfl
theorem yc_X10_law : Cond.code yX10_law cX10_law 3 (some .long) ∈ lw_g := lw_i7 168 rfl rfl
theorem yi_X10_law : Cond.initialized (yX10_law).cls ∈ lw_g := lw_i1 13 rfl rfl
theorem ym_X10_law : Cond.instanceMethod yX10_law ∈ lw_g := lw_i7 166 rfl rfl
theorem yv_X10_law : Cond.selects (yX10_law).cls yX10_law yX10_law ∈ lw_g := lw_i7 167 rfl rfl
theorem yc_X10_minutesLeft : Cond.code yX10_minutesLeft cX10_minutesLeft 1 (some .int) ∈ lw_g := lw_i7 205 rfl rfl
theorem yi_X10_minutesLeft : Cond.initialized (yX10_minutesLeft).cls ∈ lw_g := lw_i1 13 rfl rfl
theorem ym_X10_minutesLeft : Cond.instanceMethod yX10_minutesLeft ∈ lw_g := lw_i7 204 rfl rfl
theorem yv_X10_minutesLeft : Cond.selects (yX10_minutesLeft).cls yX10_minutesLeft yX10_minutesLeft ∈ lw_g := lw_g_mem 90 (by decide +kernel) (by decide +kernel)
theorem yc_X10_go : Cond.code yX10_go cX10_go 5 (some .int) ∈ lw_g := lw_i7 201 rfl rfl
theorem yi_X10_go : Cond.initialized (yX10_go).cls ∈ lw_g := lw_i1 13 rfl rfl
theorem ym_X10_go : Cond.instanceMethod yX10_go ∈ lw_g := lw_i7 199 rfl rfl
theorem yv_X10_go : Cond.selects (yX10_go).cls yX10_go yX10_go ∈ lw_g := lw_i7 200 rfl rfl
theorem yc_X10_keepNow : Cond.code yX10_keepNow cX10_keepNow 2 none ∈ lw_g := lw_i8 30 rfl rfl
theorem yi_X10_keepNow : Cond.initialized (yX10_keepNow).cls ∈ lw_g := lw_i1 13 rfl rfl
theorem ym_X10_keepNow : Cond.instanceMethod yX10_keepNow ∈ lw_g := lw_i8 29 rfl rfl
theorem yv_X10_keepNow : Cond.selects (yX10_keepNow).cls yX10_keepNow yX10_keepNow ∈ lw_g := lw_g_mem 104 (by decide +kernel) (by decide +kernel)
theorem yc_X10_join : Cond.code yX10_join cX10_join 2 (some .int) ∈ lw_g := lw_i8 22 rfl rfl
theorem yi_X10_join : Cond.initialized (yX10_join).cls ∈ lw_g := lw_i1 13 rfl rfl
theorem ym_X10_join : Cond.instanceMethod yX10_join ∈ lw_g := lw_i8 20 rfl rfl
theorem yv_X10_join : Cond.selects (yX10_join).cls yX10_join yX10_join ∈ lw_g := lw_i8 21 rfl rfl
theorem yc_X10_out : Cond.code yX10_out cX10_out 2 (some .boolean) ∈ lw_g := lw_i8 38 rfl rfl
theorem yi_X10_out : Cond.initialized (yX10_out).cls ∈ lw_g := lw_i1 13 rfl rfl
theorem ym_X10_out : Cond.instanceMethod yX10_out ∈ lw_g := lw_i8 36 rfl rfl
theorem yv_X10_out : Cond.selects (yX10_out).cls yX10_out yX10_out ∈ lw_g := lw_i8 37 rfl rfl
theorem yc_X10_swap : Cond.code yX10_swap cX10_swap 6 (some .boolean) ∈ lw_g := lw_i8 42 rfl rfl
theorem yi_X10_swap : Cond.initialized (yX10_swap).cls ∈ lw_g := lw_i1 13 rfl rfl
theorem ym_X10_swap : Cond.instanceMethod yX10_swap ∈ lw_g := lw_i8 40 rfl rfl
theorem yv_X10_swap : Cond.selects (yX10_swap).cls yX10_swap yX10_swap ∈ lw_g := lw_i8 41 rfl rfl
theorem yc_X10_kneel : Cond.code yX10_kneel cX10_kneel 3 (some .boolean) ∈ lw_g := lw_i8 46 rfl rfl
theorem yi_X10_kneel : Cond.initialized (yX10_kneel).cls ∈ lw_g := lw_i1 13 rfl rfl
theorem ym_X10_kneel : Cond.instanceMethod yX10_kneel ∈ lw_g := lw_i8 44 rfl rfl
theorem yv_X10_kneel : Cond.selects (yX10_kneel).cls yX10_kneel yX10_kneel ∈ lw_g := lw_i8 45 rfl rfl
theorem yc_X10_cough : Cond.code yX10_cough cX10_cough 2 (some .boolean) ∈ lw_g := lw_i8 50 rfl rfl
theorem yi_X10_cough : Cond.initialized (yX10_cough).cls ∈ lw_g := lw_i1 13 rfl rfl
theorem ym_X10_cough : Cond.instanceMethod yX10_cough ∈ lw_g := lw_i8 48 rfl rfl
theorem yv_X10_cough : Cond.selects (yX10_cough).cls yX10_cough yX10_cough ∈ lw_g := lw_i8 49 rfl rfl
theorem yc_X10_move : Cond.code yX10_move cX10_move 3 (some .boolean) ∈ lw_g := lw_i8 54 rfl rfl
theorem yi_X10_move : Cond.initialized (yX10_move).cls ∈ lw_g := lw_i1 13 rfl rfl
theorem ym_X10_move : Cond.instanceMethod yX10_move ∈ lw_g := lw_i8 52 rfl rfl
theorem yv_X10_move : Cond.selects (yX10_move).cls yX10_move yX10_move ∈ lw_g := lw_i8 53 rfl rfl
theorem yc_X10_isGone : Cond.code yX10_isGone cX10_isGone 2 (some .boolean) ∈ lw_g := lw_i8 62 rfl rfl
theorem yi_X10_isGone : Cond.initialized (yX10_isGone).cls ∈ lw_g := lw_i1 13 rfl rfl
theorem ym_X10_isGone : Cond.instanceMethod yX10_isGone ∈ lw_g := lw_i8 61 rfl rfl
theorem yv_X10_isGone : Cond.selects (yX10_isGone).cls yX10_isGone yX10_isGone ∈ lw_g := lw_g_mem 106 (by decide +kernel) (by decide +kernel)
theorem yc_X10_was : Cond.code yX10_was cX10_was 3 (some .int) ∈ lw_g := lw_i8 58 rfl rfl
theorem yi_X10_was : Cond.initialized (yX10_was).cls ∈ lw_g := lw_i1 13 rfl rfl
theorem ym_X10_was : Cond.instanceMethod yX10_was ∈ lw_g := lw_i8 56 rfl rfl
theorem yv_X10_was : Cond.selects (yX10_was).cls yX10_was yX10_was ∈ lw_g := lw_i8 57 rfl rfl
theorem yc_X10_ruled : Cond.code yX10_ruled cX10_ruled 5 (some .int) ∈ lw_g := lw_i8 66 rfl rfl
theorem yi_X10_ruled : Cond.initialized (yX10_ruled).cls ∈ lw_g := lw_i1 13 rfl rfl
theorem ym_X10_ruled : Cond.instanceMethod yX10_ruled ∈ lw_g := lw_i8 64 rfl rfl
theorem yv_X10_ruled : Cond.selects (yX10_ruled).cls yX10_ruled yX10_ruled ∈ lw_g := lw_i8 65 rfl rfl
theorem yc_X10_served : Cond.code yX10_served cX10_served 2 (some .int) ∈ lw_g := lw_i8 70 rfl rfl
theorem yi_X10_served : Cond.initialized (yX10_served).cls ∈ lw_g := lw_i1 13 rfl rfl
theorem ym_X10_served : Cond.instanceMethod yX10_served ∈ lw_g := lw_i8 68 rfl rfl
theorem yv_X10_served : Cond.selects (yX10_served).cls yX10_served yX10_served ∈ lw_g := lw_i8 69 rfl rfl
theorem yc_X10_coming : Cond.code yX10_coming cX10_coming 5 (some .int) ∈ lw_g := lw_i8 82 rfl rfl
theorem yi_X10_coming : Cond.initialized (yX10_coming).cls ∈ lw_g := lw_i1 13 rfl rfl
theorem ym_X10_coming : Cond.instanceMethod yX10_coming ∈ lw_g := lw_i8 80 rfl rfl
theorem yv_X10_coming : Cond.selects (yX10_coming).cls yX10_coming yX10_coming ∈ lw_g := lw_i8 81 rfl rfl
theorem yc_X10_bitsOf : Cond.code yX10_bitsOf cX10_bitsOf 3 (some .int) ∈ lw_g := lw_i8 89 rfl rfl
theorem yi_X10_bitsOf : Cond.initialized (yX10_bitsOf).cls ∈ lw_g := lw_i1 13 rfl rfl
theorem ys_X10_bitsOf : Cond.static yX10_bitsOf ∈ lw_g := lw_i8 88 rfl rfl
theorem yc_X10_decree : Cond.code yX10_decree cX10_decree 11 (some .int) ∈ lw_g := lw_i8 86 rfl rfl
theorem yi_X10_decree : Cond.initialized (yX10_decree).cls ∈ lw_g := lw_i1 13 rfl rfl
theorem ym_X10_decree : Cond.instanceMethod yX10_decree ∈ lw_g := lw_i8 84 rfl rfl
theorem yv_X10_decree : Cond.selects (yX10_decree).cls yX10_decree yX10_decree ∈ lw_g := lw_i8 85 rfl rfl
theorem yc_X10_coup : Cond.code yX10_coup cX10_coup 4 (some .int) ∈ lw_g := lw_i8 93 rfl rfl
theorem yi_X10_coup : Cond.initialized (yX10_coup).cls ∈ lw_g := lw_i1 13 rfl rfl
theorem ym_X10_coup : Cond.instanceMethod yX10_coup ∈ lw_g := lw_i8 91 rfl rfl
theorem yv_X10_coup : Cond.selects (yX10_coup).cls yX10_coup yX10_coup ∈ lw_g := lw_i8 92 rfl rfl
theorem yc_X10_endOf : Cond.code yX10_endOf cX10_endOf 5 (some .int) ∈ lw_g := lw_i8 113 rfl rfl
theorem yi_X10_endOf : Cond.initialized (yX10_endOf).cls ∈ lw_g := lw_i1 13 rfl rfl
theorem ym_X10_endOf : Cond.instanceMethod yX10_endOf ∈ lw_g := lw_i8 112 rfl rfl
theorem yv_X10_endOf : Cond.selects (yX10_endOf).cls yX10_endOf yX10_endOf ∈ lw_g := lw_g_mem 112 (by decide +kernel) (by decide +kernel)
theorem yc_X10_layGame : Cond.code yX10_layGame cX10_layGame 6 none ∈ lw_g := lw_i8 109 rfl rfl
theorem yi_X10_layGame : Cond.initialized (yX10_layGame).cls ∈ lw_g := lw_i1 13 rfl rfl
theorem ym_X10_layGame : Cond.instanceMethod yX10_layGame ∈ lw_g := lw_i8 108 rfl rfl
theorem yv_X10_layGame : Cond.selects (yX10_layGame).cls yX10_layGame yX10_layGame ∈ lw_g := lw_g_mem 111 (by decide +kernel) (by decide +kernel)
theorem yc_X10_isRest : Cond.code yX10_isRest cX10_isRest 4 (some .boolean) ∈ lw_g := lw_i8 121 rfl rfl
theorem yi_X10_isRest : Cond.initialized (yX10_isRest).cls ∈ lw_g := lw_i1 13 rfl rfl
theorem ym_X10_isRest : Cond.instanceMethod yX10_isRest ∈ lw_g := lw_i8 120 rfl rfl
theorem yv_X10_isRest : Cond.selects (yX10_isRest).cls yX10_isRest yX10_isRest ∈ lw_g := lw_g_mem 114 (by decide +kernel) (by decide +kernel)
theorem yc_X10_restOf : Cond.code yX10_restOf cX10_restOf 5 (some .int) ∈ lw_g := lw_i8 117 rfl rfl
theorem yi_X10_restOf : Cond.initialized (yX10_restOf).cls ∈ lw_g := lw_i1 13 rfl rfl
theorem ym_X10_restOf : Cond.instanceMethod yX10_restOf ∈ lw_g := lw_i8 116 rfl rfl
theorem yv_X10_restOf : Cond.selects (yX10_restOf).cls yX10_restOf yX10_restOf ∈ lw_g := lw_g_mem 113 (by decide +kernel) (by decide +kernel)
theorem yc_X10_isLong : Cond.code yX10_isLong cX10_isLong 2 (some .boolean) ∈ lw_g := lw_i8 105 rfl rfl
theorem yi_X10_isLong : Cond.initialized (yX10_isLong).cls ∈ lw_g := lw_i1 13 rfl rfl
theorem ym_X10_isLong : Cond.instanceMethod yX10_isLong ∈ lw_g := lw_i8 104 rfl rfl
theorem yv_X10_isLong : Cond.selects (yX10_isLong).cls yX10_isLong yX10_isLong ∈ lw_g := lw_g_mem 110 (by decide +kernel) (by decide +kernel)
theorem yc_X10_isGame : Cond.code yX10_isGame cX10_isGame 4 (some .boolean) ∈ lw_g := lw_i8 101 rfl rfl
theorem yi_X10_isGame : Cond.initialized (yX10_isGame).cls ∈ lw_g := lw_i1 13 rfl rfl
theorem ym_X10_isGame : Cond.instanceMethod yX10_isGame ∈ lw_g := lw_i8 100 rfl rfl
theorem yv_X10_isGame : Cond.selects (yX10_isGame).cls yX10_isGame yX10_isGame ∈ lw_g := lw_g_mem 109 (by decide +kernel) (by decide +kernel)
theorem yc_X10_rests : Cond.code yX10_rests cX10_rests 4 (some .int) ∈ lw_g := lw_i8 97 rfl rfl
theorem yi_X10_rests : Cond.initialized (yX10_rests).cls ∈ lw_g := lw_i1 13 rfl rfl
theorem ym_X10_rests : Cond.instanceMethod yX10_rests ∈ lw_g := lw_i8 95 rfl rfl
theorem yv_X10_rests : Cond.selects (yX10_rests).cls yX10_rests yX10_rests ∈ lw_g := lw_i8 96 rfl rfl
theorem yc_X10_rest : Cond.code yX10_rest cX10_rest 5 (some .int) ∈ lw_g := lw_i8 125 rfl rfl
theorem yi_X10_rest : Cond.initialized (yX10_rest).cls ∈ lw_g := lw_i1 13 rfl rfl
theorem ym_X10_rest : Cond.instanceMethod yX10_rest ∈ lw_g := lw_i8 123 rfl rfl
theorem yv_X10_rest : Cond.selects (yX10_rest).cls yX10_rest yX10_rest ∈ lw_g := lw_i8 124 rfl rfl
theorem yc_X10_best : Cond.code yX10_best cX10_best 10 (some .int) ∈ lw_g := lw_i8 129 rfl rfl
theorem yi_X10_best : Cond.initialized (yX10_best).cls ∈ lw_g := lw_i1 13 rfl rfl
theorem ym_X10_best : Cond.instanceMethod yX10_best ∈ lw_g := lw_i8 127 rfl rfl
theorem yv_X10_best : Cond.selects (yX10_best).cls yX10_best yX10_best ∈ lw_g := lw_i8 128 rfl rfl
theorem yc_X10_fairest : Cond.code yX10_fairest cX10_fairest 9 (some .int) ∈ lw_g := lw_i8 133 rfl rfl
theorem yi_X10_fairest : Cond.initialized (yX10_fairest).cls ∈ lw_g := lw_i1 13 rfl rfl
theorem ym_X10_fairest : Cond.instanceMethod yX10_fairest ∈ lw_g := lw_i8 131 rfl rfl
theorem yv_X10_fairest : Cond.selects (yX10_fairest).cls yX10_fairest yX10_fairest ∈ lw_g := lw_i8 132 rfl rfl
theorem yc_X10_gain : Cond.code yX10_gain cX10_gain 6 (some .int) ∈ lw_g := lw_i8 137 rfl rfl
theorem yi_X10_gain : Cond.initialized (yX10_gain).cls ∈ lw_g := lw_i1 13 rfl rfl
theorem ym_X10_gain : Cond.instanceMethod yX10_gain ∈ lw_g := lw_i8 135 rfl rfl
theorem yv_X10_gain : Cond.selects (yX10_gain).cls yX10_gain yX10_gain ∈ lw_g := lw_i8 136 rfl rfl
theorem yc_X10_stone : Cond.code yX10_stone cX10_stone 4 (some .int) ∈ lw_g := lw_i8 141 rfl rfl
theorem yi_X10_stone : Cond.initialized (yX10_stone).cls ∈ lw_g := lw_i1 13 rfl rfl
theorem ym_X10_stone : Cond.instanceMethod yX10_stone ∈ lw_g := lw_i8 139 rfl rfl
theorem yv_X10_stone : Cond.selects (yX10_stone).cls yX10_stone yX10_stone ∈ lw_g := lw_i8 140 rfl rfl
theorem yc_X10_strike : Cond.code yX10_strike cX10_strike 2 (some .int) ∈ lw_g := lw_i8 145 rfl rfl
theorem yi_X10_strike : Cond.initialized (yX10_strike).cls ∈ lw_g := lw_i1 13 rfl rfl
theorem ym_X10_strike : Cond.instanceMethod yX10_strike ∈ lw_g := lw_i8 143 rfl rfl
theorem yv_X10_strike : Cond.selects (yX10_strike).cls yX10_strike yX10_strike ∈ lw_g := lw_i8 144 rfl rfl
theorem yc_X10_known : Cond.code yX10_known cX10_known 2 (some .boolean) ∈ lw_g := lw_i8 149 rfl rfl
theorem yi_X10_known : Cond.initialized (yX10_known).cls ∈ lw_g := lw_i1 13 rfl rfl
theorem ym_X10_known : Cond.instanceMethod yX10_known ∈ lw_g := lw_i8 147 rfl rfl
theorem yv_X10_known : Cond.selects (yX10_known).cls yX10_known yX10_known ∈ lw_g := lw_i8 148 rfl rfl
theorem yc_X10_knownMany : Cond.code yX10_knownMany cX10_knownMany 1 (some .int) ∈ lw_g := lw_i8 161 rfl rfl
theorem yi_X10_knownMany : Cond.initialized (yX10_knownMany).cls ∈ lw_g := lw_i1 13 rfl rfl
theorem ym_X10_knownMany : Cond.instanceMethod yX10_knownMany ∈ lw_g := lw_i8 160 rfl rfl
theorem yv_X10_knownMany : Cond.selects (yX10_knownMany).cls yX10_knownMany yX10_knownMany ∈ lw_g := lw_g_mem 116 (by decide +kernel) (by decide +kernel)
theorem yc_X10_isWay : Cond.code yX10_isWay cX10_isWay 7 (some .boolean) ∈ lw_g := lw_i8 165 rfl rfl
theorem yi_X10_isWay : Cond.initialized (yX10_isWay).cls ∈ lw_g := lw_i1 13 rfl rfl
theorem ym_X10_isWay : Cond.instanceMethod yX10_isWay ∈ lw_g := lw_i8 164 rfl rfl
theorem yv_X10_isWay : Cond.selects (yX10_isWay).cls yX10_isWay yX10_isWay ∈ lw_g := lw_g_mem 117 (by decide +kernel) (by decide +kernel)
theorem yc_X10_layCame : Cond.code yX10_layCame cX10_layCame 5 (some .int) ∈ lw_g := lw_i8 157 rfl rfl
theorem yi_X10_layCame : Cond.initialized (yX10_layCame).cls ∈ lw_g := lw_i1 13 rfl rfl
theorem ym_X10_layCame : Cond.instanceMethod yX10_layCame ∈ lw_g := lw_i8 156 rfl rfl
theorem yv_X10_layCame : Cond.selects (yX10_layCame).cls yX10_layCame yX10_layCame ∈ lw_g := lw_g_mem 115 (by decide +kernel) (by decide +kernel)
theorem yc_X10_came : Cond.code yX10_came cX10_came 1 (some .int) ∈ lw_g := lw_i8 153 rfl rfl
theorem yi_X10_came : Cond.initialized (yX10_came).cls ∈ lw_g := lw_i1 13 rfl rfl
theorem ym_X10_came : Cond.instanceMethod yX10_came ∈ lw_g := lw_i8 151 rfl rfl
theorem yv_X10_came : Cond.selects (yX10_came).cls yX10_came yX10_came ∈ lw_g := lw_i8 152 rfl rfl
theorem yc_X10_one : Cond.code yX10_one cX10_one 3 (some .int) ∈ lw_g := lw_i8 170 rfl rfl
theorem yi_X10_one : Cond.initialized (yX10_one).cls ∈ lw_g := lw_i1 13 rfl rfl
theorem ym_X10_one : Cond.instanceMethod yX10_one ∈ lw_g := lw_i8 168 rfl rfl
theorem yv_X10_one : Cond.selects (yX10_one).cls yX10_one yX10_one ∈ lw_g := lw_i8 169 rfl rfl
theorem yc_X10_empty : Cond.code yX10_empty cX10_empty 6 (some .int) ∈ lw_g := lw_i8 174 rfl rfl
theorem yi_X10_empty : Cond.initialized (yX10_empty).cls ∈ lw_g := lw_i1 13 rfl rfl
theorem ym_X10_empty : Cond.instanceMethod yX10_empty ∈ lw_g := lw_i8 172 rfl rfl
theorem yv_X10_empty : Cond.selects (yX10_empty).cls yX10_empty yX10_empty ∈ lw_g := lw_i8 173 rfl rfl
theorem yc_X10_chance : Cond.code yX10_chance cX10_chance 8 (some .int) ∈ lw_g := lw_i8 178 rfl rfl
theorem yi_X10_chance : Cond.initialized (yX10_chance).cls ∈ lw_g := lw_i1 13 rfl rfl
theorem ym_X10_chance : Cond.instanceMethod yX10_chance ∈ lw_g := lw_i8 176 rfl rfl
theorem yv_X10_chance : Cond.selects (yX10_chance).cls yX10_chance yX10_chance ∈ lw_g := lw_i8 177 rfl rfl
theorem yc_X10_tried : Cond.code yX10_tried cX10_tried 6 (some .int) ∈ lw_g := lw_i8 182 rfl rfl
theorem yi_X10_tried : Cond.initialized (yX10_tried).cls ∈ lw_g := lw_i1 13 rfl rfl
theorem ym_X10_tried : Cond.instanceMethod yX10_tried ∈ lw_g := lw_i8 180 rfl rfl
theorem yv_X10_tried : Cond.selects (yX10_tried).cls yX10_tried yX10_tried ∈ lw_g := lw_i8 181 rfl rfl
theorem yc_X10_howMany : Cond.code yX10_howMany cX10_howMany 5 (some .int) ∈ lw_g := lw_i8 190 rfl rfl
theorem yi_X10_howMany : Cond.initialized (yX10_howMany).cls ∈ lw_g := lw_i1 13 rfl rfl
theorem ym_X10_howMany : Cond.instanceMethod yX10_howMany ∈ lw_g := lw_i8 189 rfl rfl
theorem yv_X10_howMany : Cond.selects (yX10_howMany).cls yX10_howMany yX10_howMany ∈ lw_g := lw_g_mem 119 (by decide +kernel) (by decide +kernel)
theorem yc_X10_servedMany : Cond.code yX10_servedMany cX10_servedMany 2 (some .int) ∈ lw_g := lw_i8 186 rfl rfl
theorem yi_X10_servedMany : Cond.initialized (yX10_servedMany).cls ∈ lw_g := lw_i1 13 rfl rfl
theorem ym_X10_servedMany : Cond.instanceMethod yX10_servedMany ∈ lw_g := lw_i8 185 rfl rfl
theorem yv_X10_servedMany : Cond.selects (yX10_servedMany).cls yX10_servedMany yX10_servedMany ∈ lw_g := lw_g_mem 118 (by decide +kernel) (by decide +kernel)
theorem yc_X10_undo : Cond.code yX10_undo cX10_undo 1 (some .int) ∈ lw_g := lw_i8 194 rfl rfl
theorem yi_X10_undo : Cond.initialized (yX10_undo).cls ∈ lw_g := lw_i1 13 rfl rfl
theorem ym_X10_undo : Cond.instanceMethod yX10_undo ∈ lw_g := lw_i8 192 rfl rfl
theorem yv_X10_undo : Cond.selects (yX10_undo).cls yX10_undo yX10_undo ∈ lw_g := lw_i8 193 rfl rfl
theorem yc_X10_keep : Cond.code yX10_keep cX10_keep 1 (some .int) ∈ lw_g := lw_i8 198 rfl rfl
theorem yi_X10_keep : Cond.initialized (yX10_keep).cls ∈ lw_g := lw_i1 13 rfl rfl
theorem ym_X10_keep : Cond.instanceMethod yX10_keep ∈ lw_g := lw_i8 196 rfl rfl
theorem yv_X10_keep : Cond.selects (yX10_keep).cls yX10_keep yX10_keep ∈ lw_g := lw_i8 197 rfl rfl
theorem yc_X10_back : Cond.code yX10_back cX10_back 1 (some .int) ∈ lw_g := lw_i8 206 rfl rfl
theorem yi_X10_back : Cond.initialized (yX10_back).cls ∈ lw_g := lw_i1 13 rfl rfl
theorem ym_X10_back : Cond.instanceMethod yX10_back ∈ lw_g := lw_i8 204 rfl rfl
theorem yv_X10_back : Cond.selects (yX10_back).cls yX10_back yX10_back ∈ lw_g := lw_i8 205 rfl rfl
theorem yc_X10_count : Cond.code yX10_count cX10_count 4 (some .int) ∈ lw_g := lw_i8 210 rfl rfl
theorem yi_X10_count : Cond.initialized (yX10_count).cls ∈ lw_g := lw_i1 13 rfl rfl
theorem ym_X10_count : Cond.instanceMethod yX10_count ∈ lw_g := lw_i8 208 rfl rfl
theorem yv_X10_count : Cond.selects (yX10_count).cls yX10_count yX10_count ∈ lw_g := lw_i8 209 rfl rfl
theorem yc_J6_bitCount_0f7a4 : Cond.code yJ6_bitCount_0f7a4 cJ6_bitCount_0f7a4 1 (some .int) ∈ lw_g := lw_i4 183 rfl rfl
theorem yi_J6_bitCount_0f7a4 : Cond.initialized (yJ6_bitCount_0f7a4).cls ∈ lw_g := lw_i1 24 rfl rfl
theorem ys_J6_bitCount_0f7a4 : Cond.static yJ6_bitCount_0f7a4 ∈ lw_g := lw_i4 182 rfl rfl
theorem yc_J9_abs_067f4 : Cond.code yJ9_abs_067f4 cJ9_abs_067f4 2 (some .long) ∈ lw_g := lw_i7 195 rfl rfl
theorem yi_J9_abs_067f4 : Cond.initialized (yJ9_abs_067f4).cls ∈ lw_g := lw_i1 14 rfl rfl
theorem ys_J9_abs_067f4 : Cond.static yJ9_abs_067f4 ∈ lw_g := lw_i7 194 rfl rfl
theorem yc_J9_max_7cf53 : Cond.code yJ9_max_7cf53 cJ9_max_7cf53 2 (some .int) ∈ lw_g := lw_i5 75 rfl rfl
theorem yi_J9_max_7cf53 : Cond.initialized (yJ9_max_7cf53).cls ∈ lw_g := lw_i1 14 rfl rfl
theorem ys_J9_max_7cf53 : Cond.static yJ9_max_7cf53 ∈ lw_g := lw_i5 74 rfl rfl
theorem yc_J9_max_f86c9 : Cond.code yJ9_max_f86c9 cJ9_max_f86c9 4 (some .long) ∈ lw_g := lw_i4 43 rfl rfl
theorem yi_J9_max_f86c9 : Cond.initialized (yJ9_max_f86c9).cls ∈ lw_g := lw_i1 14 rfl rfl
theorem ys_J9_max_f86c9 : Cond.static yJ9_max_f86c9 ∈ lw_g := lw_i4 42 rfl rfl
theorem yc_J9_min_7cf53 : Cond.code yJ9_min_7cf53 cJ9_min_7cf53 2 (some .int) ∈ lw_g := lw_i3 17 rfl rfl
theorem yi_J9_min_7cf53 : Cond.initialized (yJ9_min_7cf53).cls ∈ lw_g := lw_i1 14 rfl rfl
theorem ys_J9_min_7cf53 : Cond.static yJ9_min_7cf53 ∈ lw_g := lw_i3 16 rfl rfl
theorem yc_J9_min_f86c9 : Cond.code yJ9_min_f86c9 cJ9_min_f86c9 4 (some .long) ∈ lw_g := lw_i4 40 rfl rfl
theorem yi_J9_min_f86c9 : Cond.initialized (yJ9_min_f86c9).cls ∈ lw_g := lw_i1 14 rfl rfl
theorem ys_J9_min_f86c9 : Cond.static yJ9_min_f86c9 ∈ lw_g := lw_i4 39 rfl rfl
theorem yc_J0_length_8abf5 : Cond.code yJ0_length_8abf5 cJ0_length_8abf5 1 (some .int) ∈ lw_g := lw_i7 19 rfl rfl
theorem yi_J0_length_8abf5 : Cond.initialized (yJ0_length_8abf5).cls ∈ lw_g := lw_i1 15 rfl rfl
theorem ym_J0_length_8abf5 : Cond.instanceMethod yJ0_length_8abf5 ∈ lw_g := lw_i7 17 rfl rfl
theorem yv_J0_length_8abf5 : Cond.selects (yJ0_length_8abf5).cls yJ0_length_8abf5 yJ0_length_8abf5 ∈ lw_g := lw_i7 18 rfl rfl
theorem yc_J0_charAt_5068e : Cond.code yJ0_charAt_5068e cJ0_charAt_5068e 2 (some .char) ∈ lw_g := lw_i3 41 rfl rfl
theorem yi_J0_charAt_5068e : Cond.initialized (yJ0_charAt_5068e).cls ∈ lw_g := lw_i1 15 rfl rfl
theorem ym_J0_charAt_5068e : Cond.instanceMethod yJ0_charAt_5068e ∈ lw_g := lw_i3 39 rfl rfl
theorem yv_J0_charAt_5068e : Cond.selects (yJ0_charAt_5068e).cls yJ0_charAt_5068e yJ0_charAt_5068e ∈ lw_g := lw_i3 40 rfl rfl
theorem yc_J0_coder_7d493 : Cond.code yJ0_coder_7d493 cJ0_coder_7d493 1 (some .byte) ∈ lw_g := lw_i7 23 rfl rfl
theorem yi_J0_coder_7d493 : Cond.initialized (yJ0_coder_7d493).cls ∈ lw_g := lw_i1 15 rfl rfl
theorem ym_J0_coder_7d493 : Cond.instanceMethod yJ0_coder_7d493 ∈ lw_g := lw_i7 21 rfl rfl
theorem yv_J0_coder_7d493 : Cond.selects (yJ0_coder_7d493).cls yJ0_coder_7d493 yJ0_coder_7d493 ∈ lw_g := lw_i7 22 rfl rfl
theorem yc_J0_isLatin1_aae02 : Cond.code yJ0_isLatin1_aae02 cJ0_isLatin1_aae02 1 (some .boolean) ∈ lw_g := lw_i3 45 rfl rfl
theorem yi_J0_isLatin1_aae02 : Cond.initialized (yJ0_isLatin1_aae02).cls ∈ lw_g := lw_i1 15 rfl rfl
theorem ym_J0_isLatin1_aae02 : Cond.instanceMethod yJ0_isLatin1_aae02 ∈ lw_g := lw_i3 43 rfl rfl
theorem yv_J0_isLatin1_aae02 : Cond.selects (yJ0_isLatin1_aae02).cls yJ0_isLatin1_aae02 yJ0_isLatin1_aae02 ∈ lw_g := lw_i3 44 rfl rfl
theorem yc_J0_checkIndex_df160 : Cond.code yJ0_checkIndex_df160 cJ0_checkIndex_df160 2 none ∈ lw_g := lw_i3 53 rfl rfl
theorem yi_J0_checkIndex_df160 : Cond.initialized (yJ0_checkIndex_df160).cls ∈ lw_g := lw_i1 15 rfl rfl
theorem ys_J0_checkIndex_df160 : Cond.static yJ0_checkIndex_df160 ∈ lw_g := lw_i3 52 rfl rfl
theorem yc_J1_charAt_3b067 : Cond.code yJ1_charAt_3b067 cJ1_charAt_3b067 2 (some .char) ∈ lw_g := lw_i3 50 rfl rfl
theorem yi_J1_charAt_3b067 : Cond.initialized (yJ1_charAt_3b067).cls ∈ lw_g := lw_i1 16 rfl rfl
theorem ys_J1_charAt_3b067 : Cond.static yJ1_charAt_3b067 ∈ lw_g := lw_i3 49 rfl rfl
theorem yc_J7_fill_53178 : Cond.code yJ7_fill_53178 cJ7_fill_53178 4 none ∈ lw_g := lw_i2 202 rfl rfl
theorem yi_J7_fill_53178 : Cond.initialized (yJ7_fill_53178).cls ∈ lw_g := lw_i1 12 rfl rfl
theorem ys_J7_fill_53178 : Cond.static yJ7_fill_53178 ∈ lw_g := lw_i2 201 rfl rfl
theorem yc_J3_checkIndex_8e157 : Cond.code yJ3_checkIndex_8e157 cJ3_checkIndex_8e157 3 (some .int) ∈ lw_g := lw_i3 58 rfl rfl
theorem yi_J3_checkIndex_8e157 : Cond.initialized (yJ3_checkIndex_8e157).cls ∈ lw_g := lw_i1 17 rfl rfl
theorem ys_J3_checkIndex_8e157 : Cond.static yJ3_checkIndex_8e157 ∈ lw_g := lw_i3 57 rfl rfl
end
section
theorem yd_X0_init : ti_Vd yX0_init 0 := by unfold ti_Vd; decide +kernel
theorem yp_X0_init : plainName (yX0_init).cls = true := by decide +kernel
theorem yd_X0_prepare : ti_Vd yX0_prepare 1 := by unfold ti_Vd; decide +kernel
theorem yp_X0_prepare : plainName (yX0_prepare).cls = true := by decide +kernel
theorem yd_X0_servedIn : ti_Vd yX0_servedIn 2 := by unfold ti_Vd; decide +kernel
theorem yp_X0_servedIn : plainName (yX0_servedIn).cls = true := by decide +kernel
theorem yd_X0_firstToCome : ti_Vd yX0_firstToCome 4 := by unfold ti_Vd; decide +kernel
theorem yp_X0_firstToCome : plainName (yX0_firstToCome).cls = true := by decide +kernel
theorem yd_X0_bribes : ti_Vd yX0_bribes 4 := by unfold ti_Vd; decide +kernel
theorem yp_X0_bribes : plainName (yX0_bribes).cls = true := by decide +kernel
theorem yd_X0_price : ti_Vd yX0_price 2 := by unfold ti_Vd; decide +kernel
theorem yp_X0_price : plainName (yX0_price).cls = true := by decide +kernel
theorem yd_X0_plotters : ti_Vd yX0_plotters 1 := by unfold ti_Vd; decide +kernel
theorem yp_X0_plotters : plainName (yX0_plotters).cls = true := by decide +kernel
theorem yd_X0_play : ti_Vd yX0_play 4 := by unfold ti_Vd; decide +kernel
theorem yp_X0_play : plainName (yX0_play).cls = true := by decide +kernel
theorem yd_X0_worth : ti_Vd yX0_worth 1 := by unfold ti_Vd; decide +kernel
theorem yp_X0_worth : plainName (yX0_worth).cls = true := by decide +kernel
theorem yd_X0_isRest : ti_Vd yX0_isRest 3 := by unfold ti_Vd; decide +kernel
theorem yp_X0_isRest : plainName (yX0_isRest).cls = true := by decide +kernel
theorem yd_X0_bestPlace : ti_Vd yX0_bestPlace 5 := by unfold ti_Vd; decide +kernel
theorem yp_X0_bestPlace : plainName (yX0_bestPlace).cls = true := by decide +kernel
theorem yd_X0_minutesHeld : ti_Vd yX0_minutesHeld 5 := by unfold ti_Vd; decide +kernel
theorem yp_X0_minutesHeld : plainName (yX0_minutesHeld).cls = true := by decide +kernel
theorem yd_X0_fairestPlace : ti_Vd yX0_fairestPlace 4 := by unfold ti_Vd; decide +kernel
theorem yp_X0_fairestPlace : plainName (yX0_fairestPlace).cls = true := by decide +kernel
theorem yd_X0_holders : ti_Vd yX0_holders 4 := by unfold ti_Vd; decide +kernel
theorem yp_X0_holders : plainName (yX0_holders).cls = true := by decide +kernel
theorem yd_X0_gainers : ti_Vd yX0_gainers 3 := by unfold ti_Vd; decide +kernel
theorem yp_X0_gainers : plainName (yX0_gainers).cls = true := by decide +kernel
theorem yd_X0_emptyMinutes : ti_Vd yX0_emptyMinutes 3 := by unfold ti_Vd; decide +kernel
theorem yp_X0_emptyMinutes : plainName (yX0_emptyMinutes).cls = true := by decide +kernel
theorem yd_X0_timesServed : ti_Vd yX0_timesServed 4 := by unfold ti_Vd; decide +kernel
theorem yp_X0_timesServed : plainName (yX0_timesServed).cls = true := by decide +kernel
theorem yd_X0_servedOtherwise : ti_Vd yX0_servedOtherwise 4 := by unfold ti_Vd; decide +kernel
theorem yp_X0_servedOtherwise : plainName (yX0_servedOtherwise).cls = true := by decide +kernel
theorem yd_X1_init : ti_Vd yX1_init 0 := by unfold ti_Vd; decide +kernel
theorem yp_X1_init : plainName (yX1_init).cls = true := by decide +kernel
theorem yd_X1_add : ti_Vd yX1_add 1 := by unfold ti_Vd; decide +kernel
theorem yp_X1_add : plainName (yX1_add).cls = true := by decide +kernel
theorem yd_X1_value : ti_Vd yX1_value 3 := by unfold ti_Vd; decide +kernel
theorem yp_X1_value : plainName (yX1_value).cls = true := by decide +kernel
theorem yd_X1_work : ti_Vd yX1_work 3 := by unfold ti_Vd; decide +kernel
theorem yp_X1_work : plainName (yX1_work).cls = true := by decide +kernel
theorem yd_X2_init : ti_Vd yX2_init 0 := by unfold ti_Vd; decide +kernel
theorem yp_X2_init : plainName (yX2_init).cls = true := by decide +kernel
theorem yd_X3_init : ti_Vd yX3_init 0 := by unfold ti_Vd; decide +kernel
theorem yp_X3_init : plainName (yX3_init).cls = true := by decide +kernel
theorem yd_X3_start : ti_Vd yX3_start 1 := by unfold ti_Vd; decide +kernel
theorem yp_X3_start : plainName (yX3_start).cls = true := by decide +kernel
theorem yd_X3_copy : ti_Vd yX3_copy 1 := by unfold ti_Vd; decide +kernel
theorem yp_X3_copy : plainName (yX3_copy).cls = true := by decide +kernel
theorem yd_X3_manAt : ti_Vd yX3_manAt 1 := by unfold ti_Vd; decide +kernel
theorem yp_X3_manAt : plainName (yX3_manAt).cls = true := by decide +kernel
theorem yd_X3_placeOf : ti_Vd yX3_placeOf 1 := by unfold ti_Vd; decide +kernel
theorem yp_X3_placeOf : plainName (yX3_placeOf).cls = true := by decide +kernel
theorem yd_X3_waited : ti_Vd yX3_waited 1 := by unfold ti_Vd; decide +kernel
theorem yp_X3_waited : plainName (yX3_waited).cls = true := by decide +kernel
theorem yd_X3_howMany : ti_Vd yX3_howMany 1 := by unfold ti_Vd; decide +kernel
theorem yp_X3_howMany : plainName (yX3_howMany).cls = true := by decide +kernel
theorem yd_X3_allCoin : ti_Vd yX3_allCoin 0 := by unfold ti_Vd; decide +kernel
theorem yp_X3_allCoin : plainName (yX3_allCoin).cls = true := by decide +kernel
theorem yd_X3_allCoughs : ti_Vd yX3_allCoughs 0 := by unfold ti_Vd; decide +kernel
theorem yp_X3_allCoughs : plainName (yX3_allCoughs).cls = true := by decide +kernel
theorem yd_X3_append : ti_Vd yX3_append 1 := by unfold ti_Vd; decide +kernel
theorem yp_X3_append : plainName (yX3_append).cls = true := by decide +kernel
theorem yd_X3_remove : ti_Vd yX3_remove 2 := by unfold ti_Vd; decide +kernel
theorem yp_X3_remove : plainName (yX3_remove).cls = true := by decide +kernel
theorem yd_X3_exchange : ti_Vd yX3_exchange 2 := by unfold ti_Vd; decide +kernel
theorem yp_X3_exchange : plainName (yX3_exchange).cls = true := by decide +kernel
theorem yd_X3_put : ti_Vd yX3_put 4 := by unfold ti_Vd; decide +kernel
theorem yp_X3_put : plainName (yX3_put).cls = true := by decide +kernel
theorem yd_X3_need : ti_Vd yX3_need 0 := by unfold ti_Vd; decide +kernel
theorem yp_X3_need : plainName (yX3_need).cls = true := by decide +kernel
theorem yd_X3_isGuarded : ti_Vd yX3_isGuarded 0 := by unfold ti_Vd; decide +kernel
theorem yp_X3_isGuarded : plainName (yX3_isGuarded).cls = true := by decide +kernel
theorem yd_X3_lastHeard : ti_Vd yX3_lastHeard 0 := by unfold ti_Vd; decide +kernel
theorem yp_X3_lastHeard : plainName (yX3_lastHeard).cls = true := by decide +kernel
theorem yd_X3_is : ti_Vd yX3_is 1 := by unfold ti_Vd; decide +kernel
theorem yp_X3_is : plainName (yX3_is).cls = true := by decide +kernel
theorem yd_X3_passTo : ti_Vd yX3_passTo 1 := by unfold ti_Vd; decide +kernel
theorem yp_X3_passTo : plainName (yX3_passTo).cls = true := by decide +kernel
theorem yd_X3_pass : ti_Vd yX3_pass 0 := by unfold ti_Vd; decide +kernel
theorem yp_X3_pass : plainName (yX3_pass).cls = true := by decide +kernel
theorem yd_X3_welcome : ti_Vd yX3_welcome 0 := by unfold ti_Vd; decide +kernel
theorem yp_X3_welcome : plainName (yX3_welcome).cls = true := by decide +kernel
theorem yd_X3_nextToJoin : ti_Vd yX3_nextToJoin 0 := by unfold ti_Vd; decide +kernel
theorem yp_X3_nextToJoin : plainName (yX3_nextToJoin).cls = true := by decide +kernel
theorem yd_X3_joinsAhead : ti_Vd yX3_joinsAhead 2 := by unfold ti_Vd; decide +kernel
theorem yp_X3_joinsAhead : plainName (yX3_joinsAhead).cls = true := by decide +kernel
theorem yd_X3_hearCoughs : ti_Vd yX3_hearCoughs 0 := by unfold ti_Vd; decide +kernel
theorem yp_X3_hearCoughs : plainName (yX3_hearCoughs).cls = true := by decide +kernel
theorem yd_X3_pour : ti_Vd yX3_pour 0 := by unfold ti_Vd; decide +kernel
theorem yp_X3_pour : plainName (yX3_pour).cls = true := by decide +kernel
theorem yd_X3_levy : ti_Vd yX3_levy 0 := by unfold ti_Vd; decide +kernel
theorem yp_X3_levy : plainName (yX3_levy).cls = true := by decide +kernel
theorem yd_X3_wear : ti_Vd yX3_wear 0 := by unfold ti_Vd; decide +kernel
theorem yp_X3_wear : plainName (yX3_wear).cls = true := by decide +kernel
theorem yd_X3_release : ti_Vd yX3_release 0 := by unfold ti_Vd; decide +kernel
theorem yp_X3_release : plainName (yX3_release).cls = true := by decide +kernel
theorem yd_X3_mutter : ti_Vd yX3_mutter 0 := by unfold ti_Vd; decide +kernel
theorem yp_X3_mutter : plainName (yX3_mutter).cls = true := by decide +kernel
theorem yd_X4_init : ti_Vd yX4_init 0 := by unfold ti_Vd; decide +kernel
theorem yp_X4_init : plainName (yX4_init).cls = true := by decide +kernel
theorem yd_X4_read : ti_Vd yX4_read 2 := by unfold ti_Vd; decide +kernel
theorem yp_X4_read : plainName (yX4_read).cls = true := by decide +kernel
theorem yd_X4_refuse : ti_Vd yX4_refuse 1 := by unfold ti_Vd; decide +kernel
theorem yp_X4_refuse : plainName (yX4_refuse).cls = true := by decide +kernel
theorem yd_X4_take : ti_Vd yX4_take 1 := by unfold ti_Vd; decide +kernel
theorem yp_X4_take : plainName (yX4_take).cls = true := by decide +kernel
theorem yd_X4_number : ti_Vd yX4_number 2 := by unfold ti_Vd; decide +kernel
theorem yp_X4_number : plainName (yX4_number).cls = true := by decide +kernel
theorem yd_X4_once : ti_Vd yX4_once 0 := by unfold ti_Vd; decide +kernel
theorem yp_X4_once : plainName (yX4_once).cls = true := by decide +kernel
theorem yd_X4_readMan : ti_Vd yX4_readMan 0 := by unfold ti_Vd; decide +kernel
theorem yp_X4_readMan : plainName (yX4_readMan).cls = true := by decide +kernel
theorem yd_X4_readGuard : ti_Vd yX4_readGuard 0 := by unfold ti_Vd; decide +kernel
theorem yp_X4_readGuard : plainName (yX4_readGuard).cls = true := by decide +kernel
theorem yd_X4_toldMan : ti_Vd yX4_toldMan 0 := by unfold ti_Vd; decide +kernel
theorem yp_X4_toldMan : plainName (yX4_toldMan).cls = true := by decide +kernel
theorem yd_X4_readPower : ti_Vd yX4_readPower 0 := by unfold ti_Vd; decide +kernel
theorem yp_X4_readPower : plainName (yX4_readPower).cls = true := by decide +kernel
theorem yd_X4_readLaw : ti_Vd yX4_readLaw 0 := by unfold ti_Vd; decide +kernel
theorem yp_X4_readLaw : plainName (yX4_readLaw).cls = true := by decide +kernel
theorem yd_X4_knot : ti_Vd yX4_knot 0 := by unfold ti_Vd; decide +kernel
theorem yp_X4_knot : plainName (yX4_knot).cls = true := by decide +kernel
theorem yd_X4_readEither : ti_Vd yX4_readEither 1 := by unfold ti_Vd; decide +kernel
theorem yp_X4_readEither : plainName (yX4_readEither).cls = true := by decide +kernel
theorem yd_X4_readBoth : ti_Vd yX4_readBoth 1 := by unfold ti_Vd; decide +kernel
theorem yp_X4_readBoth : plainName (yX4_readBoth).cls = true := by decide +kernel
theorem yd_X4_readNegated : ti_Vd yX4_readNegated 1 := by unfold ti_Vd; decide +kernel
theorem yp_X4_readNegated : plainName (yX4_readNegated).cls = true := by decide +kernel
theorem yd_X4_readComparison : ti_Vd yX4_readComparison 1 := by unfold ti_Vd; decide +kernel
theorem yp_X4_readComparison : plainName (yX4_readComparison).cls = true := by decide +kernel
theorem yd_X4_readSum : ti_Vd yX4_readSum 1 := by unfold ti_Vd; decide +kernel
theorem yp_X4_readSum : plainName (yX4_readSum).cls = true := by decide +kernel
theorem yd_X4_readProduct : ti_Vd yX4_readProduct 1 := by unfold ti_Vd; decide +kernel
theorem yp_X4_readProduct : plainName (yX4_readProduct).cls = true := by decide +kernel
theorem yd_X4_readPart : ti_Vd yX4_readPart 1 := by unfold ti_Vd; decide +kernel
theorem yp_X4_readPart : plainName (yX4_readPart).cls = true := by decide +kernel
theorem yd_X5_init : ti_Vd yX5_init 0 := by unfold ti_Vd; decide +kernel
theorem yp_X5_init : plainName (yX5_init).cls = true := by decide +kernel
theorem yd_X5_clear : ti_Vd yX5_clear 0 := by unfold ti_Vd; decide +kernel
theorem yp_X5_clear : plainName (yX5_clear).cls = true := by decide +kernel
theorem yd_X5_remember : ti_Vd yX5_remember 1 := by unfold ti_Vd; decide +kernel
theorem yp_X5_remember : plainName (yX5_remember).cls = true := by decide +kernel
theorem yd_X5_takeBack : ti_Vd yX5_takeBack 1 := by unfold ti_Vd; decide +kernel
theorem yp_X5_takeBack : plainName (yX5_takeBack).cls = true := by decide +kernel
theorem yd_X6_init : ti_Vd yX6_init 0 := by unfold ti_Vd; decide +kernel
theorem yp_X6_init : plainName (yX6_init).cls = true := by decide +kernel
theorem yd_X6_clear : ti_Vd yX6_clear 0 := by unfold ti_Vd; decide +kernel
theorem yp_X6_clear : plainName (yX6_clear).cls = true := by decide +kernel
theorem yd_X6_lay : ti_Vd yX6_lay 3 := by unfold ti_Vd; decide +kernel
theorem yp_X6_lay : plainName (yX6_lay).cls = true := by decide +kernel
theorem yd_X6_layStrike : ti_Vd yX6_layStrike 1 := by unfold ti_Vd; decide +kernel
theorem yp_X6_layStrike : plainName (yX6_layStrike).cls = true := by decide +kernel
theorem yd_X6_knowBy : ti_Vd yX6_knowBy 1 := by unfold ti_Vd; decide +kernel
theorem yp_X6_knowBy : plainName (yX6_knowBy).cls = true := by decide +kernel
theorem yd_X6_knownBy : ti_Vd yX6_knownBy 0 := by unfold ti_Vd; decide +kernel
theorem yp_X6_knownBy : plainName (yX6_knownBy).cls = true := by decide +kernel
theorem yd_X6_search : ti_Vd yX6_search 1 := by unfold ti_Vd; decide +kernel
theorem yp_X6_search : plainName (yX6_search).cls = true := by decide +kernel
theorem yd_X6_markStruck : ti_Vd yX6_markStruck 0 := by unfold ti_Vd; decide +kernel
theorem yp_X6_markStruck : plainName (yX6_markStruck).cls = true := by decide +kernel
theorem yd_X6_tells : ti_Vd yX6_tells 1 := by unfold ti_Vd; decide +kernel
theorem yp_X6_tells : plainName (yX6_tells).cls = true := by decide +kernel
theorem yd_X6_lastMinute : ti_Vd yX6_lastMinute 0 := by unfold ti_Vd; decide +kernel
theorem yp_X6_lastMinute : plainName (yX6_lastMinute).cls = true := by decide +kernel
theorem yd_X6_fitsThrough : ti_Vd yX6_fitsThrough 1 := by unfold ti_Vd; decide +kernel
theorem yp_X6_fitsThrough : plainName (yX6_fitsThrough).cls = true := by decide +kernel
theorem yd_X6_fitsBehindLast : ti_Vd yX6_fitsBehindLast 1 := by unfold ti_Vd; decide +kernel
theorem yp_X6_fitsBehindLast : plainName (yX6_fitsBehindLast).cls = true := by decide +kernel
theorem yd_X6_addWay : ti_Vd yX6_addWay 2 := by unfold ti_Vd; decide +kernel
theorem yp_X6_addWay : plainName (yX6_addWay).cls = true := by decide +kernel
theorem yd_X7_init : ti_Vd yX7_init 0 := by unfold ti_Vd; decide +kernel
theorem yp_X7_init : plainName (yX7_init).cls = true := by decide +kernel
theorem yd_X7_put : ti_Vd yX7_put 1 := by unfold ti_Vd; decide +kernel
theorem yp_X7_put : plainName (yX7_put).cls = true := by decide +kernel
theorem yd_X7_begin : ti_Vd yX7_begin 1 := by unfold ti_Vd; decide +kernel
theorem yp_X7_begin : plainName (yX7_begin).cls = true := by decide +kernel
theorem yd_X7_advance : ti_Vd yX7_advance 0 := by unfold ti_Vd; decide +kernel
theorem yp_X7_advance : plainName (yX7_advance).cls = true := by decide +kernel
theorem yd_X7_peek : ti_Vd yX7_peek 0 := by unfold ti_Vd; decide +kernel
theorem yp_X7_peek : plainName (yX7_peek).cls = true := by decide +kernel
theorem yd_X7_isLetter : ti_Vd yX7_isLetter 1 := by unfold ti_Vd; decide +kernel
theorem yp_X7_isLetter : plainName (yX7_isLetter).cls = true := by decide +kernel
theorem yd_X7_isDigit : ti_Vd yX7_isDigit 1 := by unfold ti_Vd; decide +kernel
theorem yp_X7_isDigit : plainName (yX7_isDigit).cls = true := by decide +kernel
theorem yd_X7_readNumber : ti_Vd yX7_readNumber 0 := by unfold ti_Vd; decide +kernel
theorem yp_X7_readNumber : plainName (yX7_readNumber).cls = true := by decide +kernel
theorem yd_X7_readWord : ti_Vd yX7_readWord 0 := by unfold ti_Vd; decide +kernel
theorem yp_X7_readWord : plainName (yX7_readWord).cls = true := by decide +kernel
theorem yd_X7_wordKind : ti_Vd yX7_wordKind 0 := by unfold ti_Vd; decide +kernel
theorem yp_X7_wordKind : plainName (yX7_wordKind).cls = true := by decide +kernel
theorem yd_X7_signKind : ti_Vd yX7_signKind 1 := by unfold ti_Vd; decide +kernel
theorem yp_X7_signKind : plainName (yX7_signKind).cls = true := by decide +kernel
theorem yd_X7_belongs : ti_Vd yX7_belongs 1 := by unfold ti_Vd; decide +kernel
theorem yp_X7_belongs : plainName (yX7_belongs).cls = true := by decide +kernel
theorem yd_X8_init : ti_Vd yX8_init 0 := by unfold ti_Vd; decide +kernel
theorem yp_X8_init : plainName (yX8_init).cls = true := by decide +kernel
theorem yd_X8_clear : ti_Vd yX8_clear 0 := by unfold ti_Vd; decide +kernel
theorem yp_X8_clear : plainName (yX8_clear).cls = true := by decide +kernel
theorem yd_X8_find : ti_Vd yX8_find 1 := by unfold ti_Vd; decide +kernel
theorem yp_X8_find : plainName (yX8_find).cls = true := by decide +kernel
theorem yd_X9_init : ti_Vd yX9_init 0 := by unfold ti_Vd; decide +kernel
theorem yp_X9_init : plainName (yX9_init).cls = true := by decide +kernel
theorem yd_X9_feed : ti_Vd yX9_feed 5 := by unfold ti_Vd; decide +kernel
theorem yp_X9_feed : plainName (yX9_feed).cls = true := by decide +kernel
theorem yd_X9_text : ti_Vd yX9_text 1 := by unfold ti_Vd; decide +kernel
theorem yp_X9_text : plainName (yX9_text).cls = true := by decide +kernel
theorem yd_X9_fault : ti_Vd yX9_fault 1 := by unfold ti_Vd; decide +kernel
theorem yp_X9_fault : plainName (yX9_fault).cls = true := by decide +kernel
theorem yd_X9_named : ti_Vd yX9_named 1 := by unfold ti_Vd; decide +kernel
theorem yp_X9_named : plainName (yX9_named).cls = true := by decide +kernel
theorem yd_X9_look : ti_Vd yX9_look 2 := by unfold ti_Vd; decide +kernel
theorem yp_X9_look : plainName (yX9_look).cls = true := by decide +kernel
theorem yd_X9_stands : ti_Vd yX9_stands 1 := by unfold ti_Vd; decide +kernel
theorem yp_X9_stands : plainName (yX9_stands).cls = true := by decide +kernel
theorem yd_X9_holder : ti_Vd yX9_holder 1 := by unfold ti_Vd; decide +kernel
theorem yp_X9_holder : plainName (yX9_holder).cls = true := by decide +kernel
theorem yd_X9_law : ti_Vd yX9_law 2 := by unfold ti_Vd; decide +kernel
theorem yp_X9_law : plainName (yX9_law).cls = true := by decide +kernel
theorem yd_X9_go : ti_Vd yX9_go 1 := by unfold ti_Vd; decide +kernel
theorem yp_X9_go : plainName (yX9_go).cls = true := by decide +kernel
theorem yd_X9_recordHolders : ti_Vd yX9_recordHolders 1 := by unfold ti_Vd; decide +kernel
theorem yp_X9_recordHolders : plainName (yX9_recordHolders).cls = true := by decide +kernel
theorem yd_X9_join : ti_Vd yX9_join 1 := by unfold ti_Vd; decide +kernel
theorem yp_X9_join : plainName (yX9_join).cls = true := by decide +kernel
theorem yd_X9_out : ti_Vd yX9_out 1 := by unfold ti_Vd; decide +kernel
theorem yp_X9_out : plainName (yX9_out).cls = true := by decide +kernel
theorem yd_X9_swap : ti_Vd yX9_swap 3 := by unfold ti_Vd; decide +kernel
theorem yp_X9_swap : plainName (yX9_swap).cls = true := by decide +kernel
theorem yd_X9_kneel : ti_Vd yX9_kneel 2 := by unfold ti_Vd; decide +kernel
theorem yp_X9_kneel : plainName (yX9_kneel).cls = true := by decide +kernel
theorem yd_X9_cough : ti_Vd yX9_cough 1 := by unfold ti_Vd; decide +kernel
theorem yp_X9_cough : plainName (yX9_cough).cls = true := by decide +kernel
theorem yd_X9_move : ti_Vd yX9_move 2 := by unfold ti_Vd; decide +kernel
theorem yp_X9_move : plainName (yX9_move).cls = true := by decide +kernel
theorem yd_X9_was : ti_Vd yX9_was 2 := by unfold ti_Vd; decide +kernel
theorem yp_X9_was : plainName (yX9_was).cls = true := by decide +kernel
theorem yd_X9_ruled : ti_Vd yX9_ruled 2 := by unfold ti_Vd; decide +kernel
theorem yp_X9_ruled : plainName (yX9_ruled).cls = true := by decide +kernel
theorem yd_X9_served : ti_Vd yX9_served 1 := by unfold ti_Vd; decide +kernel
theorem yp_X9_served : plainName (yX9_served).cls = true := by decide +kernel
theorem yd_X9_coming : ti_Vd yX9_coming 3 := by unfold ti_Vd; decide +kernel
theorem yp_X9_coming : plainName (yX9_coming).cls = true := by decide +kernel
theorem yd_X9_decree : ti_Vd yX9_decree 3 := by unfold ti_Vd; decide +kernel
theorem yp_X9_decree : plainName (yX9_decree).cls = true := by decide +kernel
theorem yd_X9_coup : ti_Vd yX9_coup 0 := by unfold ti_Vd; decide +kernel
theorem yp_X9_coup : plainName (yX9_coup).cls = true := by decide +kernel
theorem yd_X9_rests : ti_Vd yX9_rests 3 := by unfold ti_Vd; decide +kernel
theorem yp_X9_rests : plainName (yX9_rests).cls = true := by decide +kernel
theorem yd_X9_rest : ti_Vd yX9_rest 4 := by unfold ti_Vd; decide +kernel
theorem yp_X9_rest : plainName (yX9_rest).cls = true := by decide +kernel
theorem yd_X9_best : ti_Vd yX9_best 4 := by unfold ti_Vd; decide +kernel
theorem yp_X9_best : plainName (yX9_best).cls = true := by decide +kernel
theorem yd_X9_fairest : ti_Vd yX9_fairest 3 := by unfold ti_Vd; decide +kernel
theorem yp_X9_fairest : plainName (yX9_fairest).cls = true := by decide +kernel
theorem yd_X9_gain : ti_Vd yX9_gain 2 := by unfold ti_Vd; decide +kernel
theorem yp_X9_gain : plainName (yX9_gain).cls = true := by decide +kernel
theorem yd_X9_stone : ti_Vd yX9_stone 3 := by unfold ti_Vd; decide +kernel
theorem yp_X9_stone : plainName (yX9_stone).cls = true := by decide +kernel
theorem yd_X9_strike : ti_Vd yX9_strike 1 := by unfold ti_Vd; decide +kernel
theorem yp_X9_strike : plainName (yX9_strike).cls = true := by decide +kernel
theorem yd_X9_known : ti_Vd yX9_known 1 := by unfold ti_Vd; decide +kernel
theorem yp_X9_known : plainName (yX9_known).cls = true := by decide +kernel
theorem yd_X9_came : ti_Vd yX9_came 0 := by unfold ti_Vd; decide +kernel
theorem yp_X9_came : plainName (yX9_came).cls = true := by decide +kernel
theorem yd_X9_one : ti_Vd yX9_one 2 := by unfold ti_Vd; decide +kernel
theorem yp_X9_one : plainName (yX9_one).cls = true := by decide +kernel
theorem yd_X9_empty : ti_Vd yX9_empty 2 := by unfold ti_Vd; decide +kernel
theorem yp_X9_empty : plainName (yX9_empty).cls = true := by decide +kernel
theorem yd_X9_chance : ti_Vd yX9_chance 3 := by unfold ti_Vd; decide +kernel
theorem yp_X9_chance : plainName (yX9_chance).cls = true := by decide +kernel
theorem yd_X9_tried : ti_Vd yX9_tried 3 := by unfold ti_Vd; decide +kernel
theorem yp_X9_tried : plainName (yX9_tried).cls = true := by decide +kernel
theorem yd_X9_undo : ti_Vd yX9_undo 0 := by unfold ti_Vd; decide +kernel
theorem yp_X9_undo : plainName (yX9_undo).cls = true := by decide +kernel
theorem yd_X9_keep : ti_Vd yX9_keep 0 := by unfold ti_Vd; decide +kernel
theorem yp_X9_keep : plainName (yX9_keep).cls = true := by decide +kernel
theorem yd_X9_back : ti_Vd yX9_back 0 := by unfold ti_Vd; decide +kernel
theorem yp_X9_back : plainName (yX9_back).cls = true := by decide +kernel
theorem yd_X9_count : ti_Vd yX9_count 1 := by unfold ti_Vd; decide +kernel
theorem yp_X9_count : plainName (yX9_count).cls = true := by decide +kernel
theorem yd_X9_isMan : ti_Vd yX9_isMan 1 := by unfold ti_Vd; decide +kernel
theorem yp_X9_isMan : plainName (yX9_isMan).cls = true := by decide +kernel
theorem yd_X9_isToCome : ti_Vd yX9_isToCome 1 := by unfold ti_Vd; decide +kernel
theorem yp_X9_isToCome : plainName (yX9_isToCome).cls = true := by decide +kernel
theorem yd_X9_isInQueue : ti_Vd yX9_isInQueue 1 := by unfold ti_Vd; decide +kernel
theorem yp_X9_isInQueue : plainName (yX9_isInQueue).cls = true := by decide +kernel
theorem yd_X9_isPower : ti_Vd yX9_isPower 1 := by unfold ti_Vd; decide +kernel
theorem yp_X9_isPower : plainName (yX9_isPower).cls = true := by decide +kernel
theorem yd_X9_isPlace : ti_Vd yX9_isPlace 1 := by unfold ti_Vd; decide +kernel
theorem yp_X9_isPlace : plainName (yX9_isPlace).cls = true := by decide +kernel
theorem yd_X9_isZeroOrOne : ti_Vd yX9_isZeroOrOne 1 := by unfold ti_Vd; decide +kernel
theorem yp_X9_isZeroOrOne : plainName (yX9_isZeroOrOne).cls = true := by decide +kernel
theorem yd_X9_isAhead : ti_Vd yX9_isAhead 2 := by unfold ti_Vd; decide +kernel
theorem yp_X9_isAhead : plainName (yX9_isAhead).cls = true := by decide +kernel
theorem yd_X9_isGame : ti_Vd yX9_isGame 3 := by unfold ti_Vd; decide +kernel
theorem yp_X9_isGame : plainName (yX9_isGame).cls = true := by decide +kernel
theorem yd_X10_init : ti_Vd yX10_init 0 := by unfold ti_Vd; decide +kernel
theorem yp_X10_init : plainName (yX10_init).cls = true := by decide +kernel
theorem yd_X10_thrown : ti_Vd yX10_thrown 0 := by unfold ti_Vd; decide +kernel
theorem yp_X10_thrown : plainName (yX10_thrown).cls = true := by decide +kernel
theorem yd_X10_feed : ti_Vd yX10_feed 5 := by unfold ti_Vd; decide +kernel
theorem yp_X10_feed : plainName (yX10_feed).cls = true := by decide +kernel
theorem yd_X10_here : ti_Vd yX10_here 0 := by unfold ti_Vd; decide +kernel
theorem yp_X10_here : plainName (yX10_here).cls = true := by decide +kernel
theorem yd_X10_isSmall : ti_Vd yX10_isSmall 1 := by unfold ti_Vd; decide +kernel
theorem yp_X10_isSmall : plainName (yX10_isSmall).cls = true := by decide +kernel
theorem yd_X10_isDigit : ti_Vd yX10_isDigit 1 := by unfold ti_Vd; decide +kernel
theorem yp_X10_isDigit : plainName (yX10_isDigit).cls = true := by decide +kernel
theorem yd_X10_token : ti_Vd yX10_token 0 := by unfold ti_Vd; decide +kernel
theorem yp_X10_token : plainName (yX10_token).cls = true := by decide +kernel
theorem yd_X10_sign : ti_Vd yX10_sign 1 := by unfold ti_Vd; decide +kernel
theorem yp_X10_sign : plainName (yX10_sign).cls = true := by decide +kernel
theorem yd_X10_word : ti_Vd yX10_word 0 := by unfold ti_Vd; decide +kernel
theorem yp_X10_word : plainName (yX10_word).cls = true := by decide +kernel
theorem yd_X10_name : ti_Vd yX10_name 0 := by unfold ti_Vd; decide +kernel
theorem yp_X10_name : plainName (yX10_name).cls = true := by decide +kernel
theorem yd_X10_wrong : ti_Vd yX10_wrong 1 := by unfold ti_Vd; decide +kernel
theorem yp_X10_wrong : plainName (yX10_wrong).cls = true := by decide +kernel
theorem yd_X10_isWord : ti_Vd yX10_isWord 1 := by unfold ti_Vd; decide +kernel
theorem yp_X10_isWord : plainName (yX10_isWord).cls = true := by decide +kernel
theorem yd_X10_isSign : ti_Vd yX10_isSign 1 := by unfold ti_Vd; decide +kernel
theorem yp_X10_isSign : plainName (yX10_isSign).cls = true := by decide +kernel
theorem yd_X10_goOn : ti_Vd yX10_goOn 0 := by unfold ti_Vd; decide +kernel
theorem yp_X10_goOn : plainName (yX10_goOn).cls = true := by decide +kernel
theorem yd_X10_numeral : ti_Vd yX10_numeral 2 := by unfold ti_Vd; decide +kernel
theorem yp_X10_numeral : plainName (yX10_numeral).cls = true := by decide +kernel
theorem yd_X10_found : ti_Vd yX10_found 4 := by unfold ti_Vd; decide +kernel
theorem yp_X10_found : plainName (yX10_found).cls = true := by decide +kernel
theorem yd_X10_fresh : ti_Vd yX10_fresh 3 := by unfold ti_Vd; decide +kernel
theorem yp_X10_fresh : plainName (yX10_fresh).cls = true := by decide +kernel
theorem yd_X10_fresher : ti_Vd yX10_fresher 1 := by unfold ti_Vd; decide +kernel
theorem yp_X10_fresher : plainName (yX10_fresher).cls = true := by decide +kernel
theorem yd_X10_reads : ti_Vd yX10_reads 2 := by unfold ti_Vd; decide +kernel
theorem yp_X10_reads : plainName (yX10_reads).cls = true := by decide +kernel
theorem yd_X10_line : ti_Vd yX10_line 0 := by unfold ti_Vd; decide +kernel
theorem yp_X10_line : plainName (yX10_line).cls = true := by decide +kernel
theorem yd_X10_manLine : ti_Vd yX10_manLine 1 := by unfold ti_Vd; decide +kernel
theorem yp_X10_manLine : plainName (yX10_manLine).cls = true := by decide +kernel
theorem yd_X10_manAtHand : ti_Vd yX10_manAtHand 0 := by unfold ti_Vd; decide +kernel
theorem yp_X10_manAtHand : plainName (yX10_manAtHand).cls = true := by decide +kernel
theorem yd_X10_guardLine : ti_Vd yX10_guardLine 0 := by unfold ti_Vd; decide +kernel
theorem yp_X10_guardLine : plainName (yX10_guardLine).cls = true := by decide +kernel
theorem yd_X10_powerLine : ti_Vd yX10_powerLine 0 := by unfold ti_Vd; decide +kernel
theorem yp_X10_powerLine : plainName (yX10_powerLine).cls = true := by decide +kernel
theorem yd_X10_lawLine : ti_Vd yX10_lawLine 0 := by unfold ti_Vd; decide +kernel
theorem yp_X10_lawLine : plainName (yX10_lawLine).cls = true := by decide +kernel
theorem yd_X10_puts : ti_Vd yX10_puts 2 := by unfold ti_Vd; decide +kernel
theorem yp_X10_puts : plainName (yX10_puts).cls = true := by decide +kernel
theorem yd_X10_knot : ti_Vd yX10_knot 0 := by unfold ti_Vd; decide +kernel
theorem yp_X10_knot : plainName (yX10_knot).cls = true := by decide +kernel
theorem yd_X10_expression : ti_Vd yX10_expression 0 := by unfold ti_Vd; decide +kernel
theorem yp_X10_expression : plainName (yX10_expression).cls = true := by decide +kernel
theorem yd_X10_conjunction : ti_Vd yX10_conjunction 0 := by unfold ti_Vd; decide +kernel
theorem yp_X10_conjunction : plainName (yX10_conjunction).cls = true := by decide +kernel
theorem yd_X10_negation : ti_Vd yX10_negation 0 := by unfold ti_Vd; decide +kernel
theorem yp_X10_negation : plainName (yX10_negation).cls = true := by decide +kernel
theorem yd_X10_sum : ti_Vd yX10_sum 0 := by unfold ti_Vd; decide +kernel
theorem yp_X10_sum : plainName (yX10_sum).cls = true := by decide +kernel
theorem yd_X10_product : ti_Vd yX10_product 0 := by unfold ti_Vd; decide +kernel
theorem yp_X10_product : plainName (yX10_product).cls = true := by decide +kernel
theorem yd_X10_primary : ti_Vd yX10_primary 0 := by unfold ti_Vd; decide +kernel
theorem yp_X10_primary : plainName (yX10_primary).cls = true := by decide +kernel
theorem yd_X10_half : ti_Vd yX10_half 1 := by unfold ti_Vd; decide +kernel
theorem yp_X10_half : plainName (yX10_half).cls = true := by decide +kernel
theorem yd_X10_text : ti_Vd yX10_text 1 := by unfold ti_Vd; decide +kernel
theorem yp_X10_text : plainName (yX10_text).cls = true := by decide +kernel
theorem yd_X10_fault : ti_Vd yX10_fault 1 := by unfold ti_Vd; decide +kernel
theorem yp_X10_fault : plainName (yX10_fault).cls = true := by decide +kernel
theorem yd_X10_named : ti_Vd yX10_named 1 := by unfold ti_Vd; decide +kernel
theorem yp_X10_named : plainName (yX10_named).cls = true := by decide +kernel
theorem yd_X10_is : ti_Vd yX10_is 1 := by unfold ti_Vd; decide +kernel
theorem yp_X10_is : plainName (yX10_is).cls = true := by decide +kernel
theorem yd_X10_works : ti_Vd yX10_works 1 := by unfold ti_Vd; decide +kernel
theorem yp_X10_works : plainName (yX10_works).cls = true := by decide +kernel
theorem yd_X10_goes : ti_Vd yX10_goes 1 := by unfold ti_Vd; decide +kernel
theorem yp_X10_goes : plainName (yX10_goes).cls = true := by decide +kernel
theorem yd_X10_hasLaw : ti_Vd yX10_hasLaw 1 := by unfold ti_Vd; decide +kernel
theorem yp_X10_hasLaw : plainName (yX10_hasLaw).cls = true := by decide +kernel
theorem yd_X10_calls : ti_Vd yX10_calls 4 := by unfold ti_Vd; decide +kernel
theorem yp_X10_calls : plainName (yX10_calls).cls = true := by decide +kernel
theorem yd_X10_within : ti_Vd yX10_within 4 := by unfold ti_Vd; decide +kernel
theorem yp_X10_within : plainName (yX10_within).cls = true := by decide +kernel
theorem yd_X10_starts : ti_Vd yX10_starts 1 := by unfold ti_Vd; decide +kernel
theorem yp_X10_starts : plainName (yX10_starts).cls = true := by decide +kernel
theorem yd_X10_begins : ti_Vd yX10_begins 0 := by unfold ti_Vd; decide +kernel
theorem yp_X10_begins : plainName (yX10_begins).cls = true := by decide +kernel
theorem yd_X10_copies : ti_Vd yX10_copies 2 := by unfold ti_Vd; decide +kernel
theorem yp_X10_copies : plainName (yX10_copies).cls = true := by decide +kernel
theorem yd_X10_copiesLog : ti_Vd yX10_copiesLog 2 := by unfold ti_Vd; decide +kernel
theorem yp_X10_copiesLog : plainName (yX10_copiesLog).cls = true := by decide +kernel
theorem yd_X10_isMan : ti_Vd yX10_isMan 1 := by unfold ti_Vd; decide +kernel
theorem yp_X10_isMan : plainName (yX10_isMan).cls = true := by decide +kernel
theorem yd_X10_isIn : ti_Vd yX10_isIn 1 := by unfold ti_Vd; decide +kernel
theorem yp_X10_isIn : plainName (yX10_isIn).cls = true := by decide +kernel
theorem yd_X10_isToCome : ti_Vd yX10_isToCome 1 := by unfold ti_Vd; decide +kernel
theorem yp_X10_isToCome : plainName (yX10_isToCome).cls = true := by decide +kernel
theorem yd_X10_isPlace : ti_Vd yX10_isPlace 1 := by unfold ti_Vd; decide +kernel
theorem yp_X10_isPlace : plainName (yX10_isPlace).cls = true := by decide +kernel
theorem yd_X10_standsAt : ti_Vd yX10_standsAt 2 := by unfold ti_Vd; decide +kernel
theorem yp_X10_standsAt : plainName (yX10_standsAt).cls = true := by decide +kernel
theorem yd_X10_placeOf : ti_Vd yX10_placeOf 2 := by unfold ti_Vd; decide +kernel
theorem yp_X10_placeOf : plainName (yX10_placeOf).cls = true := by decide +kernel
theorem yd_X10_joins : ti_Vd yX10_joins 3 := by unfold ti_Vd; decide +kernel
theorem yp_X10_joins : plainName (yX10_joins).cls = true := by decide +kernel
theorem yd_X10_leaves : ti_Vd yX10_leaves 4 := by unfold ti_Vd; decide +kernel
theorem yp_X10_leaves : plainName (yX10_leaves).cls = true := by decide +kernel
theorem yd_X10_arrive : ti_Vd yX10_arrive 2 := by unfold ti_Vd; decide +kernel
theorem yp_X10_arrive : plainName (yX10_arrive).cls = true := by decide +kernel
theorem yd_X10_needOf : ti_Vd yX10_needOf 2 := by unfold ti_Vd; decide +kernel
theorem yp_X10_needOf : plainName (yX10_needOf).cls = true := by decide +kernel
theorem yd_X10_isGuarded : ti_Vd yX10_isGuarded 1 := by unfold ti_Vd; decide +kernel
theorem yp_X10_isGuarded : plainName (yX10_isGuarded).cls = true := by decide +kernel
theorem yd_X10_coughing : ti_Vd yX10_coughing 2 := by unfold ti_Vd; decide +kernel
theorem yp_X10_coughing : plainName (yX10_coughing).cls = true := by decide +kernel
theorem yd_X10_pour : ti_Vd yX10_pour 1 := by unfold ti_Vd; decide +kernel
theorem yp_X10_pour : plainName (yX10_pour).cls = true := by decide +kernel
theorem yd_X10_levy : ti_Vd yX10_levy 2 := by unfold ti_Vd; decide +kernel
theorem yp_X10_levy : plainName (yX10_levy).cls = true := by decide +kernel
theorem yd_X10_wear : ti_Vd yX10_wear 2 := by unfold ti_Vd; decide +kernel
theorem yp_X10_wear : plainName (yX10_wear).cls = true := by decide +kernel
theorem yd_X10_passes : ti_Vd yX10_passes 2 := by unfold ti_Vd; decide +kernel
theorem yp_X10_passes : plainName (yX10_passes).cls = true := by decide +kernel
theorem yd_X10_draw : ti_Vd yX10_draw 1 := by unfold ti_Vd; decide +kernel
theorem yp_X10_draw : plainName (yX10_draw).cls = true := by decide +kernel
theorem yd_X10_lays : ti_Vd yX10_lays 0 := by unfold ti_Vd; decide +kernel
theorem yp_X10_lays : plainName (yX10_lays).cls = true := by decide +kernel
theorem yd_X10_runs : ti_Vd yX10_runs 1 := by unfold ti_Vd; decide +kernel
theorem yp_X10_runs : plainName (yX10_runs).cls = true := by decide +kernel
theorem yd_X10_look : ti_Vd yX10_look 2 := by unfold ti_Vd; decide +kernel
theorem yp_X10_look : plainName (yX10_look).cls = true := by decide +kernel
theorem yd_X10_stands : ti_Vd yX10_stands 1 := by unfold ti_Vd; decide +kernel
theorem yp_X10_stands : plainName (yX10_stands).cls = true := by decide +kernel
theorem yd_X10_isPower : ti_Vd yX10_isPower 1 := by unfold ti_Vd; decide +kernel
theorem yp_X10_isPower : plainName (yX10_isPower).cls = true := by decide +kernel
theorem yd_X10_holder : ti_Vd yX10_holder 1 := by unfold ti_Vd; decide +kernel
theorem yp_X10_holder : plainName (yX10_holder).cls = true := by decide +kernel
theorem yd_X10_law : ti_Vd yX10_law 2 := by unfold ti_Vd; decide +kernel
theorem yp_X10_law : plainName (yX10_law).cls = true := by decide +kernel
theorem yd_X10_minutesLeft : ti_Vd yX10_minutesLeft 0 := by unfold ti_Vd; decide +kernel
theorem yp_X10_minutesLeft : plainName (yX10_minutesLeft).cls = true := by decide +kernel
theorem yd_X10_go : ti_Vd yX10_go 1 := by unfold ti_Vd; decide +kernel
theorem yp_X10_go : plainName (yX10_go).cls = true := by decide +kernel
theorem yd_X10_keepNow : ti_Vd yX10_keepNow 0 := by unfold ti_Vd; decide +kernel
theorem yp_X10_keepNow : plainName (yX10_keepNow).cls = true := by decide +kernel
theorem yd_X10_join : ti_Vd yX10_join 1 := by unfold ti_Vd; decide +kernel
theorem yp_X10_join : plainName (yX10_join).cls = true := by decide +kernel
theorem yd_X10_out : ti_Vd yX10_out 1 := by unfold ti_Vd; decide +kernel
theorem yp_X10_out : plainName (yX10_out).cls = true := by decide +kernel
theorem yd_X10_swap : ti_Vd yX10_swap 3 := by unfold ti_Vd; decide +kernel
theorem yp_X10_swap : plainName (yX10_swap).cls = true := by decide +kernel
theorem yd_X10_kneel : ti_Vd yX10_kneel 2 := by unfold ti_Vd; decide +kernel
theorem yp_X10_kneel : plainName (yX10_kneel).cls = true := by decide +kernel
theorem yd_X10_cough : ti_Vd yX10_cough 1 := by unfold ti_Vd; decide +kernel
theorem yp_X10_cough : plainName (yX10_cough).cls = true := by decide +kernel
theorem yd_X10_move : ti_Vd yX10_move 2 := by unfold ti_Vd; decide +kernel
theorem yp_X10_move : plainName (yX10_move).cls = true := by decide +kernel
theorem yd_X10_isGone : ti_Vd yX10_isGone 1 := by unfold ti_Vd; decide +kernel
theorem yp_X10_isGone : plainName (yX10_isGone).cls = true := by decide +kernel
theorem yd_X10_was : ti_Vd yX10_was 2 := by unfold ti_Vd; decide +kernel
theorem yp_X10_was : plainName (yX10_was).cls = true := by decide +kernel
theorem yd_X10_ruled : ti_Vd yX10_ruled 2 := by unfold ti_Vd; decide +kernel
theorem yp_X10_ruled : plainName (yX10_ruled).cls = true := by decide +kernel
theorem yd_X10_served : ti_Vd yX10_served 1 := by unfold ti_Vd; decide +kernel
theorem yp_X10_served : plainName (yX10_served).cls = true := by decide +kernel
theorem yd_X10_coming : ti_Vd yX10_coming 3 := by unfold ti_Vd; decide +kernel
theorem yp_X10_coming : plainName (yX10_coming).cls = true := by decide +kernel
theorem yd_X10_bitsOf : ti_Vd yX10_bitsOf 1 := by unfold ti_Vd; decide +kernel
theorem yp_X10_bitsOf : plainName (yX10_bitsOf).cls = true := by decide +kernel
theorem yd_X10_decree : ti_Vd yX10_decree 3 := by unfold ti_Vd; decide +kernel
theorem yp_X10_decree : plainName (yX10_decree).cls = true := by decide +kernel
theorem yd_X10_coup : ti_Vd yX10_coup 0 := by unfold ti_Vd; decide +kernel
theorem yp_X10_coup : plainName (yX10_coup).cls = true := by decide +kernel
theorem yd_X10_endOf : ti_Vd yX10_endOf 2 := by unfold ti_Vd; decide +kernel
theorem yp_X10_endOf : plainName (yX10_endOf).cls = true := by decide +kernel
theorem yd_X10_layGame : ti_Vd yX10_layGame 3 := by unfold ti_Vd; decide +kernel
theorem yp_X10_layGame : plainName (yX10_layGame).cls = true := by decide +kernel
theorem yd_X10_isRest : ti_Vd yX10_isRest 2 := by unfold ti_Vd; decide +kernel
theorem yp_X10_isRest : plainName (yX10_isRest).cls = true := by decide +kernel
theorem yd_X10_restOf : ti_Vd yX10_restOf 1 := by unfold ti_Vd; decide +kernel
theorem yp_X10_restOf : plainName (yX10_restOf).cls = true := by decide +kernel
theorem yd_X10_isLong : ti_Vd yX10_isLong 1 := by unfold ti_Vd; decide +kernel
theorem yp_X10_isLong : plainName (yX10_isLong).cls = true := by decide +kernel
theorem yd_X10_isGame : ti_Vd yX10_isGame 3 := by unfold ti_Vd; decide +kernel
theorem yp_X10_isGame : plainName (yX10_isGame).cls = true := by decide +kernel
theorem yd_X10_rests : ti_Vd yX10_rests 3 := by unfold ti_Vd; decide +kernel
theorem yp_X10_rests : plainName (yX10_rests).cls = true := by decide +kernel
theorem yd_X10_rest : ti_Vd yX10_rest 4 := by unfold ti_Vd; decide +kernel
theorem yp_X10_rest : plainName (yX10_rest).cls = true := by decide +kernel
theorem yd_X10_best : ti_Vd yX10_best 4 := by unfold ti_Vd; decide +kernel
theorem yp_X10_best : plainName (yX10_best).cls = true := by decide +kernel
theorem yd_X10_fairest : ti_Vd yX10_fairest 3 := by unfold ti_Vd; decide +kernel
theorem yp_X10_fairest : plainName (yX10_fairest).cls = true := by decide +kernel
theorem yd_X10_gain : ti_Vd yX10_gain 2 := by unfold ti_Vd; decide +kernel
theorem yp_X10_gain : plainName (yX10_gain).cls = true := by decide +kernel
theorem yd_X10_stone : ti_Vd yX10_stone 3 := by unfold ti_Vd; decide +kernel
theorem yp_X10_stone : plainName (yX10_stone).cls = true := by decide +kernel
theorem yd_X10_strike : ti_Vd yX10_strike 1 := by unfold ti_Vd; decide +kernel
theorem yp_X10_strike : plainName (yX10_strike).cls = true := by decide +kernel
theorem yd_X10_known : ti_Vd yX10_known 1 := by unfold ti_Vd; decide +kernel
theorem yp_X10_known : plainName (yX10_known).cls = true := by decide +kernel
theorem yd_X10_knownMany : ti_Vd yX10_knownMany 0 := by unfold ti_Vd; decide +kernel
theorem yp_X10_knownMany : plainName (yX10_knownMany).cls = true := by decide +kernel
theorem yd_X10_isWay : ti_Vd yX10_isWay 2 := by unfold ti_Vd; decide +kernel
theorem yp_X10_isWay : plainName (yX10_isWay).cls = true := by decide +kernel
theorem yd_X10_layCame : ti_Vd yX10_layCame 1 := by unfold ti_Vd; decide +kernel
theorem yp_X10_layCame : plainName (yX10_layCame).cls = true := by decide +kernel
theorem yd_X10_came : ti_Vd yX10_came 0 := by unfold ti_Vd; decide +kernel
theorem yp_X10_came : plainName (yX10_came).cls = true := by decide +kernel
theorem yd_X10_one : ti_Vd yX10_one 2 := by unfold ti_Vd; decide +kernel
theorem yp_X10_one : plainName (yX10_one).cls = true := by decide +kernel
theorem yd_X10_empty : ti_Vd yX10_empty 2 := by unfold ti_Vd; decide +kernel
theorem yp_X10_empty : plainName (yX10_empty).cls = true := by decide +kernel
theorem yd_X10_chance : ti_Vd yX10_chance 3 := by unfold ti_Vd; decide +kernel
theorem yp_X10_chance : plainName (yX10_chance).cls = true := by decide +kernel
theorem yd_X10_tried : ti_Vd yX10_tried 3 := by unfold ti_Vd; decide +kernel
theorem yp_X10_tried : plainName (yX10_tried).cls = true := by decide +kernel
theorem yd_X10_howMany : ti_Vd yX10_howMany 2 := by unfold ti_Vd; decide +kernel
theorem yp_X10_howMany : plainName (yX10_howMany).cls = true := by decide +kernel
theorem yd_X10_servedMany : ti_Vd yX10_servedMany 1 := by unfold ti_Vd; decide +kernel
theorem yp_X10_servedMany : plainName (yX10_servedMany).cls = true := by decide +kernel
theorem yd_X10_undo : ti_Vd yX10_undo 0 := by unfold ti_Vd; decide +kernel
theorem yp_X10_undo : plainName (yX10_undo).cls = true := by decide +kernel
theorem yd_X10_keep : ti_Vd yX10_keep 0 := by unfold ti_Vd; decide +kernel
theorem yp_X10_keep : plainName (yX10_keep).cls = true := by decide +kernel
theorem yd_X10_back : ti_Vd yX10_back 0 := by unfold ti_Vd; decide +kernel
theorem yp_X10_back : plainName (yX10_back).cls = true := by decide +kernel
theorem yd_X10_count : ti_Vd yX10_count 1 := by unfold ti_Vd; decide +kernel
theorem yp_X10_count : plainName (yX10_count).cls = true := by decide +kernel
theorem yd_J6_bitCount_0f7a4 : ti_Vd yJ6_bitCount_0f7a4 1 := by unfold ti_Vd; decide +kernel
theorem yp_J6_bitCount_0f7a4 : plainName (yJ6_bitCount_0f7a4).cls = true := by decide +kernel
theorem yd_J0_length_8abf5 : ti_Vd yJ0_length_8abf5 0 := by unfold ti_Vd; decide +kernel
theorem yp_J0_length_8abf5 : plainName (yJ0_length_8abf5).cls = true := by decide +kernel
theorem yd_J0_charAt_5068e : ti_Vd yJ0_charAt_5068e 1 := by unfold ti_Vd; decide +kernel
theorem yp_J0_charAt_5068e : plainName (yJ0_charAt_5068e).cls = true := by decide +kernel
theorem yd_J0_coder_7d493 : ti_Vd yJ0_coder_7d493 0 := by unfold ti_Vd; decide +kernel
theorem yp_J0_coder_7d493 : plainName (yJ0_coder_7d493).cls = true := by decide +kernel
theorem yd_J0_isLatin1_aae02 : ti_Vd yJ0_isLatin1_aae02 0 := by unfold ti_Vd; decide +kernel
theorem yp_J0_isLatin1_aae02 : plainName (yJ0_isLatin1_aae02).cls = true := by decide +kernel
theorem yd_J0_checkIndex_df160 : ti_Vd yJ0_checkIndex_df160 2 := by unfold ti_Vd; decide +kernel
theorem yp_J0_checkIndex_df160 : plainName (yJ0_checkIndex_df160).cls = true := by decide +kernel
theorem yd_J1_charAt_3b067 : ti_Vd yJ1_charAt_3b067 2 := by unfold ti_Vd; decide +kernel
theorem yp_J1_charAt_3b067 : plainName (yJ1_charAt_3b067).cls = true := by decide +kernel
theorem yd_J7_fill_53178 : ti_Vd yJ7_fill_53178 2 := by unfold ti_Vd; decide +kernel
theorem yp_J7_fill_53178 : plainName (yJ7_fill_53178).cls = true := by decide +kernel
theorem yd_J3_checkIndex_8e157 : ti_Vd yJ3_checkIndex_8e157 3 := by unfold ti_Vd; decide +kernel
theorem yp_J3_checkIndex_8e157 : plainName (yJ3_checkIndex_8e157).cls = true := by decide +kernel
theorem ob_0 : ti_ob ti_LT 0 9 := by unfold ti_ob; decide +kernel
theorem ob_1 : ti_ob ti_LT 1 4 := by unfold ti_ob; decide +kernel
theorem ob_2 : ti_ob ti_LT 2 7 := by unfold ti_ob; decide +kernel
theorem ob_3 : ti_ob ti_LT 3 8 := by unfold ti_ob; decide +kernel
theorem ob_4 : ti_ob ti_LT 4 8 := by unfold ti_ob; decide +kernel
theorem ob_5 : ti_ob ti_LT 5 2 := by unfold ti_ob; decide +kernel
theorem ob_6 : ti_ob ti_LT 6 2 := by unfold ti_ob; decide +kernel
theorem ob_7 : ti_ob ti_LT 7 2 := by unfold ti_ob; decide +kernel
theorem ob_8 : ti_ob ti_LT 8 2 := by unfold ti_ob; decide +kernel
theorem ob_9 : ti_ob ti_LT 9 2 := by unfold ti_ob; decide +kernel
theorem ob_10 : ti_ob ti_LT 10 2 := by unfold ti_ob; decide +kernel
theorem ob_11 : ti_ob ti_LT 11 2 := by unfold ti_ob; decide +kernel
theorem ob_12 : ti_ob ti_LT 12 2 := by unfold ti_ob; decide +kernel
theorem ob_13 : ti_ob ti_LT 13 2 := by unfold ti_ob; decide +kernel
theorem ob_14 : ti_ob ti_LT 14 2 := by unfold ti_ob; decide +kernel
theorem ob_15 : ti_ob ti_LT 15 2 := by unfold ti_ob; decide +kernel
theorem ob_16 : ti_ob ti_LT 16 2 := by unfold ti_ob; decide +kernel
theorem ob_17 : ti_ob ti_LT 17 2 := by unfold ti_ob; decide +kernel
theorem ob_18 : ti_ob ti_LT 18 2 := by unfold ti_ob; decide +kernel
theorem ob_19 : ti_ob ti_LT 19 2 := by unfold ti_ob; decide +kernel
theorem ob_20 : ti_ob ti_LT 20 2 := by unfold ti_ob; decide +kernel
theorem ob_21 : ti_ob ti_LT 21 1 := by unfold ti_ob; decide +kernel
theorem ob_22 : ti_ob ti_LT 22 1 := by unfold ti_ob; decide +kernel
theorem ob_23 : ti_ob ti_LT 23 1 := by unfold ti_ob; decide +kernel
theorem ob_24 : ti_ob ti_LT 24 1 := by unfold ti_ob; decide +kernel
theorem ob_25 : ti_ob ti_LT 25 1 := by unfold ti_ob; decide +kernel
theorem ob_26 : ti_ob ti_LT 26 1 := by unfold ti_ob; decide +kernel
theorem ob_27 : ti_ob ti_LT 27 3 := by unfold ti_ob; decide +kernel
theorem ob_28 : ti_ob ti_LT 28 5 := by unfold ti_ob; decide +kernel
theorem ob_29 : ti_ob ti_LT 29 3 := by unfold ti_ob; decide +kernel
theorem ob_30 : ti_ob ti_LT 30 3 := by unfold ti_ob; decide +kernel
theorem ob_31 : ti_ob ti_LT 31 3 := by unfold ti_ob; decide +kernel
theorem ob_32 : ti_ob ti_LT 32 3 := by unfold ti_ob; decide +kernel
theorem ob_33 : ti_ob ti_LT 33 3 := by unfold ti_ob; decide +kernel
theorem ob_34 : ti_ob ti_LT 34 3 := by unfold ti_ob; decide +kernel
theorem ob_35 : ti_ob ti_LT 35 3 := by unfold ti_ob; decide +kernel
theorem ob_36 : ti_ob ti_LT 36 3 := by unfold ti_ob; decide +kernel
theorem ob_37 : ti_ob ti_LT 37 3 := by unfold ti_ob; decide +kernel
theorem ob_38 : ti_ob ti_LT 38 3 := by unfold ti_ob; decide +kernel
theorem ob_39 : ti_ob ti_LT 39 3 := by unfold ti_ob; decide +kernel
theorem ob_40 : ti_ob ti_LT 40 3 := by unfold ti_ob; decide +kernel
theorem ob_41 : ti_ob ti_LT 41 3 := by unfold ti_ob; decide +kernel
theorem ob_42 : ti_ob ti_LT 42 3 := by unfold ti_ob; decide +kernel
theorem ob_43 : ti_ob ti_LT 43 3 := by unfold ti_ob; decide +kernel
theorem ob_44 : ti_ob ti_LT 44 3 := by unfold ti_ob; decide +kernel
theorem ob_45 : ti_ob ti_LT 45 3 := by unfold ti_ob; decide +kernel
theorem ob_46 : ti_ob ti_LT 46 3 := by unfold ti_ob; decide +kernel
theorem ob_47 : ti_ob ti_LT 47 3 := by unfold ti_ob; decide +kernel
theorem ob_48 : ti_ob ti_LT 48 3 := by unfold ti_ob; decide +kernel
theorem ob_49 : ti_ob ti_LT 49 3 := by unfold ti_ob; decide +kernel
theorem ob_50 : ti_ob ti_LT 50 6 := by unfold ti_ob; decide +kernel
theorem ob_51 : ti_ob ti_LT 51 3 := by unfold ti_ob; decide +kernel
theorem ob_52 : ti_ob ti_LT 52 3 := by unfold ti_ob; decide +kernel
theorem ob_53 : ti_ob ti_LT 53 0 := by unfold ti_ob; decide +kernel
theorem ob_54 : ti_ob ti_LT 54 3 := by unfold ti_ob; decide +kernel
theorem ob_55 : ti_ob ti_LT 55 3 := by unfold ti_ob; decide +kernel
theorem ob_60 : ti_ob ti_LM 60 10 := by unfold ti_ob; decide +kernel
theorem fn_0 (A : Nat → Nat → Nat) (o : Nat) : ∀ I T, (ti_fs A 0 o I T).length = 6 := fun _ _ => rfl
theorem fs_0_5 {A : Nat → Nat → Nat} {o : Nat} {M : ti_M} {v : Int32} : (ti_fs A 0 o (tI M o) (tT M o)).set 5 (.int v) = ti_fs A 0 o (tI (uI M o 5 v) o) (tT (uI M o 5 v) o) := by
  have e : v = tI (uI M o 5 v) o 5 := (tI_u M o 5 v).symm
  conv => lhs; rw [e]
  rfl
theorem fn_1 (A : Nat → Nat → Nat) (o : Nat) : ∀ I T, (ti_fs A 1 o I T).length = 4 := fun _ _ => rfl
theorem fs_1_3 {A : Nat → Nat → Nat} {o : Nat} {M : ti_M} {v : Int32} : (ti_fs A 1 o (tI M o) (tT M o)).set 3 (.int v) = ti_fs A 1 o (tI (uI M o 3 v) o) (tT (uI M o 3 v) o) := by
  have e : v = tI (uI M o 3 v) o 3 := (tI_u M o 3 v).symm
  conv => lhs; rw [e]
  rfl
theorem fn_2 (A : Nat → Nat → Nat) (o : Nat) : ∀ I T, (ti_fs A 2 o I T).length = 10 := fun _ _ => rfl
theorem fs_2_0 {A : Nat → Nat → Nat} {o : Nat} {M : ti_M} {v : Int32} : (ti_fs A 2 o (tI M o) (tT M o)).set 0 (.int v) = ti_fs A 2 o (tI (uI M o 0 v) o) (tT (uI M o 0 v) o) := by
  have e : v = tI (uI M o 0 v) o 0 := (tI_u M o 0 v).symm
  conv => lhs; rw [e]
  rfl
theorem fs_2_1 {A : Nat → Nat → Nat} {o : Nat} {M : ti_M} {v : Int32} : (ti_fs A 2 o (tI M o) (tT M o)).set 1 (.int v) = ti_fs A 2 o (tI (uI M o 1 v) o) (tT (uI M o 1 v) o) := by
  have e : v = tI (uI M o 1 v) o 1 := (tI_u M o 1 v).symm
  conv => lhs; rw [e]
  rfl
theorem fs_2_2 {A : Nat → Nat → Nat} {o : Nat} {M : ti_M} {v : Int32} : (ti_fs A 2 o (tI M o) (tT M o)).set 2 (.int v) = ti_fs A 2 o (tI (uI M o 2 v) o) (tT (uI M o 2 v) o) := by
  have e : v = tI (uI M o 2 v) o 2 := (tI_u M o 2 v).symm
  conv => lhs; rw [e]
  rfl
theorem fs_2_3 {A : Nat → Nat → Nat} {o : Nat} {M : ti_M} {v : Int32} : (ti_fs A 2 o (tI M o) (tT M o)).set 3 (.int v) = ti_fs A 2 o (tI (uI M o 3 v) o) (tT (uI M o 3 v) o) := by
  have e : v = tI (uI M o 3 v) o 3 := (tI_u M o 3 v).symm
  conv => lhs; rw [e]
  rfl
theorem fs_2_4 {A : Nat → Nat → Nat} {o : Nat} {M : ti_M} {v : Int32} : (ti_fs A 2 o (tI M o) (tT M o)).set 4 (.int v) = ti_fs A 2 o (tI (uI M o 4 v) o) (tT (uI M o 4 v) o) := by
  have e : v = tI (uI M o 4 v) o 4 := (tI_u M o 4 v).symm
  conv => lhs; rw [e]
  rfl
theorem fs_2_5 {A : Nat → Nat → Nat} {o : Nat} {M : ti_M} {v : Int32} : (ti_fs A 2 o (tI M o) (tT M o)).set 5 (.int v) = ti_fs A 2 o (tI (uI M o 5 v) o) (tT (uI M o 5 v) o) := by
  have e : v = tI (uI M o 5 v) o 5 := (tI_u M o 5 v).symm
  conv => lhs; rw [e]
  rfl
theorem fs_2_6 {A : Nat → Nat → Nat} {o : Nat} {M : ti_M} {v : Int32} : (ti_fs A 2 o (tI M o) (tT M o)).set 6 (.int v) = ti_fs A 2 o (tI (uI M o 6 v) o) (tT (uI M o 6 v) o) := by
  have e : v = tI (uI M o 6 v) o 6 := (tI_u M o 6 v).symm
  conv => lhs; rw [e]
  rfl
theorem fs_2_7 {A : Nat → Nat → Nat} {o : Nat} {M : ti_M} {v : Int32} : (ti_fs A 2 o (tI M o) (tT M o)).set 7 (.int v) = ti_fs A 2 o (tI (uI M o 7 v) o) (tT (uI M o 7 v) o) := by
  have e : v = tI (uI M o 7 v) o 7 := (tI_u M o 7 v).symm
  conv => lhs; rw [e]
  rfl
theorem fs_2_8 {A : Nat → Nat → Nat} {o : Nat} {M : ti_M} {v : Int32} : (ti_fs A 2 o (tI M o) (tT M o)).set 8 (.int v) = ti_fs A 2 o (tI (uI M o 8 v) o) (tT (uI M o 8 v) o) := by
  have e : v = tI (uI M o 8 v) o 8 := (tI_u M o 8 v).symm
  conv => lhs; rw [e]
  rfl
theorem fs_2_9 {A : Nat → Nat → Nat} {o : Nat} {M : ti_M} {v : Int32} : (ti_fs A 2 o (tI M o) (tT M o)).set 9 (.int v) = ti_fs A 2 o (tI (uI M o 9 v) o) (tT (uI M o 9 v) o) := by
  have e : v = tI (uI M o 9 v) o 9 := (tI_u M o 9 v).symm
  conv => lhs; rw [e]
  rfl
theorem fn_3 (A : Nat → Nat → Nat) (o : Nat) : ∀ I T, (ti_fs A 3 o I T).length = 17 := fun _ _ => rfl
theorem fs_3_0 {A : Nat → Nat → Nat} {o : Nat} {M : ti_M} {t : Nat} : (ti_fs A 3 o (tI M o) (tT M o)).set 0 (.ref (A t 0)) = ti_fs A 3 o (tI (uT M o 0 (some t)) o) (tT (uT M o 0 (some t)) o) := by
  have e : Value.ref (A t 0) = va_rf ((tT (uT M o 0 (some t)) o 0).map (fun t => A t 0)) := by rw [tT_u]; rfl
  rw [e]
  rfl
theorem fs_3_1 {A : Nat → Nat → Nat} {o : Nat} {M : ti_M} {v : Int32} : (ti_fs A 3 o (tI M o) (tT M o)).set 1 (.int v) = ti_fs A 3 o (tI (uI M o 1 v) o) (tT (uI M o 1 v) o) := by
  have e : v = tI (uI M o 1 v) o 1 := (tI_u M o 1 v).symm
  conv => lhs; rw [e]
  rfl
theorem fs_3_2 {A : Nat → Nat → Nat} {o : Nat} {M : ti_M} {v : Int32} : (ti_fs A 3 o (tI M o) (tT M o)).set 2 (.int v) = ti_fs A 3 o (tI (uI M o 2 v) o) (tT (uI M o 2 v) o) := by
  have e : v = tI (uI M o 2 v) o 2 := (tI_u M o 2 v).symm
  conv => lhs; rw [e]
  rfl
theorem fs_3_3 {A : Nat → Nat → Nat} {o : Nat} {M : ti_M} {v : Int32} : (ti_fs A 3 o (tI M o) (tT M o)).set 3 (.int v) = ti_fs A 3 o (tI (uI M o 3 v) o) (tT (uI M o 3 v) o) := by
  have e : v = tI (uI M o 3 v) o 3 := (tI_u M o 3 v).symm
  conv => lhs; rw [e]
  rfl
theorem fs_3_4 {A : Nat → Nat → Nat} {o : Nat} {M : ti_M} {v : Int32} : (ti_fs A 3 o (tI M o) (tT M o)).set 4 (.int v) = ti_fs A 3 o (tI (uI M o 4 v) o) (tT (uI M o 4 v) o) := by
  have e : v = tI (uI M o 4 v) o 4 := (tI_u M o 4 v).symm
  conv => lhs; rw [e]
  rfl
theorem fs_3_5 {A : Nat → Nat → Nat} {o : Nat} {M : ti_M} {v : Int32} : (ti_fs A 3 o (tI M o) (tT M o)).set 5 (.int v) = ti_fs A 3 o (tI (uI M o 5 v) o) (tT (uI M o 5 v) o) := by
  have e : v = tI (uI M o 5 v) o 5 := (tI_u M o 5 v).symm
  conv => lhs; rw [e]
  rfl
theorem fn_4 (A : Nat → Nat → Nat) (o : Nat) : ∀ I T, (ti_fs A 4 o I T).length = 6 := fun _ _ => rfl
theorem fs_4_1 {A : Nat → Nat → Nat} {o : Nat} {M : ti_M} {t : Nat} : (ti_fs A 4 o (tI M o) (tT M o)).set 1 (.ref (A t 0)) = ti_fs A 4 o (tI (uT M o 1 (some t)) o) (tT (uT M o 1 (some t)) o) := by
  have e : Value.ref (A t 0) = va_rf ((tT (uT M o 1 (some t)) o 1).map (fun t => A t 0)) := by rw [tT_u]; rfl
  rw [e]
  rfl
theorem fs_4_2 {A : Nat → Nat → Nat} {o : Nat} {M : ti_M} {t : Nat} : (ti_fs A 4 o (tI M o) (tT M o)).set 2 (.ref (A t 0)) = ti_fs A 4 o (tI (uT M o 2 (some t)) o) (tT (uT M o 2 (some t)) o) := by
  have e : Value.ref (A t 0) = va_rf ((tT (uT M o 2 (some t)) o 2).map (fun t => A t 0)) := by rw [tT_u]; rfl
  rw [e]
  rfl
theorem fs_4_3 {A : Nat → Nat → Nat} {o : Nat} {M : ti_M} {v : Int32} : (ti_fs A 4 o (tI M o) (tT M o)).set 3 (.int v) = ti_fs A 4 o (tI (uI M o 3 v) o) (tT (uI M o 3 v) o) := by
  have e : v = tI (uI M o 3 v) o 3 := (tI_u M o 3 v).symm
  conv => lhs; rw [e]
  rfl
theorem fs_4_4 {A : Nat → Nat → Nat} {o : Nat} {M : ti_M} {v : Int32} : (ti_fs A 4 o (tI M o) (tT M o)).set 4 (.int v) = ti_fs A 4 o (tI (uI M o 4 v) o) (tT (uI M o 4 v) o) := by
  have e : v = tI (uI M o 4 v) o 4 := (tI_u M o 4 v).symm
  conv => lhs; rw [e]
  rfl
theorem fs_4_5 {A : Nat → Nat → Nat} {o : Nat} {M : ti_M} {v : Int32} : (ti_fs A 4 o (tI M o) (tT M o)).set 5 (.int v) = ti_fs A 4 o (tI (uI M o 5 v) o) (tT (uI M o 5 v) o) := by
  have e : v = tI (uI M o 5 v) o 5 := (tI_u M o 5 v).symm
  conv => lhs; rw [e]
  rfl
theorem fn_5 (A : Nat → Nat → Nat) (o : Nat) : ∀ I T, (ti_fs A 5 o I T).length = 3 := fun _ _ => rfl
theorem fs_5_1 {A : Nat → Nat → Nat} {o : Nat} {M : ti_M} {v : Int32} : (ti_fs A 5 o (tI M o) (tT M o)).set 1 (.int v) = ti_fs A 5 o (tI (uI M o 1 v) o) (tT (uI M o 1 v) o) := by
  have e : v = tI (uI M o 1 v) o 1 := (tI_u M o 1 v).symm
  conv => lhs; rw [e]
  rfl
theorem fs_5_2 {A : Nat → Nat → Nat} {o : Nat} {M : ti_M} {v : Int32} : (ti_fs A 5 o (tI M o) (tT M o)).set 2 (.int v) = ti_fs A 5 o (tI (uI M o 2 v) o) (tT (uI M o 2 v) o) := by
  have e : v = tI (uI M o 2 v) o 2 := (tI_u M o 2 v).symm
  conv => lhs; rw [e]
  rfl
theorem fn_6 (A : Nat → Nat → Nat) (o : Nat) : ∀ I T, (ti_fs A 6 o I T).length = 13 := fun _ _ => rfl
theorem fs_6_4 {A : Nat → Nat → Nat} {o : Nat} {M : ti_M} {v : Int32} : (ti_fs A 6 o (tI M o) (tT M o)).set 4 (.int v) = ti_fs A 6 o (tI (uI M o 4 v) o) (tT (uI M o 4 v) o) := by
  have e : v = tI (uI M o 4 v) o 4 := (tI_u M o 4 v).symm
  conv => lhs; rw [e]
  rfl
theorem fs_6_5 {A : Nat → Nat → Nat} {o : Nat} {M : ti_M} {v : Int32} : (ti_fs A 6 o (tI M o) (tT M o)).set 5 (.int v) = ti_fs A 6 o (tI (uI M o 5 v) o) (tT (uI M o 5 v) o) := by
  have e : v = tI (uI M o 5 v) o 5 := (tI_u M o 5 v).symm
  conv => lhs; rw [e]
  rfl
theorem fs_6_6 {A : Nat → Nat → Nat} {o : Nat} {M : ti_M} {v : Int32} : (ti_fs A 6 o (tI M o) (tT M o)).set 6 (.int v) = ti_fs A 6 o (tI (uI M o 6 v) o) (tT (uI M o 6 v) o) := by
  have e : v = tI (uI M o 6 v) o 6 := (tI_u M o 6 v).symm
  conv => lhs; rw [e]
  rfl
theorem fs_6_7 {A : Nat → Nat → Nat} {o : Nat} {M : ti_M} {v : Int32} : (ti_fs A 6 o (tI M o) (tT M o)).set 7 (.int v) = ti_fs A 6 o (tI (uI M o 7 v) o) (tT (uI M o 7 v) o) := by
  have e : v = tI (uI M o 7 v) o 7 := (tI_u M o 7 v).symm
  conv => lhs; rw [e]
  rfl
theorem fs_6_10 {A : Nat → Nat → Nat} {o : Nat} {M : ti_M} {v : Int32} : (ti_fs A 6 o (tI M o) (tT M o)).set 10 (.int v) = ti_fs A 6 o (tI (uI M o 10 v) o) (tT (uI M o 10 v) o) := by
  have e : v = tI (uI M o 10 v) o 10 := (tI_u M o 10 v).symm
  conv => lhs; rw [e]
  rfl
theorem fn_7 (A : Nat → Nat → Nat) (o : Nat) : ∀ I T, (ti_fs A 7 o I T).length = 7 := fun _ _ => rfl
theorem fs_7_1 {A : Nat → Nat → Nat} {o : Nat} {M : ti_M} {v : Int32} : (ti_fs A 7 o (tI M o) (tT M o)).set 1 (.int v) = ti_fs A 7 o (tI (uI M o 1 v) o) (tT (uI M o 1 v) o) := by
  have e : v = tI (uI M o 1 v) o 1 := (tI_u M o 1 v).symm
  conv => lhs; rw [e]
  rfl
theorem fs_7_2 {A : Nat → Nat → Nat} {o : Nat} {M : ti_M} {v : Int32} : (ti_fs A 7 o (tI M o) (tT M o)).set 2 (.int v) = ti_fs A 7 o (tI (uI M o 2 v) o) (tT (uI M o 2 v) o) := by
  have e : v = tI (uI M o 2 v) o 2 := (tI_u M o 2 v).symm
  conv => lhs; rw [e]
  rfl
theorem fs_7_3 {A : Nat → Nat → Nat} {o : Nat} {M : ti_M} {v : Int32} : (ti_fs A 7 o (tI M o) (tT M o)).set 3 (.int v) = ti_fs A 7 o (tI (uI M o 3 v) o) (tT (uI M o 3 v) o) := by
  have e : v = tI (uI M o 3 v) o 3 := (tI_u M o 3 v).symm
  conv => lhs; rw [e]
  rfl
theorem fs_7_4 {A : Nat → Nat → Nat} {o : Nat} {M : ti_M} {v : Int32} : (ti_fs A 7 o (tI M o) (tT M o)).set 4 (.int v) = ti_fs A 7 o (tI (uI M o 4 v) o) (tT (uI M o 4 v) o) := by
  have e : v = tI (uI M o 4 v) o 4 := (tI_u M o 4 v).symm
  conv => lhs; rw [e]
  rfl
theorem fs_7_5 {A : Nat → Nat → Nat} {o : Nat} {M : ti_M} {v : Int32} : (ti_fs A 7 o (tI M o) (tT M o)).set 5 (.int v) = ti_fs A 7 o (tI (uI M o 5 v) o) (tT (uI M o 5 v) o) := by
  have e : v = tI (uI M o 5 v) o 5 := (tI_u M o 5 v).symm
  conv => lhs; rw [e]
  rfl
theorem fs_7_6 {A : Nat → Nat → Nat} {o : Nat} {M : ti_M} {v : Int32} : (ti_fs A 7 o (tI M o) (tT M o)).set 6 (.int v) = ti_fs A 7 o (tI (uI M o 6 v) o) (tT (uI M o 6 v) o) := by
  have e : v = tI (uI M o 6 v) o 6 := (tI_u M o 6 v).symm
  conv => lhs; rw [e]
  rfl
theorem fn_8 (A : Nat → Nat → Nat) (o : Nat) : ∀ I T, (ti_fs A 8 o I T).length = 12 := fun _ _ => rfl
theorem fs_8_3 {A : Nat → Nat → Nat} {o : Nat} {M : ti_M} {v : Int32} : (ti_fs A 8 o (tI M o) (tT M o)).set 3 (.int v) = ti_fs A 8 o (tI (uI M o 3 v) o) (tT (uI M o 3 v) o) := by
  have e : v = tI (uI M o 3 v) o 3 := (tI_u M o 3 v).symm
  conv => lhs; rw [e]
  rfl
theorem fs_8_4 {A : Nat → Nat → Nat} {o : Nat} {M : ti_M} {v : Int32} : (ti_fs A 8 o (tI M o) (tT M o)).set 4 (.int v) = ti_fs A 8 o (tI (uI M o 4 v) o) (tT (uI M o 4 v) o) := by
  have e : v = tI (uI M o 4 v) o 4 := (tI_u M o 4 v).symm
  conv => lhs; rw [e]
  rfl
theorem fs_8_5 {A : Nat → Nat → Nat} {o : Nat} {M : ti_M} {v : Int32} : (ti_fs A 8 o (tI M o) (tT M o)).set 5 (.int v) = ti_fs A 8 o (tI (uI M o 5 v) o) (tT (uI M o 5 v) o) := by
  have e : v = tI (uI M o 5 v) o 5 := (tI_u M o 5 v).symm
  conv => lhs; rw [e]
  rfl
theorem fs_8_6 {A : Nat → Nat → Nat} {o : Nat} {M : ti_M} {v : Int32} : (ti_fs A 8 o (tI M o) (tT M o)).set 6 (.int v) = ti_fs A 8 o (tI (uI M o 6 v) o) (tT (uI M o 6 v) o) := by
  have e : v = tI (uI M o 6 v) o 6 := (tI_u M o 6 v).symm
  conv => lhs; rw [e]
  rfl
theorem fs_8_7 {A : Nat → Nat → Nat} {o : Nat} {M : ti_M} {v : Int32} : (ti_fs A 8 o (tI M o) (tT M o)).set 7 (.int v) = ti_fs A 8 o (tI (uI M o 7 v) o) (tT (uI M o 7 v) o) := by
  have e : v = tI (uI M o 7 v) o 7 := (tI_u M o 7 v).symm
  conv => lhs; rw [e]
  rfl
theorem fs_8_8 {A : Nat → Nat → Nat} {o : Nat} {M : ti_M} {v : Int32} : (ti_fs A 8 o (tI M o) (tT M o)).set 8 (.int v) = ti_fs A 8 o (tI (uI M o 8 v) o) (tT (uI M o 8 v) o) := by
  have e : v = tI (uI M o 8 v) o 8 := (tI_u M o 8 v).symm
  conv => lhs; rw [e]
  rfl
theorem fs_8_9 {A : Nat → Nat → Nat} {o : Nat} {M : ti_M} {v : Int32} : (ti_fs A 8 o (tI M o) (tT M o)).set 9 (.int v) = ti_fs A 8 o (tI (uI M o 9 v) o) (tT (uI M o 9 v) o) := by
  have e : v = tI (uI M o 9 v) o 9 := (tI_u M o 9 v).symm
  conv => lhs; rw [e]
  rfl
theorem fs_8_10 {A : Nat → Nat → Nat} {o : Nat} {M : ti_M} {v : Int32} : (ti_fs A 8 o (tI M o) (tT M o)).set 10 (.int v) = ti_fs A 8 o (tI (uI M o 10 v) o) (tT (uI M o 10 v) o) := by
  have e : v = tI (uI M o 10 v) o 10 := (tI_u M o 10 v).symm
  conv => lhs; rw [e]
  rfl
theorem fs_8_11 {A : Nat → Nat → Nat} {o : Nat} {M : ti_M} {v : Int32} : (ti_fs A 8 o (tI M o) (tT M o)).set 11 (.int v) = ti_fs A 8 o (tI (uI M o 11 v) o) (tT (uI M o 11 v) o) := by
  have e : v = tI (uI M o 11 v) o 11 := (tI_u M o 11 v).symm
  conv => lhs; rw [e]
  rfl
theorem fn_9 (A : Nat → Nat → Nat) (o : Nat) : ∀ I T, (ti_fs A 9 o I T).length = 10 := fun _ _ => rfl
theorem fs_9_1 {A : Nat → Nat → Nat} {o : Nat} {M : ti_M} {t : Nat} : (ti_fs A 9 o (tI M o) (tT M o)).set 1 (.ref (A t 0)) = ti_fs A 9 o (tI (uT M o 1 (some t)) o) (tT (uT M o 1 (some t)) o) := by
  have e : Value.ref (A t 0) = va_rf ((tT (uT M o 1 (some t)) o 1).map (fun t => A t 0)) := by rw [tT_u]; rfl
  rw [e]
  rfl
theorem fs_9_2 {A : Nat → Nat → Nat} {o : Nat} {M : ti_M} {t : Nat} : (ti_fs A 9 o (tI M o) (tT M o)).set 2 (.ref (A t 0)) = ti_fs A 9 o (tI (uT M o 2 (some t)) o) (tT (uT M o 2 (some t)) o) := by
  have e : Value.ref (A t 0) = va_rf ((tT (uT M o 2 (some t)) o 2).map (fun t => A t 0)) := by rw [tT_u]; rfl
  rw [e]
  rfl
theorem fs_9_7 {A : Nat → Nat → Nat} {o : Nat} {M : ti_M} {v : Int32} : (ti_fs A 9 o (tI M o) (tT M o)).set 7 (.int v) = ti_fs A 9 o (tI (uI M o 7 v) o) (tT (uI M o 7 v) o) := by
  have e : v = tI (uI M o 7 v) o 7 := (tI_u M o 7 v).symm
  conv => lhs; rw [e]
  rfl
theorem fn_10 (A : Nat → Nat → Nat) (o : Nat) : ∀ I T, (ti_fs A 10 o I T).length = 67 := fun _ _ => rfl
theorem fs_10_0 {A : Nat → Nat → Nat} {o : Nat} {M : ti_M} {v : Int32} : (ti_fs A 10 o (tI M o) (tT M o)).set 0 (.int v) = ti_fs A 10 o (tI (uI M o 0 v) o) (tT (uI M o 0 v) o) := by
  have e : v = tI (uI M o 0 v) o 0 := (tI_u M o 0 v).symm
  conv => lhs; rw [e]
  rfl
theorem fs_10_2 {A : Nat → Nat → Nat} {o : Nat} {M : ti_M} {v : Int32} : (ti_fs A 10 o (tI M o) (tT M o)).set 2 (.int v) = ti_fs A 10 o (tI (uI M o 2 v) o) (tT (uI M o 2 v) o) := by
  have e : v = tI (uI M o 2 v) o 2 := (tI_u M o 2 v).symm
  conv => lhs; rw [e]
  rfl
theorem fs_10_18 {A : Nat → Nat → Nat} {o : Nat} {M : ti_M} {v : Int32} : (ti_fs A 10 o (tI M o) (tT M o)).set 18 (.int v) = ti_fs A 10 o (tI (uI M o 18 v) o) (tT (uI M o 18 v) o) := by
  have e : v = tI (uI M o 18 v) o 18 := (tI_u M o 18 v).symm
  conv => lhs; rw [e]
  rfl
theorem fs_10_19 {A : Nat → Nat → Nat} {o : Nat} {M : ti_M} {v : Int32} : (ti_fs A 10 o (tI M o) (tT M o)).set 19 (.int v) = ti_fs A 10 o (tI (uI M o 19 v) o) (tT (uI M o 19 v) o) := by
  have e : v = tI (uI M o 19 v) o 19 := (tI_u M o 19 v).symm
  conv => lhs; rw [e]
  rfl
theorem fs_10_20 {A : Nat → Nat → Nat} {o : Nat} {M : ti_M} {v : Int32} : (ti_fs A 10 o (tI M o) (tT M o)).set 20 (.int v) = ti_fs A 10 o (tI (uI M o 20 v) o) (tT (uI M o 20 v) o) := by
  have e : v = tI (uI M o 20 v) o 20 := (tI_u M o 20 v).symm
  conv => lhs; rw [e]
  rfl
theorem fs_10_21 {A : Nat → Nat → Nat} {o : Nat} {M : ti_M} {v : Int32} : (ti_fs A 10 o (tI M o) (tT M o)).set 21 (.int v) = ti_fs A 10 o (tI (uI M o 21 v) o) (tT (uI M o 21 v) o) := by
  have e : v = tI (uI M o 21 v) o 21 := (tI_u M o 21 v).symm
  conv => lhs; rw [e]
  rfl
theorem fs_10_22 {A : Nat → Nat → Nat} {o : Nat} {M : ti_M} {v : Int32} : (ti_fs A 10 o (tI M o) (tT M o)).set 22 (.int v) = ti_fs A 10 o (tI (uI M o 22 v) o) (tT (uI M o 22 v) o) := by
  have e : v = tI (uI M o 22 v) o 22 := (tI_u M o 22 v).symm
  conv => lhs; rw [e]
  rfl
theorem fs_10_23 {A : Nat → Nat → Nat} {o : Nat} {M : ti_M} {v : Int32} : (ti_fs A 10 o (tI M o) (tT M o)).set 23 (.int v) = ti_fs A 10 o (tI (uI M o 23 v) o) (tT (uI M o 23 v) o) := by
  have e : v = tI (uI M o 23 v) o 23 := (tI_u M o 23 v).symm
  conv => lhs; rw [e]
  rfl
theorem fs_10_24 {A : Nat → Nat → Nat} {o : Nat} {M : ti_M} {v : Int32} : (ti_fs A 10 o (tI M o) (tT M o)).set 24 (.int v) = ti_fs A 10 o (tI (uI M o 24 v) o) (tT (uI M o 24 v) o) := by
  have e : v = tI (uI M o 24 v) o 24 := (tI_u M o 24 v).symm
  conv => lhs; rw [e]
  rfl
theorem fs_10_25 {A : Nat → Nat → Nat} {o : Nat} {M : ti_M} {v : Int32} : (ti_fs A 10 o (tI M o) (tT M o)).set 25 (.int v) = ti_fs A 10 o (tI (uI M o 25 v) o) (tT (uI M o 25 v) o) := by
  have e : v = tI (uI M o 25 v) o 25 := (tI_u M o 25 v).symm
  conv => lhs; rw [e]
  rfl
theorem fs_10_26 {A : Nat → Nat → Nat} {o : Nat} {M : ti_M} {v : Int32} : (ti_fs A 10 o (tI M o) (tT M o)).set 26 (.int v) = ti_fs A 10 o (tI (uI M o 26 v) o) (tT (uI M o 26 v) o) := by
  have e : v = tI (uI M o 26 v) o 26 := (tI_u M o 26 v).symm
  conv => lhs; rw [e]
  rfl
theorem fs_10_27 {A : Nat → Nat → Nat} {o : Nat} {M : ti_M} {v : Int32} : (ti_fs A 10 o (tI M o) (tT M o)).set 27 (.int v) = ti_fs A 10 o (tI (uI M o 27 v) o) (tT (uI M o 27 v) o) := by
  have e : v = tI (uI M o 27 v) o 27 := (tI_u M o 27 v).symm
  conv => lhs; rw [e]
  rfl
theorem fs_10_28 {A : Nat → Nat → Nat} {o : Nat} {M : ti_M} {v : Int32} : (ti_fs A 10 o (tI M o) (tT M o)).set 28 (.int v) = ti_fs A 10 o (tI (uI M o 28 v) o) (tT (uI M o 28 v) o) := by
  have e : v = tI (uI M o 28 v) o 28 := (tI_u M o 28 v).symm
  conv => lhs; rw [e]
  rfl
theorem fs_10_29 {A : Nat → Nat → Nat} {o : Nat} {M : ti_M} {v : Int32} : (ti_fs A 10 o (tI M o) (tT M o)).set 29 (.int v) = ti_fs A 10 o (tI (uI M o 29 v) o) (tT (uI M o 29 v) o) := by
  have e : v = tI (uI M o 29 v) o 29 := (tI_u M o 29 v).symm
  conv => lhs; rw [e]
  rfl
theorem fs_10_30 {A : Nat → Nat → Nat} {o : Nat} {M : ti_M} {v : Int32} : (ti_fs A 10 o (tI M o) (tT M o)).set 30 (.int v) = ti_fs A 10 o (tI (uI M o 30 v) o) (tT (uI M o 30 v) o) := by
  have e : v = tI (uI M o 30 v) o 30 := (tI_u M o 30 v).symm
  conv => lhs; rw [e]
  rfl
theorem fs_10_33 {A : Nat → Nat → Nat} {o : Nat} {M : ti_M} {v : Int32} : (ti_fs A 10 o (tI M o) (tT M o)).set 33 (.int v) = ti_fs A 10 o (tI (uI M o 33 v) o) (tT (uI M o 33 v) o) := by
  have e : v = tI (uI M o 33 v) o 33 := (tI_u M o 33 v).symm
  conv => lhs; rw [e]
  rfl
theorem fs_10_51 {A : Nat → Nat → Nat} {o : Nat} {M : ti_M} {v : Int32} : (ti_fs A 10 o (tI M o) (tT M o)).set 51 (.int v) = ti_fs A 10 o (tI (uI M o 51 v) o) (tT (uI M o 51 v) o) := by
  have e : v = tI (uI M o 51 v) o 51 := (tI_u M o 51 v).symm
  conv => lhs; rw [e]
  rfl
theorem fs_10_52 {A : Nat → Nat → Nat} {o : Nat} {M : ti_M} {v : Int32} : (ti_fs A 10 o (tI M o) (tT M o)).set 52 (.int v) = ti_fs A 10 o (tI (uI M o 52 v) o) (tT (uI M o 52 v) o) := by
  have e : v = tI (uI M o 52 v) o 52 := (tI_u M o 52 v).symm
  conv => lhs; rw [e]
  rfl
theorem fs_10_53 {A : Nat → Nat → Nat} {o : Nat} {M : ti_M} {v : Int32} : (ti_fs A 10 o (tI M o) (tT M o)).set 53 (.int v) = ti_fs A 10 o (tI (uI M o 53 v) o) (tT (uI M o 53 v) o) := by
  have e : v = tI (uI M o 53 v) o 53 := (tI_u M o 53 v).symm
  conv => lhs; rw [e]
  rfl
theorem fs_10_56 {A : Nat → Nat → Nat} {o : Nat} {M : ti_M} {v : Int32} : (ti_fs A 10 o (tI M o) (tT M o)).set 56 (.int v) = ti_fs A 10 o (tI (uI M o 56 v) o) (tT (uI M o 56 v) o) := by
  have e : v = tI (uI M o 56 v) o 56 := (tI_u M o 56 v).symm
  conv => lhs; rw [e]
  rfl
theorem fs_10_58 {A : Nat → Nat → Nat} {o : Nat} {M : ti_M} {v : Int32} : (ti_fs A 10 o (tI M o) (tT M o)).set 58 (.int v) = ti_fs A 10 o (tI (uI M o 58 v) o) (tT (uI M o 58 v) o) := by
  have e : v = tI (uI M o 58 v) o 58 := (tI_u M o 58 v).symm
  conv => lhs; rw [e]
  rfl
theorem fs_10_59 {A : Nat → Nat → Nat} {o : Nat} {M : ti_M} {v : Int32} : (ti_fs A 10 o (tI M o) (tT M o)).set 59 (.int v) = ti_fs A 10 o (tI (uI M o 59 v) o) (tT (uI M o 59 v) o) := by
  have e : v = tI (uI M o 59 v) o 59 := (tI_u M o 59 v).symm
  conv => lhs; rw [e]
  rfl
theorem fs_10_65 {A : Nat → Nat → Nat} {o : Nat} {M : ti_M} {v : Int32} : (ti_fs A 10 o (tI M o) (tT M o)).set 65 (.int v) = ti_fs A 10 o (tI (uI M o 65 v) o) (tT (uI M o 65 v) o) := by
  have e : v = tI (uI M o 65 v) o 65 := (tI_u M o 65 v).symm
  conv => lhs; rw [e]
  rfl
theorem fs_10_66 {A : Nat → Nat → Nat} {o : Nat} {M : ti_M} {v : Int32} : (ti_fs A 10 o (tI M o) (tT M o)).set 66 (.int v) = ti_fs A 10 o (tI (uI M o 66 v) o) (tT (uI M o 66 v) o) := by
  have e : v = tI (uI M o 66 v) o 66 := (tI_u M o 66 v).symm
  conv => lhs; rw [e]
  rfl
end
section
section
variable {p : Program} {l : Launch} {e : Env} {R : Room} {s : State} {m : MethodId} {args : Array Value} {below : List Frame} {meth : Method} {c : Code} {H H0 : Heap} {locs : List Loc} {cells slots : Nat} {Q : State → Prop} {pc : Nat} {ls : Array Slot} {rest : List Value} {cc : ByteArray} {own : String} {nL : Nat} {D : va_G} {cy : Nat → ClassId} {Ls : List (Nat × Nat)} {A : Nat → Nat → Nat} {M : ti_M}
theorem ti_eI {y : MethodName} {n k : Nat} {ty : FieldType} {av : List Value} {post : Int32 → ti_M → Prop} (hy : plainName y.cls = true) (hJ : ti_inj Ls A) (hN : Ls.Nodup) (hav : (lg_sl av).length ≤ n)
    (body : ∀ (p : Program) (e : Env) (s : State) (m : MethodId) (args : Array Value) (below : List Frame) (meth : Method) (c : Code) (Q : State → Prop) (H0 : Heap), ti_C p s m c args cc y.cls n D cy Ls A →
      (∀ (v : Int32) (M2 : ti_M) (H2 : Heap) (locs2 : List Loc) (pc : Nat) (ls : Array Slot), ti_H Ls D A cy H0 M2 H2 locs2 → narrow ty (.int v) = .int v → post v M2 → decode cc pc = .ok (.ireturn, 1) → W p l e (ti_rm k) s m args below meth c H2 locs2 0 0 Q (F0 m pc ls [.int v])) →
      ti_H Ls D A cy H0 M H0 [] → ∀ ls : Array Slot, lv_has ls n (lv_args 0 av) → W p l e (ti_rm k) s m args below meth c H0 [] 0 0 Q (F0 m 0 ls [])) : ti_Ki l y cc n (some ty) k Ls D A cy M av post := by
  refine ti_enterI hy hJ hN hav ?_
  intro p e s m below meth c C hr hlk hw ls hl
  exact body p e s m av.toArray below meth c _ s.heap C (fun v M2 H2 locs2 pc ls hw2 hn hq hdg => ti_iret C hr hlk hw2 hn hq hdg) hw ls hl
theorem ti_eL {y : MethodName} {n k : Nat} {av : List Value} {post : Int64 → ti_M → Prop} (hy : plainName y.cls = true) (hJ : ti_inj Ls A) (hN : Ls.Nodup) (hav : (lg_sl av).length ≤ n)
    (body : ∀ (p : Program) (e : Env) (s : State) (m : MethodId) (args : Array Value) (below : List Frame) (meth : Method) (c : Code) (Q : State → Prop) (H0 : Heap), ti_C p s m c args cc y.cls n D cy Ls A →
      (∀ (v : Int64) (M2 : ti_M) (H2 : Heap) (locs2 : List Loc) (pc : Nat) (ls : Array Slot), ti_H Ls D A cy H0 M2 H2 locs2 → post v M2 → decode cc pc = .ok (.lreturn, 1) → W p l e (ti_rm k) s m args below meth c H2 locs2 0 0 Q (F0 m pc ls [.long v])) →
      ti_H Ls D A cy H0 M H0 [] → ∀ ls : Array Slot, lv_has ls n (lv_args 0 av) → W p l e (ti_rm k) s m args below meth c H0 [] 0 0 Q (F0 m 0 ls [])) : ti_Kl l y cc n (some .long) k Ls D A cy M av post := by
  refine ti_enterL hy hJ hN hav ?_
  intro p e s m below meth c C hr hlk hw ls hl
  exact body p e s m av.toArray below meth c _ s.heap C (fun v M2 H2 locs2 pc ls hw2 hq hdg => ti_lret C hr hlk hw2 hq hdg) hw ls hl
theorem ti_eV {y : MethodName} {n k : Nat} {av : List Value} {post : ti_M → Prop} (hy : plainName y.cls = true) (hJ : ti_inj Ls A) (hN : Ls.Nodup) (hav : (lg_sl av).length ≤ n)
    (body : ∀ (p : Program) (e : Env) (s : State) (m : MethodId) (args : Array Value) (below : List Frame) (meth : Method) (c : Code) (Q : State → Prop) (H0 : Heap), ti_C p s m c args cc y.cls n D cy Ls A →
      (∀ (M2 : ti_M) (H2 : Heap) (locs2 : List Loc) (pc : Nat) (ls : Array Slot), ti_H Ls D A cy H0 M2 H2 locs2 → post M2 → decode cc pc = .ok (.return_, 1) → W p l e (ti_rm k) s m args below meth c H2 locs2 0 0 Q (F0 m pc ls [])) →
      ti_H Ls D A cy H0 M H0 [] → ∀ ls : Array Slot, lv_has ls n (lv_args 0 av) → W p l e (ti_rm k) s m args below meth c H0 [] 0 0 Q (F0 m 0 ls [])) : ti_Kv l y cc n k Ls D A cy M av post := by
  refine ti_enterV hy hJ hN hav ?_
  intro p e s m below meth c C hr hlk hw ls hl
  exact body p e s m av.toArray below meth c _ s.heap C (fun M2 H2 locs2 pc ls hw2 hq hdg => ti_vret C hr hlk hw2 hq hdg) hw ls hl
theorem ti_top {x y : Int32} (h : x = y) (kk : W p l e R s m args below meth c H locs cells slots Q (F0 m pc ls (.int y :: rest))) : W p l e R s m args below meth c H locs cells slots Q (F0 m pc ls (.int x :: rest)) := h ▸ kk
theorem ti_topv {x y : Value} (h : x = y) (kk : W p l e R s m args below meth c H locs cells slots Q (F0 m pc ls (y :: rest))) : W p l e R s m args below meth c H locs cells slots Q (F0 m pc ls (x :: rest)) := h ▸ kk
theorem ti_min {idx : Nat} (C : ti_C p s m c args cc own nL D cy Ls A) (hm : Cond.methodLink own idx yJ9_min_7cf53 ∈ lw_g) (hsz : ls.size = nL) (hfr : 1 ≤ R.frames) (hlo : (rest.map fun v => v.category).sum + 13 ≤ R.locals) (hcs : cells ≤ R.cells ∧ slots ≤ R.slots) {x y : Int32} (hdg : decode cc pc = .ok (.invokestatic idx, 3))
    (kk : W p l e R s m args below meth c H locs cells slots Q (F0 m (pc + 3) ls (.int (if y < x then y else x) :: rest))) : W p l e R s m args below meth c H locs cells slots Q (F0 m pc ls (.int y :: .int x :: rest)) :=
  va_mmin C.1 C.2.1 (by rw [C.2.2.2.2.2.1, hsz]) C.2.2.2.1 (C.2.2.1 _ hm) (C.2.2.1 _ ys_J9_min_7cf53) (C.2.2.1 _ yi_J9_min_7cf53) (C.2.2.1 _ yc_J9_min_7cf53) hfr hlo hcs.1 hcs.2 hdg kk
theorem ti_max {idx : Nat} (C : ti_C p s m c args cc own nL D cy Ls A) (hm : Cond.methodLink own idx yJ9_max_7cf53 ∈ lw_g) (hsz : ls.size = nL) (hfr : 1 ≤ R.frames) (hlo : (rest.map fun v => v.category).sum + 13 ≤ R.locals) (hcs : cells ≤ R.cells ∧ slots ≤ R.slots) {x y : Int32} (hdg : decode cc pc = .ok (.invokestatic idx, 3))
    (kk : W p l e R s m args below meth c H locs cells slots Q (F0 m (pc + 3) ls (.int (if x < y then y else x) :: rest))) : W p l e R s m args below meth c H locs cells slots Q (F0 m pc ls (.int y :: .int x :: rest)) :=
  va_mmax C.1 C.2.1 (by rw [C.2.2.2.2.2.1, hsz]) C.2.2.2.1 (C.2.2.1 _ hm) (C.2.2.1 _ ys_J9_max_7cf53) (C.2.2.1 _ yi_J9_max_7cf53) (C.2.2.1 _ yc_J9_max_7cf53) hfr hlo hcs.1 hcs.2 hdg kk
theorem ti_alen {ci o k n : Nat} {t0 : Nat} {ty : FieldType} (C : ti_C p s m c args cc own nL D cy Ls A) (hw : ti_H Ls D A cy H0 M H locs) (hob : ti_ob Ls o ci) (hj : k + 1 ∈ ti_parts ci) (har : ∀ f g, (ti_ar A cy ci o k f g).1 = cy t0 ∧ (ti_ar A cy ci o k f g).2.1 = n) (ht : (ti_ty cy)[t0]? = some (cy t0, ty)) {v : Int32} (hv : Int32.ofNat n = v) (hdg : decode cc pc = .ok (.arraylength, 1))
    (kk : W p l e R s m args below meth c H locs cells slots Q (F0 m (pc + 1) ls (.int v :: rest))) : W p l e R s m args below meth c H locs cells slots Q (F0 m pc ls (.ref (A o (k + 1)) :: rest)) := by
  obtain ⟨q, hq⟩ := ti_obG hob (k + 1) hj
  have h1 := har (tY M o k) (tZ M o k)
  exact va_alen (cA := cy t0) (x := (ti_ar A cy ci o k (tY M o k) (tZ M o k)).2) C.1 C.2.1 C.2.2.2.2.1 hw.1 q t0 (by rw [ti_W_at hq]; simp only [ti_G, hob.1]; rw [← h1.1]) ht (by rw [h1.2]; exact hv) hdg kk
theorem ti_copy {idx o1 k1 c1 n1 o2 k2 c2 n2 : Nat} (C : ti_C p s m c args cc own nL D cy Ls A) (hw : ti_H Ls D A cy H0 M H locs) (hm : Cond.methodLink own idx arraycopyName ∈ lw_g) (hnat : Cond.native arraycopyName ∈ lw_g) (hsta : Cond.static arraycopyName ∈ lw_g) (hini : Cond.initialized "java/lang/System" ∈ lw_g)
    (hob1 : ti_ob Ls o1 c1) (hj1 : k1 + 1 ∈ ti_parts c1) (har1 : ∀ f g, ti_ar A cy c1 o1 k1 f g = (cy 1, n1, .inl f)) (hob2 : ti_ob Ls o2 c2) (hj2 : k2 + 1 ∈ ti_parts c2) (har2 : ∀ f g, ti_ar A cy c2 o2 k2 f g = (cy 1, n2, .inl f)) (hsz : ls.size = nL) {sp dp n : Int32} (h1 : ¬ sp < 0) (h2 : ¬ dp < 0) (h3 : ¬ n < 0) (h4 : sp.toNatClampNeg + n.toNatClampNeg ≤ n1) (h5 : dp.toNatClampNeg + n.toNatClampNeg ≤ n2)
    (hfr : 1 ≤ R.frames) (hlo : (rest.map fun v => v.category).sum + (nativeFrameWords "java/lang/System" "arraycopy" 5 + 11) ≤ R.locals) (hdg : decode cc pc = .ok (.invokestatic idx, 3))
    (kk : ∀ (H1 : Heap) (locs1 : List Loc), ti_H Ls D A cy H0 (uY M o2 k2 (va_cpy (tY M o1 k1) (tY M o2 k2) sp.toNatClampNeg dp.toNatClampNeg n.toNatClampNeg)) H1 locs1 → W p l e R s m args below meth c H1 locs1 cells slots Q (F0 m (pc + 3) ls rest)) : W p l e R s m args below meth c H locs cells slots Q (F0 m pc ls (.int n :: .int dp :: .ref (A o2 (k2 + 1)) :: .int sp :: .ref (A o1 (k1 + 1)) :: rest)) := by
  obtain ⟨q1, hq1⟩ := ti_obG hob1 (k1 + 1) hj1
  obtain ⟨q2, hq2⟩ := ti_obG hob2 (k2 + 1) hj2
  refine va_copyi (c0 := cy 1) (c1 := cy 1) (n0 := n1) (n1 := n2) (f := tY M o1 k1) (g := tY M o2 k2) (ty := .int) C.1 C.2.1 (by rw [C.2.2.2.2.2.1, hsz]) C.2.2.2.1 (C.2.2.1 _ hm) (C.2.2.1 _ hnat) (C.2.2.1 _ hsta) (C.2.2.1 _ hini) C.2.2.2.2.1 hw.1 (ti_W_D C.2.2.2.2.2.2.1 cy M) hw.2 q1 q2 1 1 (by rw [ti_W_at hq1]; simp only [ti_G, hob1.1, har1]) (by rw [ti_W_at hq2]; simp only [ti_G, hob2.1, har2]) rfl rfl rfl h1 h2 h3 h4 h5 (fun _ _ => rfl) hfr hlo hdg ?_
  intro H1 locs1 hP hD hS
  refine kk H1 locs1 ⟨?_, hS⟩
  have e : (ti_W Ls A cy M).set q2 (A o2 (k2 + 1), ti_G A cy (uY M o2 k2 (va_cpy (tY M o1 k1) (tY M o2 k2) sp.toNatClampNeg dp.toNatClampNeg n.toNatClampNeg)) o2 (k2 + 1)) = ti_W Ls A cy (uY M o2 k2 (va_cpy (tY M o1 k1) (tY M o2 k2) sp.toNatClampNeg dp.toNatClampNeg n.toNatClampNeg)) := ti_W_set C.2.2.2.2.2.2.2 hq2 (fun r2 h2 => ti_G_uY r2 h2)
  rw [← e]
  simpa only [ti_G, hob2.1, har2, tY_u] using hP
end
theorem uY_eta (M : ti_M) (o k : Nat) : uY M o k (tY M o k) = M := by
  obtain ⟨a, b, c, d⟩ := M
  simp only [uY, tY, Prod.mk.injEq, true_and, and_true]
  funext o2 k2
  simp only [up2]
  by_cases h : k2 = k ∧ o2 = o
  · rw [if_pos h, h.1, h.2]
  · rw [if_neg h]
theorem ti_out {lo hi : Int} (x : Int32) (h : ∀ v : Int, lo ≤ v → v ≤ hi → ¬ x.toInt = v) : x.toInt < lo ∨ hi < x.toInt := by
  rcases Int.lt_or_le x.toInt lo with h1 | h1
  · exact Or.inl h1
  · rcases Int.lt_or_le hi x.toInt with h2 | h2
    · exact Or.inr h2
    · exact absurd rfl (h _ h1 h2)
theorem ti_nev {x : Int32} (n : Int32) {v : Int} (h : ¬ x = n) (hv : n.toInt = v) : ¬ x.toInt = v := fun e => h (Int32.toInt_inj.mp (by rw [e, hv]))
theorem ti_lk (dflt : Int) (x : Int) : ∀ (ps : List (Int × Int)), (∀ q ∈ ps, ¬ x = q.1) → Op.lookupswitch.offset ps dflt x = dflt := by
  intro ps
  induction ps with
  | nil => intro _; rfl
  | cons a l ih =>
    intro h
    have h1 : ¬ a.1 = x := fun e => h a List.mem_cons_self e.symm
    have h2 := ih (fun q hq => h q (List.mem_cons_of_mem _ hq))
    obtain ⟨a1, a2⟩ := a
    show (if a1 = x then a2 else Op.lookupswitch.offset l dflt x) = dflt
    rw [if_neg h1, h2]
end
section
/-- what lasts over most calls: the class's tape and stones; the reference's tape, last fault, stones -/
abbrev gC : Type := (Nat → Int32) × Int32 × Int32 × (Nat → Int32) × (Nat → Int32) × (Nat → Int32) × (Nat → Int32)
abbrev gM : Type := (Nat → Int32) × Int32 × Int32 × Int32 × Int32 × (Nat → Int32) × (Nat → Int32) × (Nat → Int32) × (Nat → Int32)
end

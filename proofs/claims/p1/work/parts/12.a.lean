set_option maxHeartbeats 4000000 in
set_option maxRecDepth 100000 in
theorem k_X3_copy (l : Launch) (D : va_G) (A : Nat → Nat → Nat) (cy : Nat → ClassId) (hJ : ti_inj ti_LT A) (M : ti_M) (a b t : Nat) (ha : ti_ob ti_LT a 3) (hb1 : ti_ob ti_LT b 3) (hT : tT M b 0 = some t) (hab : a ≠ b) : ti_Kv l yX3_copy cX3_copy 2 1 ti_LT D A cy M [.ref (A a 0), .ref (A b 0)] (fun M2 => tI M2 a 1 = tI M b 1 ∧ tI M2 a 2 = tI M b 2 ∧ tI M2 a 3 = tI M b 3 ∧ tI M2 a 4 = tI M b 4 ∧ tI M2 a 5 = tI M b 5 ∧ tT M2 a 0 = tT M b 0 ∧ (∀ o k, o ≠ a → tI M2 o k = tI M o k) ∧ (∀ o k, o ≠ a → tT M2 o k = tT M o k) ∧ (∀ o k, o ≠ a → tY M2 o k = tY M o k)) := by
  refine ti_eV yp_X3_copy hJ ti_LT_nd (Nat.le_of_ble_eq_true rfl) ?_
  intro p e s m args below meth c Q H0 C hQ hw ls hl
  have hx := C.1
  have hb := C.2.1
  have hl : lv_has ls 2 [(0, .ref (A a 0)), (1, .ref (A b 0))] := hl
  refine lv_aload_n hx hb dX3_copy_0 rfl (lv_at hl 0 rfl) ?_
  refine lv_aload_n hx hb dX3_copy_1 rfl (lv_at hl 1 rfl) ?_
  refine ti_get (ci := 3) (k := 0) (N := 17) (T := TX3) (v := .ref (A t 0)) C hw iw_3 rfl hb1 (by decide) (by decide) fl_X3_45 rfl (ti_Tv hT) dX3_copy_2 ?_
  refine ti_putT (ci := 3) (k := 0) (N := 17) (T := TX3) C hw iw_3 tyX3 tyX3_ok nmX3 rfl ha (by decide) (by decide) fl_X3_45 rfl rfl rfl rfl (fn_3 A _) fs_3_0 dX3_copy_5 (fun H locs hw => ?_)
  refine lv_aload_n hx hb dX3_copy_8 rfl (lv_at hl 0 rfl) ?_
  refine lv_aload_n hx hb dX3_copy_9 rfl (lv_at hl 1 rfl) ?_
  refine ti_get (ci := 3) (k := 1) (N := 17) (T := TX3) C hw iw_3 rfl hb1 (by decide) (by decide) fl_X3_49 rfl rfl dX3_copy_10 ?_
  refine lv_topi (fun x_1 ex_1 => ?_)
  refine ti_putI (ci := 3) (k := 1) (N := 17) (T := TX3) C hw iw_3 tyX3 tyX3_ok nmX3 rfl ha (by decide) (by decide) fl_X3_49 rfl rfl rfl rfl (fn_3 A _) fs_3_1 dX3_copy_13 (fun H locs hw => ?_)
  refine lv_aload_n hx hb dX3_copy_16 rfl (lv_at hl 0 rfl) ?_
  refine lv_aload_n hx hb dX3_copy_17 rfl (lv_at hl 1 rfl) ?_
  refine ti_get (ci := 3) (k := 2) (N := 17) (T := TX3) C hw iw_3 rfl hb1 (by decide) (by decide) fl_X3_53 rfl rfl dX3_copy_18 ?_
  refine lv_topi (fun x_2 ex_2 => ?_)
  refine ti_putI (ci := 3) (k := 2) (N := 17) (T := TX3) C hw iw_3 tyX3 tyX3_ok nmX3 rfl ha (by decide) (by decide) fl_X3_53 rfl rfl rfl rfl (fn_3 A _) fs_3_2 dX3_copy_21 (fun H locs hw => ?_)
  refine lv_aload_n hx hb dX3_copy_24 rfl (lv_at hl 0 rfl) ?_
  refine lv_aload_n hx hb dX3_copy_25 rfl (lv_at hl 1 rfl) ?_
  refine ti_get (ci := 3) (k := 3) (N := 17) (T := TX3) C hw iw_3 rfl hb1 (by decide) (by decide) fl_X3_56 rfl rfl dX3_copy_26 ?_
  refine lv_topi (fun x_3 ex_3 => ?_)
  refine ti_putI (ci := 3) (k := 3) (N := 17) (T := TX3) C hw iw_3 tyX3 tyX3_ok nmX3 rfl ha (by decide) (by decide) fl_X3_56 rfl rfl rfl rfl (fn_3 A _) fs_3_3 dX3_copy_29 (fun H locs hw => ?_)
  refine lv_aload_n hx hb dX3_copy_32 rfl (lv_at hl 0 rfl) ?_
  refine lv_aload_n hx hb dX3_copy_33 rfl (lv_at hl 1 rfl) ?_
  refine ti_get (ci := 3) (k := 4) (N := 17) (T := TX3) C hw iw_3 rfl hb1 (by decide) (by decide) fl_X3_64 rfl rfl dX3_copy_34 ?_
  refine lv_topi (fun x_4 ex_4 => ?_)
  refine ti_putI (ci := 3) (k := 4) (N := 17) (T := TX3) C hw iw_3 tyX3 tyX3_ok nmX3 rfl ha (by decide) (by decide) fl_X3_64 rfl rfl rfl rfl (fn_3 A _) fs_3_4 dX3_copy_37 (fun H locs hw => ?_)
  refine lv_aload_n hx hb dX3_copy_40 rfl (lv_at hl 0 rfl) ?_
  refine lv_aload_n hx hb dX3_copy_41 rfl (lv_at hl 1 rfl) ?_
  refine ti_get (ci := 3) (k := 5) (N := 17) (T := TX3) C hw iw_3 rfl hb1 (by decide) (by decide) fl_X3_68 rfl rfl dX3_copy_42 ?_
  refine lv_topi (fun x_5 ex_5 => ?_)
  refine ti_putI (ci := 3) (k := 5) (N := 17) (T := TX3) C hw iw_3 tyX3 tyX3_ok nmX3 rfl ha (by decide) (by decide) fl_X3_68 rfl rfl rfl rfl (fn_3 A _) fs_3_5 dX3_copy_45 (fun H locs hw => ?_)
  refine lv_aload_n hx hb dX3_copy_48 rfl (lv_at hl 1 rfl) ?_
  refine ti_get (ci := 3) (k := 6) (N := 17) (T := TX3) (v := .ref (A b 7)) C hw iw_3 rfl hb1 (by decide) (by decide) fl_X3_9 rfl rfl dX3_copy_49 ?_
  refine lv_iconst (v := 0) hx hb dX3_copy_52 (by decide) ?_
  refine lv_aload_n hx hb dX3_copy_53 rfl (lv_at hl 0 rfl) ?_
  refine ti_get (ci := 3) (k := 6) (N := 17) (T := TX3) (v := .ref (A a 7)) C hw iw_3 rfl ha (by decide) (by decide) fl_X3_9 rfl rfl dX3_copy_54 ?_
  refine lv_iconst (v := 0) hx hb dX3_copy_57 (by decide) ?_
  refine lv_bipush (v := 8) hx hb dX3_copy_58 (by decide) ?_
  refine ti_copy (c1 := 3) (k1 := 6) (n1 := 8) (c2 := 3) (k2 := 6) (n2 := 8) C hw ml_X3_72 sy_nat sy_sta sy_ini hb1 (by decide) (fun _ _ => rfl) ha (by decide) (fun _ _ => rfl) hl.1 (by decide) (by decide) (by decide) (by decide) (by decide) (by decide) (Nat.le_of_ble_eq_true rfl) dX3_copy_60 (fun H locs hw => ?_)
  refine lv_aload_n hx hb dX3_copy_63 rfl (lv_at hl 1 rfl) ?_
  refine ti_get (ci := 3) (k := 7) (N := 17) (T := TX3) (v := .ref (A b 8)) C hw iw_3 rfl hb1 (by decide) (by decide) fl_X3_15 rfl rfl dX3_copy_64 ?_
  refine lv_iconst (v := 0) hx hb dX3_copy_67 (by decide) ?_
  refine lv_aload_n hx hb dX3_copy_68 rfl (lv_at hl 0 rfl) ?_
  refine ti_get (ci := 3) (k := 7) (N := 17) (T := TX3) (v := .ref (A a 8)) C hw iw_3 rfl ha (by decide) (by decide) fl_X3_15 rfl rfl dX3_copy_69 ?_
  refine lv_iconst (v := 0) hx hb dX3_copy_72 (by decide) ?_
  refine lv_iconst (v := 3) hx hb dX3_copy_73 (by decide) ?_
  refine ti_copy (c1 := 3) (k1 := 7) (n1 := 3) (c2 := 3) (k2 := 7) (n2 := 3) C hw ml_X3_72 sy_nat sy_sta sy_ini hb1 (by decide) (fun _ _ => rfl) ha (by decide) (fun _ _ => rfl) hl.1 (by decide) (by decide) (by decide) (by decide) (by decide) (by decide) (Nat.le_of_ble_eq_true rfl) dX3_copy_74 (fun H locs hw => ?_)
  refine lv_aload_n hx hb dX3_copy_77 rfl (lv_at hl 1 rfl) ?_
  refine ti_get (ci := 3) (k := 8) (N := 17) (T := TX3) (v := .ref (A b 9)) C hw iw_3 rfl hb1 (by decide) (by decide) fl_X3_18 rfl rfl dX3_copy_78 ?_
  refine lv_iconst (v := 0) hx hb dX3_copy_81 (by decide) ?_
  refine lv_aload_n hx hb dX3_copy_82 rfl (lv_at hl 0 rfl) ?_
  refine ti_get (ci := 3) (k := 8) (N := 17) (T := TX3) (v := .ref (A a 9)) C hw iw_3 rfl ha (by decide) (by decide) fl_X3_18 rfl rfl dX3_copy_83 ?_
  refine lv_iconst (v := 0) hx hb dX3_copy_86 (by decide) ?_
  refine lv_bipush (v := 8) hx hb dX3_copy_87 (by decide) ?_
  refine ti_copy (c1 := 3) (k1 := 8) (n1 := 8) (c2 := 3) (k2 := 8) (n2 := 8) C hw ml_X3_72 sy_nat sy_sta sy_ini hb1 (by decide) (fun _ _ => rfl) ha (by decide) (fun _ _ => rfl) hl.1 (by decide) (by decide) (by decide) (by decide) (by decide) (by decide) (Nat.le_of_ble_eq_true rfl) dX3_copy_89 (fun H locs hw => ?_)
  refine lv_aload_n hx hb dX3_copy_92 rfl (lv_at hl 1 rfl) ?_
  refine ti_get (ci := 3) (k := 9) (N := 17) (T := TX3) (v := .ref (A b 10)) C hw iw_3 rfl hb1 (by decide) (by decide) fl_X3_21 rfl rfl dX3_copy_93 ?_
  refine lv_iconst (v := 0) hx hb dX3_copy_96 (by decide) ?_
  refine lv_aload_n hx hb dX3_copy_97 rfl (lv_at hl 0 rfl) ?_
  refine ti_get (ci := 3) (k := 9) (N := 17) (T := TX3) (v := .ref (A a 10)) C hw iw_3 rfl ha (by decide) (by decide) fl_X3_21 rfl rfl dX3_copy_98 ?_
  refine lv_iconst (v := 0) hx hb dX3_copy_101 (by decide) ?_
  refine lv_bipush (v := 8) hx hb dX3_copy_102 (by decide) ?_
  refine ti_copy (c1 := 3) (k1 := 9) (n1 := 8) (c2 := 3) (k2 := 9) (n2 := 8) C hw ml_X3_72 sy_nat sy_sta sy_ini hb1 (by decide) (fun _ _ => rfl) ha (by decide) (fun _ _ => rfl) hl.1 (by decide) (by decide) (by decide) (by decide) (by decide) (by decide) (Nat.le_of_ble_eq_true rfl) dX3_copy_104 (fun H locs hw => ?_)
  refine lv_aload_n hx hb dX3_copy_107 rfl (lv_at hl 1 rfl) ?_
  refine ti_get (ci := 3) (k := 10) (N := 17) (T := TX3) (v := .ref (A b 11)) C hw iw_3 rfl hb1 (by decide) (by decide) fl_X3_24 rfl rfl dX3_copy_108 ?_
  refine lv_iconst (v := 0) hx hb dX3_copy_111 (by decide) ?_
  refine lv_aload_n hx hb dX3_copy_112 rfl (lv_at hl 0 rfl) ?_
  refine ti_get (ci := 3) (k := 10) (N := 17) (T := TX3) (v := .ref (A a 11)) C hw iw_3 rfl ha (by decide) (by decide) fl_X3_24 rfl rfl dX3_copy_113 ?_
  refine lv_iconst (v := 0) hx hb dX3_copy_116 (by decide) ?_
  refine lv_bipush (v := 8) hx hb dX3_copy_117 (by decide) ?_
  refine ti_copy (c1 := 3) (k1 := 10) (n1 := 8) (c2 := 3) (k2 := 10) (n2 := 8) C hw ml_X3_72 sy_nat sy_sta sy_ini hb1 (by decide) (fun _ _ => rfl) ha (by decide) (fun _ _ => rfl) hl.1 (by decide) (by decide) (by decide) (by decide) (by decide) (by decide) (Nat.le_of_ble_eq_true rfl) dX3_copy_119 (fun H locs hw => ?_)
  refine lv_aload_n hx hb dX3_copy_122 rfl (lv_at hl 1 rfl) ?_
  refine ti_get (ci := 3) (k := 11) (N := 17) (T := TX3) (v := .ref (A b 12)) C hw iw_3 rfl hb1 (by decide) (by decide) fl_X3_27 rfl rfl dX3_copy_123 ?_
  refine lv_iconst (v := 0) hx hb dX3_copy_126 (by decide) ?_
  refine lv_aload_n hx hb dX3_copy_127 rfl (lv_at hl 0 rfl) ?_
  refine ti_get (ci := 3) (k := 11) (N := 17) (T := TX3) (v := .ref (A a 12)) C hw iw_3 rfl ha (by decide) (by decide) fl_X3_27 rfl rfl dX3_copy_128 ?_
  refine lv_iconst (v := 0) hx hb dX3_copy_131 (by decide) ?_
  refine lv_bipush (v := 8) hx hb dX3_copy_132 (by decide) ?_
  refine ti_copy (c1 := 3) (k1 := 11) (n1 := 8) (c2 := 3) (k2 := 11) (n2 := 8) C hw ml_X3_72 sy_nat sy_sta sy_ini hb1 (by decide) (fun _ _ => rfl) ha (by decide) (fun _ _ => rfl) hl.1 (by decide) (by decide) (by decide) (by decide) (by decide) (by decide) (Nat.le_of_ble_eq_true rfl) dX3_copy_134 (fun H locs hw => ?_)
  refine lv_aload_n hx hb dX3_copy_137 rfl (lv_at hl 1 rfl) ?_
  refine ti_get (ci := 3) (k := 12) (N := 17) (T := TX3) (v := .ref (A b 13)) C hw iw_3 rfl hb1 (by decide) (by decide) fl_X3_30 rfl rfl dX3_copy_138 ?_
  refine lv_iconst (v := 0) hx hb dX3_copy_141 (by decide) ?_
  refine lv_aload_n hx hb dX3_copy_142 rfl (lv_at hl 0 rfl) ?_
  refine ti_get (ci := 3) (k := 12) (N := 17) (T := TX3) (v := .ref (A a 13)) C hw iw_3 rfl ha (by decide) (by decide) fl_X3_30 rfl rfl dX3_copy_143 ?_
  refine lv_iconst (v := 0) hx hb dX3_copy_146 (by decide) ?_
  refine lv_bipush (v := 8) hx hb dX3_copy_147 (by decide) ?_
  refine ti_copy (c1 := 3) (k1 := 12) (n1 := 8) (c2 := 3) (k2 := 12) (n2 := 8) C hw ml_X3_72 sy_nat sy_sta sy_ini hb1 (by decide) (fun _ _ => rfl) ha (by decide) (fun _ _ => rfl) hl.1 (by decide) (by decide) (by decide) (by decide) (by decide) (by decide) (Nat.le_of_ble_eq_true rfl) dX3_copy_149 (fun H locs hw => ?_)
  refine lv_aload_n hx hb dX3_copy_152 rfl (lv_at hl 1 rfl) ?_
  refine ti_get (ci := 3) (k := 13) (N := 17) (T := TX3) (v := .ref (A b 14)) C hw iw_3 rfl hb1 (by decide) (by decide) fl_X3_33 rfl rfl dX3_copy_153 ?_
  refine lv_iconst (v := 0) hx hb dX3_copy_156 (by decide) ?_
  refine lv_aload_n hx hb dX3_copy_157 rfl (lv_at hl 0 rfl) ?_
  refine ti_get (ci := 3) (k := 13) (N := 17) (T := TX3) (v := .ref (A a 14)) C hw iw_3 rfl ha (by decide) (by decide) fl_X3_33 rfl rfl dX3_copy_158 ?_
  refine lv_iconst (v := 0) hx hb dX3_copy_161 (by decide) ?_
  refine lv_bipush (v := 8) hx hb dX3_copy_162 (by decide) ?_
  refine ti_copy (c1 := 3) (k1 := 13) (n1 := 8) (c2 := 3) (k2 := 13) (n2 := 8) C hw ml_X3_72 sy_nat sy_sta sy_ini hb1 (by decide) (fun _ _ => rfl) ha (by decide) (fun _ _ => rfl) hl.1 (by decide) (by decide) (by decide) (by decide) (by decide) (by decide) (Nat.le_of_ble_eq_true rfl) dX3_copy_164 (fun H locs hw => ?_)
  refine lv_aload_n hx hb dX3_copy_167 rfl (lv_at hl 1 rfl) ?_
  refine ti_get (ci := 3) (k := 14) (N := 17) (T := TX3) (v := .ref (A b 15)) C hw iw_3 rfl hb1 (by decide) (by decide) fl_X3_36 rfl rfl dX3_copy_168 ?_
  refine lv_iconst (v := 0) hx hb dX3_copy_171 (by decide) ?_
  refine lv_aload_n hx hb dX3_copy_172 rfl (lv_at hl 0 rfl) ?_
  refine ti_get (ci := 3) (k := 14) (N := 17) (T := TX3) (v := .ref (A a 15)) C hw iw_3 rfl ha (by decide) (by decide) fl_X3_36 rfl rfl dX3_copy_173 ?_
  refine lv_iconst (v := 0) hx hb dX3_copy_176 (by decide) ?_
  refine lv_bipush (v := 8) hx hb dX3_copy_177 (by decide) ?_
  refine ti_copy (c1 := 3) (k1 := 14) (n1 := 8) (c2 := 3) (k2 := 14) (n2 := 8) C hw ml_X3_72 sy_nat sy_sta sy_ini hb1 (by decide) (fun _ _ => rfl) ha (by decide) (fun _ _ => rfl) hl.1 (by decide) (by decide) (by decide) (by decide) (by decide) (by decide) (Nat.le_of_ble_eq_true rfl) dX3_copy_179 (fun H locs hw => ?_)
  refine lv_aload_n hx hb dX3_copy_182 rfl (lv_at hl 1 rfl) ?_
  refine ti_get (ci := 3) (k := 15) (N := 17) (T := TX3) (v := .ref (A b 16)) C hw iw_3 rfl hb1 (by decide) (by decide) fl_X3_39 rfl rfl dX3_copy_183 ?_
  refine lv_iconst (v := 0) hx hb dX3_copy_186 (by decide) ?_
  refine lv_aload_n hx hb dX3_copy_187 rfl (lv_at hl 0 rfl) ?_
  refine ti_get (ci := 3) (k := 15) (N := 17) (T := TX3) (v := .ref (A a 16)) C hw iw_3 rfl ha (by decide) (by decide) fl_X3_39 rfl rfl dX3_copy_188 ?_
  refine lv_iconst (v := 0) hx hb dX3_copy_191 (by decide) ?_
  refine lv_bipush (v := 8) hx hb dX3_copy_192 (by decide) ?_
  refine ti_copy (c1 := 3) (k1 := 15) (n1 := 8) (c2 := 3) (k2 := 15) (n2 := 8) C hw ml_X3_72 sy_nat sy_sta sy_ini hb1 (by decide) (fun _ _ => rfl) ha (by decide) (fun _ _ => rfl) hl.1 (by decide) (by decide) (by decide) (by decide) (by decide) (by decide) (Nat.le_of_ble_eq_true rfl) dX3_copy_194 (fun H locs hw => ?_)
  refine lv_aload_n hx hb dX3_copy_197 rfl (lv_at hl 1 rfl) ?_
  refine ti_get (ci := 3) (k := 16) (N := 17) (T := TX3) (v := .ref (A b 17)) C hw iw_3 rfl hb1 (by decide) (by decide) fl_X3_42 rfl rfl dX3_copy_198 ?_
  refine lv_iconst (v := 0) hx hb dX3_copy_201 (by decide) ?_
  refine lv_aload_n hx hb dX3_copy_202 rfl (lv_at hl 0 rfl) ?_
  refine ti_get (ci := 3) (k := 16) (N := 17) (T := TX3) (v := .ref (A a 17)) C hw iw_3 rfl ha (by decide) (by decide) fl_X3_42 rfl rfl dX3_copy_203 ?_
  refine lv_iconst (v := 0) hx hb dX3_copy_206 (by decide) ?_
  refine lv_bipush (v := 8) hx hb dX3_copy_207 (by decide) ?_
  refine ti_copy (c1 := 3) (k1 := 16) (n1 := 8) (c2 := 3) (k2 := 16) (n2 := 8) C hw ml_X3_72 sy_nat sy_sta sy_ini hb1 (by decide) (fun _ _ => rfl) ha (by decide) (fun _ _ => rfl) hl.1 (by decide) (by decide) (by decide) (by decide) (by decide) (by decide) (Nat.le_of_ble_eq_true rfl) dX3_copy_209 (fun H locs hw => ?_)
  exact hQ _ _ _ _ _ hw (⟨((show tI (uI (uT M a 0 (some t)) a 1 x_1) a 1 = _ from tI_u _ _ _ _).trans ex_1), ((show tI (uI (uI (uT M a 0 (some t)) a 1 x_1) a 2 x_2) a 2 = _ from tI_u _ _ _ _).trans ex_2), ((show tI (uI (uI (uI (uT M a 0 (some t)) a 1 x_1) a 2 x_2) a 3 x_3) a 3 = _ from tI_u _ _ _ _).trans ex_3), ((show tI (uI (uI (uI (uI (uT M a 0 (some t)) a 1 x_1) a 2 x_2) a 3 x_3) a 4 x_4) a 4 = _ from tI_u _ _ _ _).trans ex_4), ((show tI (uI (uI (uI (uI (uI (uT M a 0 (some t)) a 1 x_1) a 2 x_2) a 3 x_3) a 4 x_4) a 5 x_5) a 5 = _ from tI_u _ _ _ _).trans ex_5), (show tT (uT M a 0 (some t)) a 0 = _ from tT_u _ _ _ _).trans hT.symm, fun o k h => by simp only [tI_uY, tI_uT, tI_o _ _ _ _ h], fun o k h => by simp only [tT_uY, tT_uI, tT_o _ _ _ _ h], fun o k h => by simp only [tY_uI, tY_uT, tY_o _ _ _ _ h]⟩) dX3_copy_212
set_option maxHeartbeats 4000000 in
set_option maxRecDepth 100000 in
theorem k_X0_prepare (l : Launch) (D : va_G) (A : Nat → Nat → Nat) (cy : Nat → ClassId) (hJ : ti_inj ti_LT A) (M : ti_M) (hF : ti_F M) : ti_Kv l yX0_prepare cX0_prepare 2 2 ti_LT D A cy M [.ref (A 53 0), .ref (A 27 0)] (fun M2 => tT M2 54 0 = some 3 ∧ tI M2 54 3 = 0 ∧ tI M2 54 2 = 0 ∧ tI M2 3 4 = 0 ∧ tI M2 3 10 = 0 ∧ tI M2 27 2 = 0 ∧ tI M2 54 1 = 3 ∧ ti_F M2) := by
  refine ti_eV yp_X0_prepare hJ ti_LT_nd (Nat.le_of_ble_eq_true rfl) ?_
  intro p e s m args below meth c Q H0 C hQ hw ls hl
  have hx := C.1
  have hb := C.2.1
  have hl : lv_has ls 2 [(0, .ref (A 53 0)), (1, .ref (A 27 0))] := hl
  obtain ⟨f_told, f_spare, f_nt, f_many, f_fault, f_place, f_men, f_knots, f_mut, f_man, f_min, f_size, f_water, f_first, f_steps, f_img, f_sm, f_sk, f_ss, f_sw, f_p0, f_p1, f_p2⟩ := id hF
  refine lv_aload_n hx hb dX0_prepare_0 rfl (lv_at hl 0 rfl) ?_
  refine ti_get (ci := 0) (k := 0) (N := 6) (T := TX0) (v := .ref (A 54 0)) C hw iw_0 rfl ob_53 (by decide) (by decide) fl_X0_12 rfl rfl dX0_prepare_1 ?_
  refine lv_aload_n hx hb dX0_prepare_4 rfl (lv_at hl 1 rfl) ?_
  refine ti_callVv (ci := 3) (av := [.ref (A 27 0)]) C hw (k_X3_copy l D A cy hJ _ 54 27 3 ob_54 ob_27 f_nt (by decide)) ⟨ml_X0_35, ym_X3_copy, yv_X3_copy, yi_X3_copy, yc_X3_copy⟩ yd_X3_copy ob_54 (by decide) rfl rfl hl.1 (Nat.le_of_ble_eq_true rfl) ⟨by decide, by decide⟩ ⟨Nat.zero_le _, Nat.zero_le _⟩ dX0_prepare_5 (fun M_2 H locs hp_2 hw => ?_)
  obtain ⟨h1_2, h2_2, h3_2, h4_2, h5_2, h0_2, hI_2, hTT_2, hY_2⟩ := hp_2
  refine lv_aload_n hx hb dX0_prepare_8 rfl (lv_at hl 0 rfl) ?_
  refine ti_get (ci := 0) (k := 0) (N := 6) (T := TX0) (v := .ref (A 54 0)) C hw iw_0 rfl ob_53 (by decide) (by decide) fl_X0_12 rfl rfl dX0_prepare_9 ?_
  refine lv_iconst (v := 3) hx hb dX0_prepare_12 (by decide) ?_
  refine ti_putI (ci := 3) (k := 1) (N := 17) (T := TX3) C hw iw_3 tyX3 tyX3_ok nmX3 rfl ob_54 (by decide) (by decide) fl_X0_39 rfl rfl rfl rfl (fn_3 A _) fs_3_1 dX0_prepare_13 (fun H locs hw => ?_)
  exact hQ _ _ _ _ _ hw (⟨(h0_2.trans f_nt), (h3_2.trans f_size), (h2_2.trans f_min), ((hI_2 _ _ (by decide)).trans f_men), ((hI_2 _ _ (by decide)).trans f_mut), ((hI_2 _ _ (by decide)).trans f_min), (show tI (uI M_2 54 1 3) 54 1 = _ from tI_u _ _ _ _), ⟨((hTT_2 _ _ (by decide)).trans f_told), ((hTT_2 _ _ (by decide)).trans f_spare), ((hTT_2 _ _ (by decide)).trans f_nt), ((hI_2 _ _ (by decide)).trans f_many), ((hI_2 _ _ (by decide)).trans f_fault), ((hI_2 _ _ (by decide)).trans f_place), ((hI_2 _ _ (by decide)).trans f_men), ((hI_2 _ _ (by decide)).trans f_knots), ((hI_2 _ _ (by decide)).trans f_mut), ((hI_2 _ _ (by decide)).trans f_man), ((hI_2 _ _ (by decide)).trans f_min), ((hI_2 _ _ (by decide)).trans f_size), ((hI_2 _ _ (by decide)).trans f_water), ((hI_2 _ _ (by decide)).trans f_first), ((hI_2 _ _ (by decide)).trans f_steps), ((hI_2 _ _ (by decide)).trans f_img), ((hI_2 _ _ (by decide)).trans f_sm), ((hI_2 _ _ (by decide)).trans f_sk), ((hI_2 _ _ (by decide)).trans f_ss), ((hI_2 _ _ (by decide)).trans f_sw), ((congrFun (hY_2 27 7 (by decide)) 0).trans f_p0), ((congrFun (hY_2 27 7 (by decide)) 1).trans f_p1), ((congrFun (hY_2 27 7 (by decide)) 2).trans f_p2)⟩⟩) dX0_prepare_16
set_option maxHeartbeats 4000000 in
set_option maxRecDepth 100000 in
theorem k_J6_bitCount_0f7a4 (l : Launch) (D : va_G) (A : Nat → Nat → Nat) (cy : Nat → ClassId) (hJ : ti_inj ti_LT A) (M : ti_M)  : ti_Ki l yJ6_bitCount_0f7a4 cJ6_bitCount_0f7a4 1 (some .int) 0 ti_LT D A cy M [.int 0] (fun r M2 => M2 = M ∧ r = 0) := by
  refine ti_eI yp_J6_bitCount_0f7a4 hJ ti_LT_nd (Nat.le_of_ble_eq_true rfl) ?_
  intro p e s m args below meth c Q H0 C hQ hw ls hl
  have hx := C.1
  have hb := C.2.1
  have hl : lv_has ls 1 [(0, .int 0)] := hl
  refine lv_iload_n hx hb dJ6_bitCount_0f7a4_0 rfl (lv_at hl 0 rfl) ?_
  refine lv_iload_n hx hb dJ6_bitCount_0f7a4_1 rfl (lv_at hl 0 rfl) ?_
  refine lv_iconst (v := 1) hx hb dJ6_bitCount_0f7a4_2 (by decide) ?_
  refine lv_iushr (v := 0) hx hb dJ6_bitCount_0f7a4_3 (by decide) ?_
  refine lv_ldcw (v := 1431655765) hx hb C.2.2.2.1 (C.2.2.1 _ cn_J6_265) dJ6_bitCount_0f7a4_4 ?_
  refine lv_iand hx hb dJ6_bitCount_0f7a4_7 ?_
  refine ti_top (y := 0) (by decide) ?_
  refine lv_isub hx hb dJ6_bitCount_0f7a4_8 ?_
  refine ti_top (y := 0) (by decide) ?_
  refine lv_istore_n (lv' := [(0, .int 0)]) hx hb dJ6_bitCount_0f7a4_9 rfl hl (by decide) rfl (fun ls hl => ?_)
  refine lv_iload_n hx hb dJ6_bitCount_0f7a4_10 rfl (lv_at hl 0 rfl) ?_
  refine lv_ldcw (v := 858993459) hx hb C.2.2.2.1 (C.2.2.1 _ cn_J6_266) dJ6_bitCount_0f7a4_11 ?_
  refine lv_iand hx hb dJ6_bitCount_0f7a4_14 ?_
  refine ti_top (y := 0) (by decide) ?_
  refine lv_iload_n hx hb dJ6_bitCount_0f7a4_15 rfl (lv_at hl 0 rfl) ?_
  refine lv_iconst (v := 2) hx hb dJ6_bitCount_0f7a4_16 (by decide) ?_
  refine lv_iushr (v := 0) hx hb dJ6_bitCount_0f7a4_17 (by decide) ?_
  refine lv_ldcw (v := 858993459) hx hb C.2.2.2.1 (C.2.2.1 _ cn_J6_266) dJ6_bitCount_0f7a4_18 ?_
  refine lv_iand hx hb dJ6_bitCount_0f7a4_21 ?_
  refine ti_top (y := 0) (by decide) ?_
  refine lv_iadd hx hb dJ6_bitCount_0f7a4_22 ?_
  refine ti_top (y := 0) (by decide) ?_
  refine lv_istore_n (lv' := [(0, .int 0)]) hx hb dJ6_bitCount_0f7a4_23 rfl hl (by decide) rfl (fun ls hl => ?_)
  refine lv_iload_n hx hb dJ6_bitCount_0f7a4_24 rfl (lv_at hl 0 rfl) ?_
  refine lv_iload_n hx hb dJ6_bitCount_0f7a4_25 rfl (lv_at hl 0 rfl) ?_
  refine lv_iconst (v := 4) hx hb dJ6_bitCount_0f7a4_26 (by decide) ?_
  refine lv_iushr (v := 0) hx hb dJ6_bitCount_0f7a4_27 (by decide) ?_
  refine lv_iadd hx hb dJ6_bitCount_0f7a4_28 ?_
  refine ti_top (y := 0) (by decide) ?_
  refine lv_ldcw (v := 252645135) hx hb C.2.2.2.1 (C.2.2.1 _ cn_J6_267) dJ6_bitCount_0f7a4_29 ?_
  refine lv_iand hx hb dJ6_bitCount_0f7a4_32 ?_
  refine ti_top (y := 0) (by decide) ?_
  refine lv_istore_n (lv' := [(0, .int 0)]) hx hb dJ6_bitCount_0f7a4_33 rfl hl (by decide) rfl (fun ls hl => ?_)
  refine lv_iload_n hx hb dJ6_bitCount_0f7a4_34 rfl (lv_at hl 0 rfl) ?_
  refine lv_iload_n hx hb dJ6_bitCount_0f7a4_35 rfl (lv_at hl 0 rfl) ?_
  refine lv_bipush (v := 8) hx hb dJ6_bitCount_0f7a4_36 (by decide) ?_
  refine lv_iushr (v := 0) hx hb dJ6_bitCount_0f7a4_38 (by decide) ?_
  refine lv_iadd hx hb dJ6_bitCount_0f7a4_39 ?_
  refine ti_top (y := 0) (by decide) ?_
  refine lv_istore_n (lv' := [(0, .int 0)]) hx hb dJ6_bitCount_0f7a4_40 rfl hl (by decide) rfl (fun ls hl => ?_)
  refine lv_iload_n hx hb dJ6_bitCount_0f7a4_41 rfl (lv_at hl 0 rfl) ?_
  refine lv_iload_n hx hb dJ6_bitCount_0f7a4_42 rfl (lv_at hl 0 rfl) ?_
  refine lv_bipush (v := 16) hx hb dJ6_bitCount_0f7a4_43 (by decide) ?_
  refine lv_iushr (v := 0) hx hb dJ6_bitCount_0f7a4_45 (by decide) ?_
  refine lv_iadd hx hb dJ6_bitCount_0f7a4_46 ?_
  refine ti_top (y := 0) (by decide) ?_
  refine lv_istore_n (lv' := [(0, .int 0)]) hx hb dJ6_bitCount_0f7a4_47 rfl hl (by decide) rfl (fun ls hl => ?_)
  refine lv_iload_n hx hb dJ6_bitCount_0f7a4_48 rfl (lv_at hl 0 rfl) ?_
  refine lv_bipush (v := 63) hx hb dJ6_bitCount_0f7a4_49 (by decide) ?_
  refine lv_iand hx hb dJ6_bitCount_0f7a4_51 ?_
  refine ti_top (y := 0) (by decide) ?_
  exact hQ _ _ _ _ _ _ hw rfl (⟨rfl, rfl⟩) dJ6_bitCount_0f7a4_52
set_option maxHeartbeats 4000000 in
set_option maxRecDepth 100000 in
theorem k_X0_price (l : Launch) (D : va_G) (A : Nat → Nat → Nat) (cy : Nat → ClassId) (hJ : ti_inj ti_LT A) (M : ti_M) (t : Nat) (mn : Int32) (ht : ti_ob ti_LT t 8) (hm : tI M t 4 = 0) : ti_Ki l yX0_price cX0_price 4 (some .int) 0 ti_LT D A cy M [.ref (A t 0), .int mn] (fun r M2 => M2 = M ∧ r = 0) := by
  refine ti_eI yp_X0_price hJ ti_LT_nd (Nat.le_of_ble_eq_true rfl) ?_
  intro p e s m args below meth c Q H0 C hQ hw ls hl
  have hx := C.1
  have hb := C.2.1
  have hl : lv_has ls 4 [(0, .ref (A t 0)), (1, .int mn)] := hl
  refine lv_iconst (v := 0) hx hb dX0_price_0 (by decide) ?_
  refine lv_istore_n (lv' := [(2, .int 0), (0, .ref (A t 0)), (1, .int mn)]) hx hb dX0_price_1 rfl hl (by decide) rfl (fun ls hl => ?_)
  refine lv_iconst (v := 0) hx hb dX0_price_2 (by decide) ?_
  refine lv_istore_n (lv' := [(3, .int 0), (2, .int 0), (0, .ref (A t 0)), (1, .int mn)]) hx hb dX0_price_3 rfl hl (by decide) rfl (fun ls hl => ?_)
  refine lv_iload_n hx hb dX0_price_4 rfl (lv_at hl 0 rfl) ?_
  refine lv_aload_n hx hb dX0_price_5 rfl (lv_at hl 2 rfl) ?_
  refine ti_get (ci := 8) (k := 4) (N := 12) (T := TX8) C hw iw_8 rfl ht (by decide) (by decide) fl_X0_106 rfl rfl dX0_price_6 ?_
  refine ti_top (y := 0) hm ?_
  refine lv_icmp_ge (tgt := 38) hx hb dX0_price_9 (by decide) (fun c_9 => ?_) (fun c => absurd (by decide) c)
  refine lv_iload_n hx hb dX0_price_38 rfl (lv_at hl 1 rfl) ?_
  exact hQ _ _ _ _ _ _ hw rfl (⟨rfl, rfl⟩) dX0_price_39

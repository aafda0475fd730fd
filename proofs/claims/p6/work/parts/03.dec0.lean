theorem dec_of (f : Nat → Except DecodeError (Instr × Nat)) {r : List (Nat × Except DecodeError (Instr × Nat))} (h : r.all (fun q => decide (f q.1 = q.2)) = true) (i : Nat) {pc : Nat} {x : Except DecodeError (Instr × Nat)} (e : r[i]? = some (pc, x)) : f pc = x := by
  have h2 := List.all_eq_true.mp h _ (List.mem_of_getElem? e)
  exact of_decide_eq_true h2
abbrev dl_0 : List (Nat × Except DecodeError (Instr × Nat)) := [(0, .ok (.aload_n 0, 1)), (1, .ok (.invokespecial 3, 3)), (4, .ok (.aload_n 0, 1)), (5, .ok (.new 9, 3)), (8, .ok (.dup, 1)), (9, .ok (.invokespecial 11, 3)), (12, .ok (.putfield 12, 3)), (15, .ok (.aload_n 0, 1)), (16, .ok (.new 9, 3)), (19, .ok (.dup, 1)), (20, .ok (.invokespecial 11, 3)), (23, .ok (.putfield 18, 3)), (26, .ok (.aload_n 0, 1)), (27, .ok (.bipush 16, 2)), (29, .ok (.newarray .int, 2)), (31, .ok (.putfield 21, 3)), (34, .ok (.aload_n 0, 1)), (35, .ok (.bipush 16, 2)), (37, .ok (.newarray .int, 2)), (39, .ok (.putfield 25, 3)), (42, .ok (.aload_n 0, 1)), (43, .ok (.bipush 16, 2)), (45, .ok (.newarray .int, 2)), (47, .ok (.putfield 28, 3)), (50, .ok (.aload_n 0, 1)), (51, .ok (.iconst 0, 1)), (52, .ok (.putfield 31, 3)), (55, .ok (.return_, 1))]
theorem da_0 : dl_0.all (fun q => decide (decode cX0_init q.1 = q.2)) = true := by decide +kernel
theorem dX0_init_0 : decode cX0_init 0 = .ok (.aload_n 0, 1) := dec_of (decode cX0_init) da_0 0 rfl
theorem dX0_init_1 : decode cX0_init 1 = .ok (.invokespecial 3, 3) := dec_of (decode cX0_init) da_0 1 rfl
theorem dX0_init_4 : decode cX0_init 4 = .ok (.aload_n 0, 1) := dec_of (decode cX0_init) da_0 2 rfl
theorem dX0_init_5 : decode cX0_init 5 = .ok (.new 9, 3) := dec_of (decode cX0_init) da_0 3 rfl
theorem dX0_init_8 : decode cX0_init 8 = .ok (.dup, 1) := dec_of (decode cX0_init) da_0 4 rfl
theorem dX0_init_9 : decode cX0_init 9 = .ok (.invokespecial 11, 3) := dec_of (decode cX0_init) da_0 5 rfl
theorem dX0_init_12 : decode cX0_init 12 = .ok (.putfield 12, 3) := dec_of (decode cX0_init) da_0 6 rfl
theorem dX0_init_15 : decode cX0_init 15 = .ok (.aload_n 0, 1) := dec_of (decode cX0_init) da_0 7 rfl
theorem dX0_init_16 : decode cX0_init 16 = .ok (.new 9, 3) := dec_of (decode cX0_init) da_0 8 rfl
theorem dX0_init_19 : decode cX0_init 19 = .ok (.dup, 1) := dec_of (decode cX0_init) da_0 9 rfl
theorem dX0_init_20 : decode cX0_init 20 = .ok (.invokespecial 11, 3) := dec_of (decode cX0_init) da_0 10 rfl
theorem dX0_init_23 : decode cX0_init 23 = .ok (.putfield 18, 3) := dec_of (decode cX0_init) da_0 11 rfl
theorem dX0_init_26 : decode cX0_init 26 = .ok (.aload_n 0, 1) := dec_of (decode cX0_init) da_0 12 rfl
theorem dX0_init_27 : decode cX0_init 27 = .ok (.bipush 16, 2) := dec_of (decode cX0_init) da_0 13 rfl
theorem dX0_init_29 : decode cX0_init 29 = .ok (.newarray .int, 2) := dec_of (decode cX0_init) da_0 14 rfl
theorem dX0_init_31 : decode cX0_init 31 = .ok (.putfield 21, 3) := dec_of (decode cX0_init) da_0 15 rfl
theorem dX0_init_34 : decode cX0_init 34 = .ok (.aload_n 0, 1) := dec_of (decode cX0_init) da_0 16 rfl
theorem dX0_init_35 : decode cX0_init 35 = .ok (.bipush 16, 2) := dec_of (decode cX0_init) da_0 17 rfl
theorem dX0_init_37 : decode cX0_init 37 = .ok (.newarray .int, 2) := dec_of (decode cX0_init) da_0 18 rfl
theorem dX0_init_39 : decode cX0_init 39 = .ok (.putfield 25, 3) := dec_of (decode cX0_init) da_0 19 rfl
theorem dX0_init_42 : decode cX0_init 42 = .ok (.aload_n 0, 1) := dec_of (decode cX0_init) da_0 20 rfl
theorem dX0_init_43 : decode cX0_init 43 = .ok (.bipush 16, 2) := dec_of (decode cX0_init) da_0 21 rfl
theorem dX0_init_45 : decode cX0_init 45 = .ok (.newarray .int, 2) := dec_of (decode cX0_init) da_0 22 rfl
theorem dX0_init_47 : decode cX0_init 47 = .ok (.putfield 28, 3) := dec_of (decode cX0_init) da_0 23 rfl
theorem dX0_init_50 : decode cX0_init 50 = .ok (.aload_n 0, 1) := dec_of (decode cX0_init) da_0 24 rfl
theorem dX0_init_51 : decode cX0_init 51 = .ok (.iconst 0, 1) := dec_of (decode cX0_init) da_0 25 rfl
theorem dX0_init_52 : decode cX0_init 52 = .ok (.putfield 31, 3) := dec_of (decode cX0_init) da_0 26 rfl
theorem dX0_init_55 : decode cX0_init 55 = .ok (.return_, 1) := dec_of (decode cX0_init) da_0 27 rfl
abbrev dl_1 : List (Nat × Except DecodeError (Instr × Nat)) := [(0, .ok (.aload_n 0, 1)), (1, .ok (.getfield 12, 3)), (4, .ok (.aload_n 1, 1)), (5, .ok (.invokevirtual 35, 3)), (8, .ok (.aload_n 0, 1)), (9, .ok (.getfield 12, 3)), (12, .ok (.iconst 3, 1)), (13, .ok (.putfield 39, 3)), (16, .ok (.return_, 1))]
theorem da_1 : dl_1.all (fun q => decide (decode cX0_prepare q.1 = q.2)) = true := by decide +kernel
theorem dX0_prepare_0 : decode cX0_prepare 0 = .ok (.aload_n 0, 1) := dec_of (decode cX0_prepare) da_1 0 rfl
theorem dX0_prepare_1 : decode cX0_prepare 1 = .ok (.getfield 12, 3) := dec_of (decode cX0_prepare) da_1 1 rfl
theorem dX0_prepare_4 : decode cX0_prepare 4 = .ok (.aload_n 1, 1) := dec_of (decode cX0_prepare) da_1 2 rfl
theorem dX0_prepare_5 : decode cX0_prepare 5 = .ok (.invokevirtual 35, 3) := dec_of (decode cX0_prepare) da_1 3 rfl
theorem dX0_prepare_8 : decode cX0_prepare 8 = .ok (.aload_n 0, 1) := dec_of (decode cX0_prepare) da_1 4 rfl
theorem dX0_prepare_9 : decode cX0_prepare 9 = .ok (.getfield 12, 3) := dec_of (decode cX0_prepare) da_1 5 rfl
theorem dX0_prepare_12 : decode cX0_prepare 12 = .ok (.iconst 3, 1) := dec_of (decode cX0_prepare) da_1 6 rfl
theorem dX0_prepare_13 : decode cX0_prepare 13 = .ok (.putfield 39, 3) := dec_of (decode cX0_prepare) da_1 7 rfl
theorem dX0_prepare_16 : decode cX0_prepare 16 = .ok (.return_, 1) := dec_of (decode cX0_prepare) da_1 8 rfl
abbrev dl_2 : List (Nat × Except DecodeError (Instr × Nat)) := [(0, .ok (.aload_n 0, 1)), (1, .ok (.aload_n 1, 1)), (2, .ok (.invokevirtual 42, 3)), (5, .ok (.aload_n 1, 1)), (6, .ok (.getfield 45, 3)), (9, .ok (.istore_n 3, 1)), (10, .ok (.iload_n 3, 1)), (11, .ok (.bipush 120, 2)), (13, .ok (.if_icmp .ge 29, 3)), (16, .ok (.aload_n 0, 1)), (17, .ok (.getfield 12, 3)), (20, .ok (.getfield 48, 3)), (23, .ok (.iload_n 2, 1)), (24, .ok (.iaload, 1)), (25, .ok (.iconst 2, 1)), (26, .ok (.if_icmp .ge 16, 3)), (29, .ok (.aload_n 0, 1)), (30, .ok (.getfield 12, 3)), (33, .ok (.invokevirtual 51, 3)), (36, .ok (.iinc 3 1, 3)), (39, .ok (.goto (-29), 3)), (42, .ok (.aload_n 0, 1)), (43, .ok (.getfield 12, 3)), (46, .ok (.getfield 48, 3)), (49, .ok (.iload_n 2, 1)), (50, .ok (.iaload, 1)), (51, .ok (.iconst 2, 1)), (52, .ok (.if_icmp .ne 15, 3)), (55, .ok (.aload_n 0, 1)), (56, .ok (.getfield 12, 3)), (59, .ok (.getfield 54, 3)), (62, .ok (.iload_n 2, 1)), (63, .ok (.iaload, 1)), (64, .ok (.goto 5, 3)), (67, .ok (.bipush (-2), 2)), (69, .ok (.ireturn, 1))]
theorem da_2 : dl_2.all (fun q => decide (decode cX0_servedIn q.1 = q.2)) = true := by decide +kernel
theorem dX0_servedIn_0 : decode cX0_servedIn 0 = .ok (.aload_n 0, 1) := dec_of (decode cX0_servedIn) da_2 0 rfl
theorem dX0_servedIn_1 : decode cX0_servedIn 1 = .ok (.aload_n 1, 1) := dec_of (decode cX0_servedIn) da_2 1 rfl
theorem dX0_servedIn_2 : decode cX0_servedIn 2 = .ok (.invokevirtual 42, 3) := dec_of (decode cX0_servedIn) da_2 2 rfl
theorem dX0_servedIn_5 : decode cX0_servedIn 5 = .ok (.aload_n 1, 1) := dec_of (decode cX0_servedIn) da_2 3 rfl
theorem dX0_servedIn_6 : decode cX0_servedIn 6 = .ok (.getfield 45, 3) := dec_of (decode cX0_servedIn) da_2 4 rfl
theorem dX0_servedIn_9 : decode cX0_servedIn 9 = .ok (.istore_n 3, 1) := dec_of (decode cX0_servedIn) da_2 5 rfl
theorem dX0_servedIn_10 : decode cX0_servedIn 10 = .ok (.iload_n 3, 1) := dec_of (decode cX0_servedIn) da_2 6 rfl
theorem dX0_servedIn_11 : decode cX0_servedIn 11 = .ok (.bipush 120, 2) := dec_of (decode cX0_servedIn) da_2 7 rfl
theorem dX0_servedIn_13 : decode cX0_servedIn 13 = .ok (.if_icmp .ge 29, 3) := dec_of (decode cX0_servedIn) da_2 8 rfl
theorem dX0_servedIn_16 : decode cX0_servedIn 16 = .ok (.aload_n 0, 1) := dec_of (decode cX0_servedIn) da_2 9 rfl
theorem dX0_servedIn_17 : decode cX0_servedIn 17 = .ok (.getfield 12, 3) := dec_of (decode cX0_servedIn) da_2 10 rfl
theorem dX0_servedIn_20 : decode cX0_servedIn 20 = .ok (.getfield 48, 3) := dec_of (decode cX0_servedIn) da_2 11 rfl
theorem dX0_servedIn_23 : decode cX0_servedIn 23 = .ok (.iload_n 2, 1) := dec_of (decode cX0_servedIn) da_2 12 rfl
theorem dX0_servedIn_24 : decode cX0_servedIn 24 = .ok (.iaload, 1) := dec_of (decode cX0_servedIn) da_2 13 rfl
theorem dX0_servedIn_25 : decode cX0_servedIn 25 = .ok (.iconst 2, 1) := dec_of (decode cX0_servedIn) da_2 14 rfl
theorem dX0_servedIn_26 : decode cX0_servedIn 26 = .ok (.if_icmp .ge 16, 3) := dec_of (decode cX0_servedIn) da_2 15 rfl
theorem dX0_servedIn_29 : decode cX0_servedIn 29 = .ok (.aload_n 0, 1) := dec_of (decode cX0_servedIn) da_2 16 rfl
theorem dX0_servedIn_30 : decode cX0_servedIn 30 = .ok (.getfield 12, 3) := dec_of (decode cX0_servedIn) da_2 17 rfl
theorem dX0_servedIn_33 : decode cX0_servedIn 33 = .ok (.invokevirtual 51, 3) := dec_of (decode cX0_servedIn) da_2 18 rfl
theorem dX0_servedIn_36 : decode cX0_servedIn 36 = .ok (.iinc 3 1, 3) := dec_of (decode cX0_servedIn) da_2 19 rfl
theorem dX0_servedIn_39 : decode cX0_servedIn 39 = .ok (.goto (-29), 3) := dec_of (decode cX0_servedIn) da_2 20 rfl
theorem dX0_servedIn_42 : decode cX0_servedIn 42 = .ok (.aload_n 0, 1) := dec_of (decode cX0_servedIn) da_2 21 rfl
theorem dX0_servedIn_43 : decode cX0_servedIn 43 = .ok (.getfield 12, 3) := dec_of (decode cX0_servedIn) da_2 22 rfl
theorem dX0_servedIn_46 : decode cX0_servedIn 46 = .ok (.getfield 48, 3) := dec_of (decode cX0_servedIn) da_2 23 rfl
theorem dX0_servedIn_49 : decode cX0_servedIn 49 = .ok (.iload_n 2, 1) := dec_of (decode cX0_servedIn) da_2 24 rfl
theorem dX0_servedIn_50 : decode cX0_servedIn 50 = .ok (.iaload, 1) := dec_of (decode cX0_servedIn) da_2 25 rfl
theorem dX0_servedIn_51 : decode cX0_servedIn 51 = .ok (.iconst 2, 1) := dec_of (decode cX0_servedIn) da_2 26 rfl
theorem dX0_servedIn_52 : decode cX0_servedIn 52 = .ok (.if_icmp .ne 15, 3) := dec_of (decode cX0_servedIn) da_2 27 rfl
theorem dX0_servedIn_55 : decode cX0_servedIn 55 = .ok (.aload_n 0, 1) := dec_of (decode cX0_servedIn) da_2 28 rfl
theorem dX0_servedIn_56 : decode cX0_servedIn 56 = .ok (.getfield 12, 3) := dec_of (decode cX0_servedIn) da_2 29 rfl
theorem dX0_servedIn_59 : decode cX0_servedIn 59 = .ok (.getfield 54, 3) := dec_of (decode cX0_servedIn) da_2 30 rfl
theorem dX0_servedIn_62 : decode cX0_servedIn 62 = .ok (.iload_n 2, 1) := dec_of (decode cX0_servedIn) da_2 31 rfl
theorem dX0_servedIn_63 : decode cX0_servedIn 63 = .ok (.iaload, 1) := dec_of (decode cX0_servedIn) da_2 32 rfl
theorem dX0_servedIn_64 : decode cX0_servedIn 64 = .ok (.goto 5, 3) := dec_of (decode cX0_servedIn) da_2 33 rfl
theorem dX0_servedIn_67 : decode cX0_servedIn 67 = .ok (.bipush (-2), 2) := dec_of (decode cX0_servedIn) da_2 34 rfl
theorem dX0_servedIn_69 : decode cX0_servedIn 69 = .ok (.ireturn, 1) := dec_of (decode cX0_servedIn) da_2 35 rfl
abbrev dl_3 : List (Nat × Except DecodeError (Instr × Nat)) := [(0, .ok (.aload_n 0, 1)), (1, .ok (.aload_n 1, 1)), (2, .ok (.invokevirtual 42, 3)), (5, .ok (.aload_n 0, 1)), (6, .ok (.getfield 12, 3)), (9, .ok (.getfield 57, 3)), (12, .ok (.iload_n 2, 1)), (13, .ok (.iconst (-1), 1)), (14, .ok (.iastore, 1)), (15, .ok (.aload_n 1, 1)), (16, .ok (.getfield 45, 3)), (19, .ok (.istore 5, 2)), (21, .ok (.iload 5, 2)), (23, .ok (.iload 4, 2)), (25, .ok (.if_icmp .gt 64, 3)), (28, .ok (.aload_n 0, 1)), (29, .ok (.getfield 18, 3)), (32, .ok (.aload_n 0, 1)), (33, .ok (.getfield 12, 3)), (36, .ok (.invokevirtual 35, 3)), (39, .ok (.aload_n 0, 1)), (40, .ok (.getfield 18, 3)), (43, .ok (.getfield 57, 3)), (46, .ok (.iload_n 2, 1)), (47, .ok (.iload 5, 2)), (49, .ok (.iastore, 1)), (50, .ok (.aload_n 0, 1)), (51, .ok (.getfield 18, 3)), (54, .ok (.iload 4, 2)), (56, .ok (.iconst 1, 1)), (57, .ok (.iadd, 1)), (58, .ok (.invokevirtual 60, 3)), (61, .ok (.aload_n 0, 1)), (62, .ok (.getfield 18, 3)), (65, .ok (.iload_n 3, 1)), (66, .ok (.invokevirtual 64, 3)), (69, .ok (.iload_n 2, 1)), (70, .ok (.if_icmp .ne 6, 3)), (73, .ok (.iload 5, 2)), (75, .ok (.ireturn, 1))]
theorem da_3 : dl_3.all (fun q => decide (decode cX0_firstToCome q.1 = q.2)) = true := by decide +kernel
theorem dX0_firstToCome_0 : decode cX0_firstToCome 0 = .ok (.aload_n 0, 1) := dec_of (decode cX0_firstToCome) da_3 0 rfl
theorem dX0_firstToCome_1 : decode cX0_firstToCome 1 = .ok (.aload_n 1, 1) := dec_of (decode cX0_firstToCome) da_3 1 rfl
theorem dX0_firstToCome_2 : decode cX0_firstToCome 2 = .ok (.invokevirtual 42, 3) := dec_of (decode cX0_firstToCome) da_3 2 rfl
theorem dX0_firstToCome_5 : decode cX0_firstToCome 5 = .ok (.aload_n 0, 1) := dec_of (decode cX0_firstToCome) da_3 3 rfl
theorem dX0_firstToCome_6 : decode cX0_firstToCome 6 = .ok (.getfield 12, 3) := dec_of (decode cX0_firstToCome) da_3 4 rfl
theorem dX0_firstToCome_9 : decode cX0_firstToCome 9 = .ok (.getfield 57, 3) := dec_of (decode cX0_firstToCome) da_3 5 rfl
theorem dX0_firstToCome_12 : decode cX0_firstToCome 12 = .ok (.iload_n 2, 1) := dec_of (decode cX0_firstToCome) da_3 6 rfl
theorem dX0_firstToCome_13 : decode cX0_firstToCome 13 = .ok (.iconst (-1), 1) := dec_of (decode cX0_firstToCome) da_3 7 rfl
theorem dX0_firstToCome_14 : decode cX0_firstToCome 14 = .ok (.iastore, 1) := dec_of (decode cX0_firstToCome) da_3 8 rfl
theorem dX0_firstToCome_15 : decode cX0_firstToCome 15 = .ok (.aload_n 1, 1) := dec_of (decode cX0_firstToCome) da_3 9 rfl
theorem dX0_firstToCome_16 : decode cX0_firstToCome 16 = .ok (.getfield 45, 3) := dec_of (decode cX0_firstToCome) da_3 10 rfl
theorem dX0_firstToCome_19 : decode cX0_firstToCome 19 = .ok (.istore 5, 2) := dec_of (decode cX0_firstToCome) da_3 11 rfl
theorem dX0_firstToCome_21 : decode cX0_firstToCome 21 = .ok (.iload 5, 2) := dec_of (decode cX0_firstToCome) da_3 12 rfl
theorem dX0_firstToCome_23 : decode cX0_firstToCome 23 = .ok (.iload 4, 2) := dec_of (decode cX0_firstToCome) da_3 13 rfl
theorem dX0_firstToCome_25 : decode cX0_firstToCome 25 = .ok (.if_icmp .gt 64, 3) := dec_of (decode cX0_firstToCome) da_3 14 rfl
theorem dX0_firstToCome_28 : decode cX0_firstToCome 28 = .ok (.aload_n 0, 1) := dec_of (decode cX0_firstToCome) da_3 15 rfl
theorem dX0_firstToCome_29 : decode cX0_firstToCome 29 = .ok (.getfield 18, 3) := dec_of (decode cX0_firstToCome) da_3 16 rfl
theorem dX0_firstToCome_32 : decode cX0_firstToCome 32 = .ok (.aload_n 0, 1) := dec_of (decode cX0_firstToCome) da_3 17 rfl
theorem dX0_firstToCome_33 : decode cX0_firstToCome 33 = .ok (.getfield 12, 3) := dec_of (decode cX0_firstToCome) da_3 18 rfl
theorem dX0_firstToCome_36 : decode cX0_firstToCome 36 = .ok (.invokevirtual 35, 3) := dec_of (decode cX0_firstToCome) da_3 19 rfl
theorem dX0_firstToCome_39 : decode cX0_firstToCome 39 = .ok (.aload_n 0, 1) := dec_of (decode cX0_firstToCome) da_3 20 rfl
theorem dX0_firstToCome_40 : decode cX0_firstToCome 40 = .ok (.getfield 18, 3) := dec_of (decode cX0_firstToCome) da_3 21 rfl
theorem dX0_firstToCome_43 : decode cX0_firstToCome 43 = .ok (.getfield 57, 3) := dec_of (decode cX0_firstToCome) da_3 22 rfl
theorem dX0_firstToCome_46 : decode cX0_firstToCome 46 = .ok (.iload_n 2, 1) := dec_of (decode cX0_firstToCome) da_3 23 rfl
theorem dX0_firstToCome_47 : decode cX0_firstToCome 47 = .ok (.iload 5, 2) := dec_of (decode cX0_firstToCome) da_3 24 rfl
theorem dX0_firstToCome_49 : decode cX0_firstToCome 49 = .ok (.iastore, 1) := dec_of (decode cX0_firstToCome) da_3 25 rfl
theorem dX0_firstToCome_50 : decode cX0_firstToCome 50 = .ok (.aload_n 0, 1) := dec_of (decode cX0_firstToCome) da_3 26 rfl
theorem dX0_firstToCome_51 : decode cX0_firstToCome 51 = .ok (.getfield 18, 3) := dec_of (decode cX0_firstToCome) da_3 27 rfl
theorem dX0_firstToCome_54 : decode cX0_firstToCome 54 = .ok (.iload 4, 2) := dec_of (decode cX0_firstToCome) da_3 28 rfl
theorem dX0_firstToCome_56 : decode cX0_firstToCome 56 = .ok (.iconst 1, 1) := dec_of (decode cX0_firstToCome) da_3 29 rfl
theorem dX0_firstToCome_57 : decode cX0_firstToCome 57 = .ok (.iadd, 1) := dec_of (decode cX0_firstToCome) da_3 30 rfl
theorem dX0_firstToCome_58 : decode cX0_firstToCome 58 = .ok (.invokevirtual 60, 3) := dec_of (decode cX0_firstToCome) da_3 31 rfl
theorem dX0_firstToCome_61 : decode cX0_firstToCome 61 = .ok (.aload_n 0, 1) := dec_of (decode cX0_firstToCome) da_3 32 rfl
theorem dX0_firstToCome_62 : decode cX0_firstToCome 62 = .ok (.getfield 18, 3) := dec_of (decode cX0_firstToCome) da_3 33 rfl
theorem dX0_firstToCome_65 : decode cX0_firstToCome 65 = .ok (.iload_n 3, 1) := dec_of (decode cX0_firstToCome) da_3 34 rfl
theorem dX0_firstToCome_66 : decode cX0_firstToCome 66 = .ok (.invokevirtual 64, 3) := dec_of (decode cX0_firstToCome) da_3 35 rfl
theorem dX0_firstToCome_69 : decode cX0_firstToCome 69 = .ok (.iload_n 2, 1) := dec_of (decode cX0_firstToCome) da_3 36 rfl
theorem dX0_firstToCome_70 : decode cX0_firstToCome 70 = .ok (.if_icmp .ne 6, 3) := dec_of (decode cX0_firstToCome) da_3 37 rfl
theorem dX0_firstToCome_73 : decode cX0_firstToCome 73 = .ok (.iload 5, 2) := dec_of (decode cX0_firstToCome) da_3 38 rfl
theorem dX0_firstToCome_75 : decode cX0_firstToCome 75 = .ok (.ireturn, 1) := dec_of (decode cX0_firstToCome) da_3 39 rfl
abbrev dl_4 : List (Nat × Except DecodeError (Instr × Nat)) := [(76, .ok (.aload_n 0, 1)), (77, .ok (.getfield 12, 3)), (80, .ok (.invokevirtual 51, 3)), (83, .ok (.iinc 5 1, 3)), (86, .ok (.goto (-65), 3)), (89, .ok (.bipush (-2), 2)), (91, .ok (.ireturn, 1))]
theorem da_4 : dl_4.all (fun q => decide (decode cX0_firstToCome q.1 = q.2)) = true := by decide +kernel
theorem dX0_firstToCome_76 : decode cX0_firstToCome 76 = .ok (.aload_n 0, 1) := dec_of (decode cX0_firstToCome) da_4 0 rfl
theorem dX0_firstToCome_77 : decode cX0_firstToCome 77 = .ok (.getfield 12, 3) := dec_of (decode cX0_firstToCome) da_4 1 rfl
theorem dX0_firstToCome_80 : decode cX0_firstToCome 80 = .ok (.invokevirtual 51, 3) := dec_of (decode cX0_firstToCome) da_4 2 rfl
theorem dX0_firstToCome_83 : decode cX0_firstToCome 83 = .ok (.iinc 5 1, 3) := dec_of (decode cX0_firstToCome) da_4 3 rfl
theorem dX0_firstToCome_86 : decode cX0_firstToCome 86 = .ok (.goto (-65), 3) := dec_of (decode cX0_firstToCome) da_4 4 rfl
theorem dX0_firstToCome_89 : decode cX0_firstToCome 89 = .ok (.bipush (-2), 2) := dec_of (decode cX0_firstToCome) da_4 5 rfl
theorem dX0_firstToCome_91 : decode cX0_firstToCome 91 = .ok (.ireturn, 1) := dec_of (decode cX0_firstToCome) da_4 6 rfl
abbrev dl_5 : List (Nat × Except DecodeError (Instr × Nat)) := [(0, .ok (.iload_n 2, 1)), (1, .ok (.aload_n 1, 1)), (2, .ok (.getfield 68, 3)), (5, .ok (.invokestatic 71, 3)), (8, .ok (.istore 5, 2)), (10, .ok (.iload 5, 2)), (12, .ok (.iload_n 3, 1)), (13, .ok (.if_icmp .ge 6, 3)), (16, .ok (.bipush (-2), 2)), (18, .ok (.ireturn, 1)), (19, .ok (.iconst 0, 1)), (20, .ok (.istore 6, 2)), (22, .ok (.iconst 0, 1)), (23, .ok (.istore 7, 2)), (25, .ok (.iload 7, 2)), (27, .ok (.iload 5, 2)), (29, .ok (.if_icmp .ge 47, 3)), (32, .ok (.aload_n 1, 1)), (33, .ok (.getfield 77, 3)), (36, .ok (.iload 7, 2)), (38, .ok (.iaload, 1)), (39, .ok (.istore 8, 2)), (41, .ok (.iload 6, 2)), (43, .ok (.aload_n 1, 1)), (44, .ok (.getfield 80, 3)), (47, .ok (.getfield 84, 3)), (50, .ok (.iload 8, 2)), (52, .ok (.aaload, 1)), (53, .ok (.getfield 90, 3)), (56, .ok (.ifCond .eq 7, 3)), (59, .ok (.iconst 0, 1)), (60, .ok (.goto 7, 3)), (63, .ok (.iconst 1, 1)), (64, .ok (.iload 8, 2)), (66, .ok (.ishl, 1)), (67, .ok (.ior, 1)), (68, .ok (.istore 6, 2)), (70, .ok (.iinc 7 1, 3)), (73, .ok (.goto (-48), 3)), (76, .ok (.iload_n 3, 1))]
theorem da_5 : dl_5.all (fun q => decide (decode cX0_bribes q.1 = q.2)) = true := by decide +kernel
theorem dX0_bribes_0 : decode cX0_bribes 0 = .ok (.iload_n 2, 1) := dec_of (decode cX0_bribes) da_5 0 rfl
theorem dX0_bribes_1 : decode cX0_bribes 1 = .ok (.aload_n 1, 1) := dec_of (decode cX0_bribes) da_5 1 rfl
theorem dX0_bribes_2 : decode cX0_bribes 2 = .ok (.getfield 68, 3) := dec_of (decode cX0_bribes) da_5 2 rfl
theorem dX0_bribes_5 : decode cX0_bribes 5 = .ok (.invokestatic 71, 3) := dec_of (decode cX0_bribes) da_5 3 rfl
theorem dX0_bribes_8 : decode cX0_bribes 8 = .ok (.istore 5, 2) := dec_of (decode cX0_bribes) da_5 4 rfl
theorem dX0_bribes_10 : decode cX0_bribes 10 = .ok (.iload 5, 2) := dec_of (decode cX0_bribes) da_5 5 rfl
theorem dX0_bribes_12 : decode cX0_bribes 12 = .ok (.iload_n 3, 1) := dec_of (decode cX0_bribes) da_5 6 rfl
theorem dX0_bribes_13 : decode cX0_bribes 13 = .ok (.if_icmp .ge 6, 3) := dec_of (decode cX0_bribes) da_5 7 rfl
theorem dX0_bribes_16 : decode cX0_bribes 16 = .ok (.bipush (-2), 2) := dec_of (decode cX0_bribes) da_5 8 rfl
theorem dX0_bribes_18 : decode cX0_bribes 18 = .ok (.ireturn, 1) := dec_of (decode cX0_bribes) da_5 9 rfl
theorem dX0_bribes_19 : decode cX0_bribes 19 = .ok (.iconst 0, 1) := dec_of (decode cX0_bribes) da_5 10 rfl
theorem dX0_bribes_20 : decode cX0_bribes 20 = .ok (.istore 6, 2) := dec_of (decode cX0_bribes) da_5 11 rfl
theorem dX0_bribes_22 : decode cX0_bribes 22 = .ok (.iconst 0, 1) := dec_of (decode cX0_bribes) da_5 12 rfl
theorem dX0_bribes_23 : decode cX0_bribes 23 = .ok (.istore 7, 2) := dec_of (decode cX0_bribes) da_5 13 rfl
theorem dX0_bribes_25 : decode cX0_bribes 25 = .ok (.iload 7, 2) := dec_of (decode cX0_bribes) da_5 14 rfl
theorem dX0_bribes_27 : decode cX0_bribes 27 = .ok (.iload 5, 2) := dec_of (decode cX0_bribes) da_5 15 rfl
theorem dX0_bribes_29 : decode cX0_bribes 29 = .ok (.if_icmp .ge 47, 3) := dec_of (decode cX0_bribes) da_5 16 rfl
theorem dX0_bribes_32 : decode cX0_bribes 32 = .ok (.aload_n 1, 1) := dec_of (decode cX0_bribes) da_5 17 rfl
theorem dX0_bribes_33 : decode cX0_bribes 33 = .ok (.getfield 77, 3) := dec_of (decode cX0_bribes) da_5 18 rfl
theorem dX0_bribes_36 : decode cX0_bribes 36 = .ok (.iload 7, 2) := dec_of (decode cX0_bribes) da_5 19 rfl
theorem dX0_bribes_38 : decode cX0_bribes 38 = .ok (.iaload, 1) := dec_of (decode cX0_bribes) da_5 20 rfl
theorem dX0_bribes_39 : decode cX0_bribes 39 = .ok (.istore 8, 2) := dec_of (decode cX0_bribes) da_5 21 rfl
theorem dX0_bribes_41 : decode cX0_bribes 41 = .ok (.iload 6, 2) := dec_of (decode cX0_bribes) da_5 22 rfl
theorem dX0_bribes_43 : decode cX0_bribes 43 = .ok (.aload_n 1, 1) := dec_of (decode cX0_bribes) da_5 23 rfl
theorem dX0_bribes_44 : decode cX0_bribes 44 = .ok (.getfield 80, 3) := dec_of (decode cX0_bribes) da_5 24 rfl
theorem dX0_bribes_47 : decode cX0_bribes 47 = .ok (.getfield 84, 3) := dec_of (decode cX0_bribes) da_5 25 rfl
theorem dX0_bribes_50 : decode cX0_bribes 50 = .ok (.iload 8, 2) := dec_of (decode cX0_bribes) da_5 26 rfl
theorem dX0_bribes_52 : decode cX0_bribes 52 = .ok (.aaload, 1) := dec_of (decode cX0_bribes) da_5 27 rfl
theorem dX0_bribes_53 : decode cX0_bribes 53 = .ok (.getfield 90, 3) := dec_of (decode cX0_bribes) da_5 28 rfl
theorem dX0_bribes_56 : decode cX0_bribes 56 = .ok (.ifCond .eq 7, 3) := dec_of (decode cX0_bribes) da_5 29 rfl
theorem dX0_bribes_59 : decode cX0_bribes 59 = .ok (.iconst 0, 1) := dec_of (decode cX0_bribes) da_5 30 rfl
theorem dX0_bribes_60 : decode cX0_bribes 60 = .ok (.goto 7, 3) := dec_of (decode cX0_bribes) da_5 31 rfl
theorem dX0_bribes_63 : decode cX0_bribes 63 = .ok (.iconst 1, 1) := dec_of (decode cX0_bribes) da_5 32 rfl
theorem dX0_bribes_64 : decode cX0_bribes 64 = .ok (.iload 8, 2) := dec_of (decode cX0_bribes) da_5 33 rfl
theorem dX0_bribes_66 : decode cX0_bribes 66 = .ok (.ishl, 1) := dec_of (decode cX0_bribes) da_5 34 rfl
theorem dX0_bribes_67 : decode cX0_bribes 67 = .ok (.ior, 1) := dec_of (decode cX0_bribes) da_5 35 rfl
theorem dX0_bribes_68 : decode cX0_bribes 68 = .ok (.istore 6, 2) := dec_of (decode cX0_bribes) da_5 36 rfl
theorem dX0_bribes_70 : decode cX0_bribes 70 = .ok (.iinc 7 1, 3) := dec_of (decode cX0_bribes) da_5 37 rfl
theorem dX0_bribes_73 : decode cX0_bribes 73 = .ok (.goto (-48), 3) := dec_of (decode cX0_bribes) da_5 38 rfl
theorem dX0_bribes_76 : decode cX0_bribes 76 = .ok (.iload_n 3, 1) := dec_of (decode cX0_bribes) da_5 39 rfl
abbrev dl_6 : List (Nat × Except DecodeError (Instr × Nat)) := [(77, .ok (.iload 5, 2)), (79, .ok (.iload 6, 2)), (81, .ok (.invokestatic 96, 3)), (84, .ok (.isub, 1)), (85, .ok (.isub, 1)), (86, .ok (.istore 7, 2)), (88, .ok (.ldc 101, 2)), (90, .ok (.istore 8, 2)), (92, .ok (.iconst 0, 1)), (93, .ok (.istore 9, 2)), (95, .ok (.iconst 0, 1)), (96, .ok (.istore 10, 2)), (98, .ok (.iload 10, 2)), (100, .ok (.sipush 256, 3)), (103, .ok (.if_icmp .ge 55, 3)), (106, .ok (.iload 10, 2)), (108, .ok (.iload 6, 2)), (110, .ok (.iconst (-1), 1)), (111, .ok (.ixor, 1)), (112, .ok (.iand, 1)), (113, .ok (.ifCond .ne 39, 3)), (116, .ok (.iload 10, 2)), (118, .ok (.invokestatic 96, 3)), (121, .ok (.iload 7, 2)), (123, .ok (.if_icmp .lt 29, 3)), (126, .ok (.aload_n 1, 1)), (127, .ok (.getfield 80, 3)), (130, .ok (.iload 10, 2)), (132, .ok (.invokestatic 102, 3)), (135, .ok (.istore 11, 2)), (137, .ok (.iload 11, 2)), (139, .ok (.iload 8, 2)), (141, .ok (.if_icmp .ge 11, 3)), (144, .ok (.iload 11, 2)), (146, .ok (.istore 8, 2)), (148, .ok (.iload 10, 2)), (150, .ok (.istore 9, 2)), (152, .ok (.iinc 10 1, 3)), (155, .ok (.goto (-57), 3)), (158, .ok (.iload 4, 2))]
theorem da_6 : dl_6.all (fun q => decide (decode cX0_bribes q.1 = q.2)) = true := by decide +kernel
theorem dX0_bribes_77 : decode cX0_bribes 77 = .ok (.iload 5, 2) := dec_of (decode cX0_bribes) da_6 0 rfl
theorem dX0_bribes_79 : decode cX0_bribes 79 = .ok (.iload 6, 2) := dec_of (decode cX0_bribes) da_6 1 rfl
theorem dX0_bribes_81 : decode cX0_bribes 81 = .ok (.invokestatic 96, 3) := dec_of (decode cX0_bribes) da_6 2 rfl
theorem dX0_bribes_84 : decode cX0_bribes 84 = .ok (.isub, 1) := dec_of (decode cX0_bribes) da_6 3 rfl
theorem dX0_bribes_85 : decode cX0_bribes 85 = .ok (.isub, 1) := dec_of (decode cX0_bribes) da_6 4 rfl
theorem dX0_bribes_86 : decode cX0_bribes 86 = .ok (.istore 7, 2) := dec_of (decode cX0_bribes) da_6 5 rfl
theorem dX0_bribes_88 : decode cX0_bribes 88 = .ok (.ldc 101, 2) := dec_of (decode cX0_bribes) da_6 6 rfl
theorem dX0_bribes_90 : decode cX0_bribes 90 = .ok (.istore 8, 2) := dec_of (decode cX0_bribes) da_6 7 rfl
theorem dX0_bribes_92 : decode cX0_bribes 92 = .ok (.iconst 0, 1) := dec_of (decode cX0_bribes) da_6 8 rfl
theorem dX0_bribes_93 : decode cX0_bribes 93 = .ok (.istore 9, 2) := dec_of (decode cX0_bribes) da_6 9 rfl
theorem dX0_bribes_95 : decode cX0_bribes 95 = .ok (.iconst 0, 1) := dec_of (decode cX0_bribes) da_6 10 rfl
theorem dX0_bribes_96 : decode cX0_bribes 96 = .ok (.istore 10, 2) := dec_of (decode cX0_bribes) da_6 11 rfl
theorem dX0_bribes_98 : decode cX0_bribes 98 = .ok (.iload 10, 2) := dec_of (decode cX0_bribes) da_6 12 rfl
theorem dX0_bribes_100 : decode cX0_bribes 100 = .ok (.sipush 256, 3) := dec_of (decode cX0_bribes) da_6 13 rfl
theorem dX0_bribes_103 : decode cX0_bribes 103 = .ok (.if_icmp .ge 55, 3) := dec_of (decode cX0_bribes) da_6 14 rfl
theorem dX0_bribes_106 : decode cX0_bribes 106 = .ok (.iload 10, 2) := dec_of (decode cX0_bribes) da_6 15 rfl
theorem dX0_bribes_108 : decode cX0_bribes 108 = .ok (.iload 6, 2) := dec_of (decode cX0_bribes) da_6 16 rfl
theorem dX0_bribes_110 : decode cX0_bribes 110 = .ok (.iconst (-1), 1) := dec_of (decode cX0_bribes) da_6 17 rfl
theorem dX0_bribes_111 : decode cX0_bribes 111 = .ok (.ixor, 1) := dec_of (decode cX0_bribes) da_6 18 rfl
theorem dX0_bribes_112 : decode cX0_bribes 112 = .ok (.iand, 1) := dec_of (decode cX0_bribes) da_6 19 rfl
theorem dX0_bribes_113 : decode cX0_bribes 113 = .ok (.ifCond .ne 39, 3) := dec_of (decode cX0_bribes) da_6 20 rfl
theorem dX0_bribes_116 : decode cX0_bribes 116 = .ok (.iload 10, 2) := dec_of (decode cX0_bribes) da_6 21 rfl
theorem dX0_bribes_118 : decode cX0_bribes 118 = .ok (.invokestatic 96, 3) := dec_of (decode cX0_bribes) da_6 22 rfl
theorem dX0_bribes_121 : decode cX0_bribes 121 = .ok (.iload 7, 2) := dec_of (decode cX0_bribes) da_6 23 rfl
theorem dX0_bribes_123 : decode cX0_bribes 123 = .ok (.if_icmp .lt 29, 3) := dec_of (decode cX0_bribes) da_6 24 rfl
theorem dX0_bribes_126 : decode cX0_bribes 126 = .ok (.aload_n 1, 1) := dec_of (decode cX0_bribes) da_6 25 rfl
theorem dX0_bribes_127 : decode cX0_bribes 127 = .ok (.getfield 80, 3) := dec_of (decode cX0_bribes) da_6 26 rfl
theorem dX0_bribes_130 : decode cX0_bribes 130 = .ok (.iload 10, 2) := dec_of (decode cX0_bribes) da_6 27 rfl
theorem dX0_bribes_132 : decode cX0_bribes 132 = .ok (.invokestatic 102, 3) := dec_of (decode cX0_bribes) da_6 28 rfl
theorem dX0_bribes_135 : decode cX0_bribes 135 = .ok (.istore 11, 2) := dec_of (decode cX0_bribes) da_6 29 rfl
theorem dX0_bribes_137 : decode cX0_bribes 137 = .ok (.iload 11, 2) := dec_of (decode cX0_bribes) da_6 30 rfl
theorem dX0_bribes_139 : decode cX0_bribes 139 = .ok (.iload 8, 2) := dec_of (decode cX0_bribes) da_6 31 rfl
theorem dX0_bribes_141 : decode cX0_bribes 141 = .ok (.if_icmp .ge 11, 3) := dec_of (decode cX0_bribes) da_6 32 rfl
theorem dX0_bribes_144 : decode cX0_bribes 144 = .ok (.iload 11, 2) := dec_of (decode cX0_bribes) da_6 33 rfl
theorem dX0_bribes_146 : decode cX0_bribes 146 = .ok (.istore 8, 2) := dec_of (decode cX0_bribes) da_6 34 rfl
theorem dX0_bribes_148 : decode cX0_bribes 148 = .ok (.iload 10, 2) := dec_of (decode cX0_bribes) da_6 35 rfl
theorem dX0_bribes_150 : decode cX0_bribes 150 = .ok (.istore 9, 2) := dec_of (decode cX0_bribes) da_6 36 rfl
theorem dX0_bribes_152 : decode cX0_bribes 152 = .ok (.iinc 10 1, 3) := dec_of (decode cX0_bribes) da_6 37 rfl
theorem dX0_bribes_155 : decode cX0_bribes 155 = .ok (.goto (-57), 3) := dec_of (decode cX0_bribes) da_6 38 rfl
theorem dX0_bribes_158 : decode cX0_bribes 158 = .ok (.iload 4, 2) := dec_of (decode cX0_bribes) da_6 39 rfl
abbrev dl_7 : List (Nat × Except DecodeError (Instr × Nat)) := [(160, .ok (.ifCond .ne 8, 3)), (163, .ok (.iload 8, 2)), (165, .ok (.goto 5, 3)), (168, .ok (.iload 9, 2)), (170, .ok (.ireturn, 1))]
theorem da_7 : dl_7.all (fun q => decide (decode cX0_bribes q.1 = q.2)) = true := by decide +kernel
theorem dX0_bribes_160 : decode cX0_bribes 160 = .ok (.ifCond .ne 8, 3) := dec_of (decode cX0_bribes) da_7 0 rfl
theorem dX0_bribes_163 : decode cX0_bribes 163 = .ok (.iload 8, 2) := dec_of (decode cX0_bribes) da_7 1 rfl
theorem dX0_bribes_165 : decode cX0_bribes 165 = .ok (.goto 5, 3) := dec_of (decode cX0_bribes) da_7 2 rfl
theorem dX0_bribes_168 : decode cX0_bribes 168 = .ok (.iload 9, 2) := dec_of (decode cX0_bribes) da_7 3 rfl
theorem dX0_bribes_170 : decode cX0_bribes 170 = .ok (.ireturn, 1) := dec_of (decode cX0_bribes) da_7 4 rfl
abbrev dl_8 : List (Nat × Except DecodeError (Instr × Nat)) := [(0, .ok (.iconst 0, 1)), (1, .ok (.istore_n 2, 1)), (2, .ok (.iconst 0, 1)), (3, .ok (.istore_n 3, 1)), (4, .ok (.iload_n 3, 1)), (5, .ok (.aload_n 0, 1)), (6, .ok (.getfield 106, 3)), (9, .ok (.if_icmp .ge 29, 3)), (12, .ok (.iload_n 1, 1)), (13, .ok (.iload_n 3, 1)), (14, .ok (.ishr, 1)), (15, .ok (.iconst 1, 1)), (16, .ok (.iand, 1)), (17, .ok (.ifCond .eq 15, 3)), (20, .ok (.iload_n 2, 1)), (21, .ok (.aload_n 0, 1)), (22, .ok (.getfield 84, 3)), (25, .ok (.iload_n 3, 1)), (26, .ok (.aaload, 1)), (27, .ok (.getfield 109, 3)), (30, .ok (.iadd, 1)), (31, .ok (.istore_n 2, 1)), (32, .ok (.iinc 3 1, 3)), (35, .ok (.goto (-31), 3)), (38, .ok (.iload_n 2, 1)), (39, .ok (.ireturn, 1))]
theorem da_8 : dl_8.all (fun q => decide (decode cX0_price q.1 = q.2)) = true := by decide +kernel
theorem dX0_price_0 : decode cX0_price 0 = .ok (.iconst 0, 1) := dec_of (decode cX0_price) da_8 0 rfl
theorem dX0_price_1 : decode cX0_price 1 = .ok (.istore_n 2, 1) := dec_of (decode cX0_price) da_8 1 rfl
theorem dX0_price_2 : decode cX0_price 2 = .ok (.iconst 0, 1) := dec_of (decode cX0_price) da_8 2 rfl
theorem dX0_price_3 : decode cX0_price 3 = .ok (.istore_n 3, 1) := dec_of (decode cX0_price) da_8 3 rfl
theorem dX0_price_4 : decode cX0_price 4 = .ok (.iload_n 3, 1) := dec_of (decode cX0_price) da_8 4 rfl
theorem dX0_price_5 : decode cX0_price 5 = .ok (.aload_n 0, 1) := dec_of (decode cX0_price) da_8 5 rfl
theorem dX0_price_6 : decode cX0_price 6 = .ok (.getfield 106, 3) := dec_of (decode cX0_price) da_8 6 rfl
theorem dX0_price_9 : decode cX0_price 9 = .ok (.if_icmp .ge 29, 3) := dec_of (decode cX0_price) da_8 7 rfl
theorem dX0_price_12 : decode cX0_price 12 = .ok (.iload_n 1, 1) := dec_of (decode cX0_price) da_8 8 rfl
theorem dX0_price_13 : decode cX0_price 13 = .ok (.iload_n 3, 1) := dec_of (decode cX0_price) da_8 9 rfl
theorem dX0_price_14 : decode cX0_price 14 = .ok (.ishr, 1) := dec_of (decode cX0_price) da_8 10 rfl
theorem dX0_price_15 : decode cX0_price 15 = .ok (.iconst 1, 1) := dec_of (decode cX0_price) da_8 11 rfl
theorem dX0_price_16 : decode cX0_price 16 = .ok (.iand, 1) := dec_of (decode cX0_price) da_8 12 rfl
theorem dX0_price_17 : decode cX0_price 17 = .ok (.ifCond .eq 15, 3) := dec_of (decode cX0_price) da_8 13 rfl
theorem dX0_price_20 : decode cX0_price 20 = .ok (.iload_n 2, 1) := dec_of (decode cX0_price) da_8 14 rfl
theorem dX0_price_21 : decode cX0_price 21 = .ok (.aload_n 0, 1) := dec_of (decode cX0_price) da_8 15 rfl
theorem dX0_price_22 : decode cX0_price 22 = .ok (.getfield 84, 3) := dec_of (decode cX0_price) da_8 16 rfl
theorem dX0_price_25 : decode cX0_price 25 = .ok (.iload_n 3, 1) := dec_of (decode cX0_price) da_8 17 rfl
theorem dX0_price_26 : decode cX0_price 26 = .ok (.aaload, 1) := dec_of (decode cX0_price) da_8 18 rfl
theorem dX0_price_27 : decode cX0_price 27 = .ok (.getfield 109, 3) := dec_of (decode cX0_price) da_8 19 rfl
theorem dX0_price_30 : decode cX0_price 30 = .ok (.iadd, 1) := dec_of (decode cX0_price) da_8 20 rfl
theorem dX0_price_31 : decode cX0_price 31 = .ok (.istore_n 2, 1) := dec_of (decode cX0_price) da_8 21 rfl
theorem dX0_price_32 : decode cX0_price 32 = .ok (.iinc 3 1, 3) := dec_of (decode cX0_price) da_8 22 rfl
theorem dX0_price_35 : decode cX0_price 35 = .ok (.goto (-31), 3) := dec_of (decode cX0_price) da_8 23 rfl
theorem dX0_price_38 : decode cX0_price 38 = .ok (.iload_n 2, 1) := dec_of (decode cX0_price) da_8 24 rfl
theorem dX0_price_39 : decode cX0_price 39 = .ok (.ireturn, 1) := dec_of (decode cX0_price) da_8 25 rfl
abbrev dl_9 : List (Nat × Except DecodeError (Instr × Nat)) := [(0, .ok (.aload_n 1, 1)), (1, .ok (.invokevirtual 112, 3)), (4, .ok (.istore_n 2, 1)), (5, .ok (.aload_n 1, 1)), (6, .ok (.invokevirtual 116, 3)), (9, .ok (.ifCond .ne 11, 3)), (12, .ok (.iload_n 2, 1)), (13, .ok (.aload_n 1, 1)), (14, .ok (.invokevirtual 120, 3)), (17, .ok (.if_icmp .le 6, 3)), (20, .ok (.bipush (-2), 2)), (22, .ok (.ireturn, 1)), (23, .ok (.iconst 0, 1)), (24, .ok (.istore_n 3, 1)), (25, .ok (.iconst 1, 1)), (26, .ok (.istore 4, 2)), (28, .ok (.iload 4, 2)), (30, .ok (.iload_n 2, 1)), (31, .ok (.if_icmp .gt 21, 3)), (34, .ok (.iload_n 3, 1)), (35, .ok (.iconst 1, 1)), (36, .ok (.aload_n 1, 1)), (37, .ok (.getfield 77, 3)), (40, .ok (.iload 4, 2)), (42, .ok (.iaload, 1)), (43, .ok (.ishl, 1)), (44, .ok (.ior, 1)), (45, .ok (.istore_n 3, 1)), (46, .ok (.iinc 4 1, 3)), (49, .ok (.goto (-21), 3)), (52, .ok (.iload_n 3, 1)), (53, .ok (.ireturn, 1))]
theorem da_9 : dl_9.all (fun q => decide (decode cX0_plotters q.1 = q.2)) = true := by decide +kernel
theorem dX0_plotters_0 : decode cX0_plotters 0 = .ok (.aload_n 1, 1) := dec_of (decode cX0_plotters) da_9 0 rfl
theorem dX0_plotters_1 : decode cX0_plotters 1 = .ok (.invokevirtual 112, 3) := dec_of (decode cX0_plotters) da_9 1 rfl
theorem dX0_plotters_4 : decode cX0_plotters 4 = .ok (.istore_n 2, 1) := dec_of (decode cX0_plotters) da_9 2 rfl
theorem dX0_plotters_5 : decode cX0_plotters 5 = .ok (.aload_n 1, 1) := dec_of (decode cX0_plotters) da_9 3 rfl
theorem dX0_plotters_6 : decode cX0_plotters 6 = .ok (.invokevirtual 116, 3) := dec_of (decode cX0_plotters) da_9 4 rfl
theorem dX0_plotters_9 : decode cX0_plotters 9 = .ok (.ifCond .ne 11, 3) := dec_of (decode cX0_plotters) da_9 5 rfl
theorem dX0_plotters_12 : decode cX0_plotters 12 = .ok (.iload_n 2, 1) := dec_of (decode cX0_plotters) da_9 6 rfl
theorem dX0_plotters_13 : decode cX0_plotters 13 = .ok (.aload_n 1, 1) := dec_of (decode cX0_plotters) da_9 7 rfl
theorem dX0_plotters_14 : decode cX0_plotters 14 = .ok (.invokevirtual 120, 3) := dec_of (decode cX0_plotters) da_9 8 rfl
theorem dX0_plotters_17 : decode cX0_plotters 17 = .ok (.if_icmp .le 6, 3) := dec_of (decode cX0_plotters) da_9 9 rfl
theorem dX0_plotters_20 : decode cX0_plotters 20 = .ok (.bipush (-2), 2) := dec_of (decode cX0_plotters) da_9 10 rfl
theorem dX0_plotters_22 : decode cX0_plotters 22 = .ok (.ireturn, 1) := dec_of (decode cX0_plotters) da_9 11 rfl
theorem dX0_plotters_23 : decode cX0_plotters 23 = .ok (.iconst 0, 1) := dec_of (decode cX0_plotters) da_9 12 rfl
theorem dX0_plotters_24 : decode cX0_plotters 24 = .ok (.istore_n 3, 1) := dec_of (decode cX0_plotters) da_9 13 rfl
theorem dX0_plotters_25 : decode cX0_plotters 25 = .ok (.iconst 1, 1) := dec_of (decode cX0_plotters) da_9 14 rfl
theorem dX0_plotters_26 : decode cX0_plotters 26 = .ok (.istore 4, 2) := dec_of (decode cX0_plotters) da_9 15 rfl
theorem dX0_plotters_28 : decode cX0_plotters 28 = .ok (.iload 4, 2) := dec_of (decode cX0_plotters) da_9 16 rfl
theorem dX0_plotters_30 : decode cX0_plotters 30 = .ok (.iload_n 2, 1) := dec_of (decode cX0_plotters) da_9 17 rfl
theorem dX0_plotters_31 : decode cX0_plotters 31 = .ok (.if_icmp .gt 21, 3) := dec_of (decode cX0_plotters) da_9 18 rfl
theorem dX0_plotters_34 : decode cX0_plotters 34 = .ok (.iload_n 3, 1) := dec_of (decode cX0_plotters) da_9 19 rfl
theorem dX0_plotters_35 : decode cX0_plotters 35 = .ok (.iconst 1, 1) := dec_of (decode cX0_plotters) da_9 20 rfl
theorem dX0_plotters_36 : decode cX0_plotters 36 = .ok (.aload_n 1, 1) := dec_of (decode cX0_plotters) da_9 21 rfl
theorem dX0_plotters_37 : decode cX0_plotters 37 = .ok (.getfield 77, 3) := dec_of (decode cX0_plotters) da_9 22 rfl
theorem dX0_plotters_40 : decode cX0_plotters 40 = .ok (.iload 4, 2) := dec_of (decode cX0_plotters) da_9 23 rfl
theorem dX0_plotters_42 : decode cX0_plotters 42 = .ok (.iaload, 1) := dec_of (decode cX0_plotters) da_9 24 rfl
theorem dX0_plotters_43 : decode cX0_plotters 43 = .ok (.ishl, 1) := dec_of (decode cX0_plotters) da_9 25 rfl
theorem dX0_plotters_44 : decode cX0_plotters 44 = .ok (.ior, 1) := dec_of (decode cX0_plotters) da_9 26 rfl
theorem dX0_plotters_45 : decode cX0_plotters 45 = .ok (.istore_n 3, 1) := dec_of (decode cX0_plotters) da_9 27 rfl
theorem dX0_plotters_46 : decode cX0_plotters 46 = .ok (.iinc 4 1, 3) := dec_of (decode cX0_plotters) da_9 28 rfl
theorem dX0_plotters_49 : decode cX0_plotters 49 = .ok (.goto (-21), 3) := dec_of (decode cX0_plotters) da_9 29 rfl
theorem dX0_plotters_52 : decode cX0_plotters 52 = .ok (.iload_n 3, 1) := dec_of (decode cX0_plotters) da_9 30 rfl
theorem dX0_plotters_53 : decode cX0_plotters 53 = .ok (.ireturn, 1) := dec_of (decode cX0_plotters) da_9 31 rfl
abbrev dl_10 : List (Nat × Except DecodeError (Instr × Nat)) := [(0, .ok (.iconst 4, 1)), (1, .ok (.bipush 59, 2)), (3, .ok (.aload_n 1, 1)), (4, .ok (.getfield 45, 3)), (7, .ok (.isub, 1)), (8, .ok (.iconst 1, 1)), (9, .ok (.iadd, 1)), (10, .ok (.invokestatic 71, 3)), (13, .ok (.istore 5, 2)), (15, .ok (.iconst 0, 1)), (16, .ok (.istore 6, 2)), (18, .ok (.iload 6, 2)), (20, .ok (.iload 5, 2)), (22, .ok (.if_icmp .ge 110, 3)), (25, .ok (.iconst 0, 1)), (26, .ok (.istore 7, 2)), (28, .ok (.iload 7, 2)), (30, .ok (.iload 5, 2)), (32, .ok (.if_icmp .ge 94, 3)), (35, .ok (.aload_n 0, 1)), (36, .ok (.aload_n 1, 1)), (37, .ok (.invokevirtual 42, 3)), (40, .ok (.aload_n 0, 1)), (41, .ok (.getfield 12, 3)), (44, .ok (.getfield 57, 3)), (47, .ok (.iload_n 2, 1)), (48, .ok (.aload_n 1, 1)), (49, .ok (.getfield 45, 3)), (52, .ok (.iload 6, 2)), (54, .ok (.iadd, 1)), (55, .ok (.iastore, 1)), (56, .ok (.aload_n 0, 1)), (57, .ok (.getfield 12, 3)), (60, .ok (.getfield 57, 3)), (63, .ok (.iload_n 3, 1)), (64, .ok (.aload_n 1, 1)), (65, .ok (.getfield 45, 3)), (68, .ok (.iload 7, 2)), (70, .ok (.iadd, 1)), (71, .ok (.iastore, 1))]
theorem da_10 : dl_10.all (fun q => decide (decode cX0_play q.1 = q.2)) = true := by decide +kernel
theorem dX0_play_0 : decode cX0_play 0 = .ok (.iconst 4, 1) := dec_of (decode cX0_play) da_10 0 rfl
theorem dX0_play_1 : decode cX0_play 1 = .ok (.bipush 59, 2) := dec_of (decode cX0_play) da_10 1 rfl
theorem dX0_play_3 : decode cX0_play 3 = .ok (.aload_n 1, 1) := dec_of (decode cX0_play) da_10 2 rfl
theorem dX0_play_4 : decode cX0_play 4 = .ok (.getfield 45, 3) := dec_of (decode cX0_play) da_10 3 rfl
theorem dX0_play_7 : decode cX0_play 7 = .ok (.isub, 1) := dec_of (decode cX0_play) da_10 4 rfl
theorem dX0_play_8 : decode cX0_play 8 = .ok (.iconst 1, 1) := dec_of (decode cX0_play) da_10 5 rfl
theorem dX0_play_9 : decode cX0_play 9 = .ok (.iadd, 1) := dec_of (decode cX0_play) da_10 6 rfl
theorem dX0_play_10 : decode cX0_play 10 = .ok (.invokestatic 71, 3) := dec_of (decode cX0_play) da_10 7 rfl
theorem dX0_play_13 : decode cX0_play 13 = .ok (.istore 5, 2) := dec_of (decode cX0_play) da_10 8 rfl
theorem dX0_play_15 : decode cX0_play 15 = .ok (.iconst 0, 1) := dec_of (decode cX0_play) da_10 9 rfl
theorem dX0_play_16 : decode cX0_play 16 = .ok (.istore 6, 2) := dec_of (decode cX0_play) da_10 10 rfl
theorem dX0_play_18 : decode cX0_play 18 = .ok (.iload 6, 2) := dec_of (decode cX0_play) da_10 11 rfl
theorem dX0_play_20 : decode cX0_play 20 = .ok (.iload 5, 2) := dec_of (decode cX0_play) da_10 12 rfl
theorem dX0_play_22 : decode cX0_play 22 = .ok (.if_icmp .ge 110, 3) := dec_of (decode cX0_play) da_10 13 rfl
theorem dX0_play_25 : decode cX0_play 25 = .ok (.iconst 0, 1) := dec_of (decode cX0_play) da_10 14 rfl
theorem dX0_play_26 : decode cX0_play 26 = .ok (.istore 7, 2) := dec_of (decode cX0_play) da_10 15 rfl
theorem dX0_play_28 : decode cX0_play 28 = .ok (.iload 7, 2) := dec_of (decode cX0_play) da_10 16 rfl
theorem dX0_play_30 : decode cX0_play 30 = .ok (.iload 5, 2) := dec_of (decode cX0_play) da_10 17 rfl
theorem dX0_play_32 : decode cX0_play 32 = .ok (.if_icmp .ge 94, 3) := dec_of (decode cX0_play) da_10 18 rfl
theorem dX0_play_35 : decode cX0_play 35 = .ok (.aload_n 0, 1) := dec_of (decode cX0_play) da_10 19 rfl
theorem dX0_play_36 : decode cX0_play 36 = .ok (.aload_n 1, 1) := dec_of (decode cX0_play) da_10 20 rfl
theorem dX0_play_37 : decode cX0_play 37 = .ok (.invokevirtual 42, 3) := dec_of (decode cX0_play) da_10 21 rfl
theorem dX0_play_40 : decode cX0_play 40 = .ok (.aload_n 0, 1) := dec_of (decode cX0_play) da_10 22 rfl
theorem dX0_play_41 : decode cX0_play 41 = .ok (.getfield 12, 3) := dec_of (decode cX0_play) da_10 23 rfl
theorem dX0_play_44 : decode cX0_play 44 = .ok (.getfield 57, 3) := dec_of (decode cX0_play) da_10 24 rfl
theorem dX0_play_47 : decode cX0_play 47 = .ok (.iload_n 2, 1) := dec_of (decode cX0_play) da_10 25 rfl
theorem dX0_play_48 : decode cX0_play 48 = .ok (.aload_n 1, 1) := dec_of (decode cX0_play) da_10 26 rfl
theorem dX0_play_49 : decode cX0_play 49 = .ok (.getfield 45, 3) := dec_of (decode cX0_play) da_10 27 rfl
theorem dX0_play_52 : decode cX0_play 52 = .ok (.iload 6, 2) := dec_of (decode cX0_play) da_10 28 rfl
theorem dX0_play_54 : decode cX0_play 54 = .ok (.iadd, 1) := dec_of (decode cX0_play) da_10 29 rfl
theorem dX0_play_55 : decode cX0_play 55 = .ok (.iastore, 1) := dec_of (decode cX0_play) da_10 30 rfl
theorem dX0_play_56 : decode cX0_play 56 = .ok (.aload_n 0, 1) := dec_of (decode cX0_play) da_10 31 rfl
theorem dX0_play_57 : decode cX0_play 57 = .ok (.getfield 12, 3) := dec_of (decode cX0_play) da_10 32 rfl
theorem dX0_play_60 : decode cX0_play 60 = .ok (.getfield 57, 3) := dec_of (decode cX0_play) da_10 33 rfl
theorem dX0_play_63 : decode cX0_play 63 = .ok (.iload_n 3, 1) := dec_of (decode cX0_play) da_10 34 rfl
theorem dX0_play_64 : decode cX0_play 64 = .ok (.aload_n 1, 1) := dec_of (decode cX0_play) da_10 35 rfl
theorem dX0_play_65 : decode cX0_play 65 = .ok (.getfield 45, 3) := dec_of (decode cX0_play) da_10 36 rfl
theorem dX0_play_68 : decode cX0_play 68 = .ok (.iload 7, 2) := dec_of (decode cX0_play) da_10 37 rfl
theorem dX0_play_70 : decode cX0_play 70 = .ok (.iadd, 1) := dec_of (decode cX0_play) da_10 38 rfl
theorem dX0_play_71 : decode cX0_play 71 = .ok (.iastore, 1) := dec_of (decode cX0_play) da_10 39 rfl
abbrev dl_11 : List (Nat × Except DecodeError (Instr × Nat)) := [(72, .ok (.aload_n 0, 1)), (73, .ok (.getfield 12, 3)), (76, .ok (.aload_n 1, 1)), (77, .ok (.getfield 45, 3)), (80, .ok (.iload 4, 2)), (82, .ok (.iadd, 1)), (83, .ok (.invokevirtual 60, 3)), (86, .ok (.aload_n 0, 1)), (87, .ok (.getfield 21, 3)), (90, .ok (.iload 6, 2)), (92, .ok (.iconst 4, 1)), (93, .ok (.imul, 1)), (94, .ok (.iload 7, 2)), (96, .ok (.iadd, 1)), (97, .ok (.aload_n 0, 1)), (98, .ok (.iload_n 2, 1)), (99, .ok (.invokevirtual 123, 3)), (102, .ok (.iastore, 1)), (103, .ok (.aload_n 0, 1)), (104, .ok (.getfield 25, 3)), (107, .ok (.iload 6, 2)), (109, .ok (.iconst 4, 1)), (110, .ok (.imul, 1)), (111, .ok (.iload 7, 2)), (113, .ok (.iadd, 1)), (114, .ok (.aload_n 0, 1)), (115, .ok (.iload_n 3, 1)), (116, .ok (.invokevirtual 123, 3)), (119, .ok (.iastore, 1)), (120, .ok (.iinc 7 1, 3)), (123, .ok (.goto (-95), 3)), (126, .ok (.iinc 6 1, 3)), (129, .ok (.goto (-111), 3)), (132, .ok (.aload_n 0, 1)), (133, .ok (.iconst 0, 1)), (134, .ok (.putfield 31, 3)), (137, .ok (.iconst 0, 1)), (138, .ok (.istore 6, 2)), (140, .ok (.iload 6, 2)), (142, .ok (.iload 5, 2))]
theorem da_11 : dl_11.all (fun q => decide (decode cX0_play q.1 = q.2)) = true := by decide +kernel
theorem dX0_play_72 : decode cX0_play 72 = .ok (.aload_n 0, 1) := dec_of (decode cX0_play) da_11 0 rfl
theorem dX0_play_73 : decode cX0_play 73 = .ok (.getfield 12, 3) := dec_of (decode cX0_play) da_11 1 rfl
theorem dX0_play_76 : decode cX0_play 76 = .ok (.aload_n 1, 1) := dec_of (decode cX0_play) da_11 2 rfl
theorem dX0_play_77 : decode cX0_play 77 = .ok (.getfield 45, 3) := dec_of (decode cX0_play) da_11 3 rfl
theorem dX0_play_80 : decode cX0_play 80 = .ok (.iload 4, 2) := dec_of (decode cX0_play) da_11 4 rfl
theorem dX0_play_82 : decode cX0_play 82 = .ok (.iadd, 1) := dec_of (decode cX0_play) da_11 5 rfl
theorem dX0_play_83 : decode cX0_play 83 = .ok (.invokevirtual 60, 3) := dec_of (decode cX0_play) da_11 6 rfl
theorem dX0_play_86 : decode cX0_play 86 = .ok (.aload_n 0, 1) := dec_of (decode cX0_play) da_11 7 rfl
theorem dX0_play_87 : decode cX0_play 87 = .ok (.getfield 21, 3) := dec_of (decode cX0_play) da_11 8 rfl
theorem dX0_play_90 : decode cX0_play 90 = .ok (.iload 6, 2) := dec_of (decode cX0_play) da_11 9 rfl
theorem dX0_play_92 : decode cX0_play 92 = .ok (.iconst 4, 1) := dec_of (decode cX0_play) da_11 10 rfl
theorem dX0_play_93 : decode cX0_play 93 = .ok (.imul, 1) := dec_of (decode cX0_play) da_11 11 rfl
theorem dX0_play_94 : decode cX0_play 94 = .ok (.iload 7, 2) := dec_of (decode cX0_play) da_11 12 rfl
theorem dX0_play_96 : decode cX0_play 96 = .ok (.iadd, 1) := dec_of (decode cX0_play) da_11 13 rfl
theorem dX0_play_97 : decode cX0_play 97 = .ok (.aload_n 0, 1) := dec_of (decode cX0_play) da_11 14 rfl
theorem dX0_play_98 : decode cX0_play 98 = .ok (.iload_n 2, 1) := dec_of (decode cX0_play) da_11 15 rfl
theorem dX0_play_99 : decode cX0_play 99 = .ok (.invokevirtual 123, 3) := dec_of (decode cX0_play) da_11 16 rfl
theorem dX0_play_102 : decode cX0_play 102 = .ok (.iastore, 1) := dec_of (decode cX0_play) da_11 17 rfl
theorem dX0_play_103 : decode cX0_play 103 = .ok (.aload_n 0, 1) := dec_of (decode cX0_play) da_11 18 rfl
theorem dX0_play_104 : decode cX0_play 104 = .ok (.getfield 25, 3) := dec_of (decode cX0_play) da_11 19 rfl
theorem dX0_play_107 : decode cX0_play 107 = .ok (.iload 6, 2) := dec_of (decode cX0_play) da_11 20 rfl
theorem dX0_play_109 : decode cX0_play 109 = .ok (.iconst 4, 1) := dec_of (decode cX0_play) da_11 21 rfl
theorem dX0_play_110 : decode cX0_play 110 = .ok (.imul, 1) := dec_of (decode cX0_play) da_11 22 rfl
theorem dX0_play_111 : decode cX0_play 111 = .ok (.iload 7, 2) := dec_of (decode cX0_play) da_11 23 rfl
theorem dX0_play_113 : decode cX0_play 113 = .ok (.iadd, 1) := dec_of (decode cX0_play) da_11 24 rfl
theorem dX0_play_114 : decode cX0_play 114 = .ok (.aload_n 0, 1) := dec_of (decode cX0_play) da_11 25 rfl
theorem dX0_play_115 : decode cX0_play 115 = .ok (.iload_n 3, 1) := dec_of (decode cX0_play) da_11 26 rfl
theorem dX0_play_116 : decode cX0_play 116 = .ok (.invokevirtual 123, 3) := dec_of (decode cX0_play) da_11 27 rfl
theorem dX0_play_119 : decode cX0_play 119 = .ok (.iastore, 1) := dec_of (decode cX0_play) da_11 28 rfl
theorem dX0_play_120 : decode cX0_play 120 = .ok (.iinc 7 1, 3) := dec_of (decode cX0_play) da_11 29 rfl
theorem dX0_play_123 : decode cX0_play 123 = .ok (.goto (-95), 3) := dec_of (decode cX0_play) da_11 30 rfl
theorem dX0_play_126 : decode cX0_play 126 = .ok (.iinc 6 1, 3) := dec_of (decode cX0_play) da_11 31 rfl
theorem dX0_play_129 : decode cX0_play 129 = .ok (.goto (-111), 3) := dec_of (decode cX0_play) da_11 32 rfl
theorem dX0_play_132 : decode cX0_play 132 = .ok (.aload_n 0, 1) := dec_of (decode cX0_play) da_11 33 rfl
theorem dX0_play_133 : decode cX0_play 133 = .ok (.iconst 0, 1) := dec_of (decode cX0_play) da_11 34 rfl
theorem dX0_play_134 : decode cX0_play 134 = .ok (.putfield 31, 3) := dec_of (decode cX0_play) da_11 35 rfl
theorem dX0_play_137 : decode cX0_play 137 = .ok (.iconst 0, 1) := dec_of (decode cX0_play) da_11 36 rfl
theorem dX0_play_138 : decode cX0_play 138 = .ok (.istore 6, 2) := dec_of (decode cX0_play) da_11 37 rfl
theorem dX0_play_140 : decode cX0_play 140 = .ok (.iload 6, 2) := dec_of (decode cX0_play) da_11 38 rfl
theorem dX0_play_142 : decode cX0_play 142 = .ok (.iload 5, 2) := dec_of (decode cX0_play) da_11 39 rfl
abbrev dl_12 : List (Nat × Except DecodeError (Instr × Nat)) := [(144, .ok (.if_icmp .ge 75, 3)), (147, .ok (.iconst 0, 1)), (148, .ok (.istore 7, 2)), (150, .ok (.iload 7, 2)), (152, .ok (.iload 5, 2)), (154, .ok (.if_icmp .ge 59, 3)), (157, .ok (.aload_n 0, 1)), (158, .ok (.iload 6, 2)), (160, .ok (.iload 7, 2)), (162, .ok (.iload 5, 2)), (164, .ok (.invokevirtual 126, 3)), (167, .ok (.ifCond .eq 40, 3)), (170, .ok (.aload_n 0, 1)), (171, .ok (.getfield 28, 3)), (174, .ok (.aload_n 0, 1)), (175, .ok (.getfield 31, 3)), (178, .ok (.bipush 100, 2)), (180, .ok (.aload_n 1, 1)), (181, .ok (.getfield 45, 3)), (184, .ok (.iload 6, 2)), (186, .ok (.iadd, 1)), (187, .ok (.imul, 1)), (188, .ok (.aload_n 1, 1)), (189, .ok (.getfield 45, 3)), (192, .ok (.iadd, 1)), (193, .ok (.iload 7, 2)), (195, .ok (.iadd, 1)), (196, .ok (.iastore, 1)), (197, .ok (.aload_n 0, 1)), (198, .ok (.dup, 1)), (199, .ok (.getfield 31, 3)), (202, .ok (.iconst 1, 1)), (203, .ok (.iadd, 1)), (204, .ok (.putfield 31, 3)), (207, .ok (.iinc 7 1, 3)), (210, .ok (.goto (-60), 3)), (213, .ok (.iinc 6 1, 3)), (216, .ok (.goto (-76), 3)), (219, .ok (.return_, 1))]
theorem da_12 : dl_12.all (fun q => decide (decode cX0_play q.1 = q.2)) = true := by decide +kernel
theorem dX0_play_144 : decode cX0_play 144 = .ok (.if_icmp .ge 75, 3) := dec_of (decode cX0_play) da_12 0 rfl
theorem dX0_play_147 : decode cX0_play 147 = .ok (.iconst 0, 1) := dec_of (decode cX0_play) da_12 1 rfl
theorem dX0_play_148 : decode cX0_play 148 = .ok (.istore 7, 2) := dec_of (decode cX0_play) da_12 2 rfl
theorem dX0_play_150 : decode cX0_play 150 = .ok (.iload 7, 2) := dec_of (decode cX0_play) da_12 3 rfl
theorem dX0_play_152 : decode cX0_play 152 = .ok (.iload 5, 2) := dec_of (decode cX0_play) da_12 4 rfl
theorem dX0_play_154 : decode cX0_play 154 = .ok (.if_icmp .ge 59, 3) := dec_of (decode cX0_play) da_12 5 rfl
theorem dX0_play_157 : decode cX0_play 157 = .ok (.aload_n 0, 1) := dec_of (decode cX0_play) da_12 6 rfl
theorem dX0_play_158 : decode cX0_play 158 = .ok (.iload 6, 2) := dec_of (decode cX0_play) da_12 7 rfl
theorem dX0_play_160 : decode cX0_play 160 = .ok (.iload 7, 2) := dec_of (decode cX0_play) da_12 8 rfl
theorem dX0_play_162 : decode cX0_play 162 = .ok (.iload 5, 2) := dec_of (decode cX0_play) da_12 9 rfl
theorem dX0_play_164 : decode cX0_play 164 = .ok (.invokevirtual 126, 3) := dec_of (decode cX0_play) da_12 10 rfl
theorem dX0_play_167 : decode cX0_play 167 = .ok (.ifCond .eq 40, 3) := dec_of (decode cX0_play) da_12 11 rfl
theorem dX0_play_170 : decode cX0_play 170 = .ok (.aload_n 0, 1) := dec_of (decode cX0_play) da_12 12 rfl
theorem dX0_play_171 : decode cX0_play 171 = .ok (.getfield 28, 3) := dec_of (decode cX0_play) da_12 13 rfl
theorem dX0_play_174 : decode cX0_play 174 = .ok (.aload_n 0, 1) := dec_of (decode cX0_play) da_12 14 rfl
theorem dX0_play_175 : decode cX0_play 175 = .ok (.getfield 31, 3) := dec_of (decode cX0_play) da_12 15 rfl
theorem dX0_play_178 : decode cX0_play 178 = .ok (.bipush 100, 2) := dec_of (decode cX0_play) da_12 16 rfl
theorem dX0_play_180 : decode cX0_play 180 = .ok (.aload_n 1, 1) := dec_of (decode cX0_play) da_12 17 rfl
theorem dX0_play_181 : decode cX0_play 181 = .ok (.getfield 45, 3) := dec_of (decode cX0_play) da_12 18 rfl
theorem dX0_play_184 : decode cX0_play 184 = .ok (.iload 6, 2) := dec_of (decode cX0_play) da_12 19 rfl
theorem dX0_play_186 : decode cX0_play 186 = .ok (.iadd, 1) := dec_of (decode cX0_play) da_12 20 rfl
theorem dX0_play_187 : decode cX0_play 187 = .ok (.imul, 1) := dec_of (decode cX0_play) da_12 21 rfl
theorem dX0_play_188 : decode cX0_play 188 = .ok (.aload_n 1, 1) := dec_of (decode cX0_play) da_12 22 rfl
theorem dX0_play_189 : decode cX0_play 189 = .ok (.getfield 45, 3) := dec_of (decode cX0_play) da_12 23 rfl
theorem dX0_play_192 : decode cX0_play 192 = .ok (.iadd, 1) := dec_of (decode cX0_play) da_12 24 rfl
theorem dX0_play_193 : decode cX0_play 193 = .ok (.iload 7, 2) := dec_of (decode cX0_play) da_12 25 rfl
theorem dX0_play_195 : decode cX0_play 195 = .ok (.iadd, 1) := dec_of (decode cX0_play) da_12 26 rfl
theorem dX0_play_196 : decode cX0_play 196 = .ok (.iastore, 1) := dec_of (decode cX0_play) da_12 27 rfl
theorem dX0_play_197 : decode cX0_play 197 = .ok (.aload_n 0, 1) := dec_of (decode cX0_play) da_12 28 rfl
theorem dX0_play_198 : decode cX0_play 198 = .ok (.dup, 1) := dec_of (decode cX0_play) da_12 29 rfl
theorem dX0_play_199 : decode cX0_play 199 = .ok (.getfield 31, 3) := dec_of (decode cX0_play) da_12 30 rfl
theorem dX0_play_202 : decode cX0_play 202 = .ok (.iconst 1, 1) := dec_of (decode cX0_play) da_12 31 rfl
theorem dX0_play_203 : decode cX0_play 203 = .ok (.iadd, 1) := dec_of (decode cX0_play) da_12 32 rfl
theorem dX0_play_204 : decode cX0_play 204 = .ok (.putfield 31, 3) := dec_of (decode cX0_play) da_12 33 rfl
theorem dX0_play_207 : decode cX0_play 207 = .ok (.iinc 7 1, 3) := dec_of (decode cX0_play) da_12 34 rfl
theorem dX0_play_210 : decode cX0_play 210 = .ok (.goto (-60), 3) := dec_of (decode cX0_play) da_12 35 rfl
theorem dX0_play_213 : decode cX0_play 213 = .ok (.iinc 6 1, 3) := dec_of (decode cX0_play) da_12 36 rfl
theorem dX0_play_216 : decode cX0_play 216 = .ok (.goto (-76), 3) := dec_of (decode cX0_play) da_12 37 rfl
theorem dX0_play_219 : decode cX0_play 219 = .ok (.return_, 1) := dec_of (decode cX0_play) da_12 38 rfl
abbrev dl_13 : List (Nat × Except DecodeError (Instr × Nat)) := [(0, .ok (.aload_n 0, 1)), (1, .ok (.getfield 12, 3)), (4, .ok (.getfield 48, 3)), (7, .ok (.iload_n 1, 1)), (8, .ok (.iaload, 1)), (9, .ok (.lookupswitch 53 #[(1, 41), (2, 27)], 27)), (36, .ok (.sipush 1000, 3)), (39, .ok (.aload_n 0, 1)), (40, .ok (.getfield 12, 3)), (43, .ok (.getfield 54, 3)), (46, .ok (.iload_n 1, 1)), (47, .ok (.iaload, 1)), (48, .ok (.isub, 1)), (49, .ok (.ireturn, 1)), (50, .ok (.bipush 100, 2)), (52, .ok (.aload_n 0, 1)), (53, .ok (.getfield 12, 3)), (56, .ok (.iload_n 1, 1)), (57, .ok (.invokevirtual 130, 3)), (60, .ok (.isub, 1)), (61, .ok (.ireturn, 1)), (62, .ok (.iconst 0, 1)), (63, .ok (.ireturn, 1))]
theorem da_13 : dl_13.all (fun q => decide (decode cX0_worth q.1 = q.2)) = true := by decide +kernel
theorem dX0_worth_0 : decode cX0_worth 0 = .ok (.aload_n 0, 1) := dec_of (decode cX0_worth) da_13 0 rfl
theorem dX0_worth_1 : decode cX0_worth 1 = .ok (.getfield 12, 3) := dec_of (decode cX0_worth) da_13 1 rfl
theorem dX0_worth_4 : decode cX0_worth 4 = .ok (.getfield 48, 3) := dec_of (decode cX0_worth) da_13 2 rfl
theorem dX0_worth_7 : decode cX0_worth 7 = .ok (.iload_n 1, 1) := dec_of (decode cX0_worth) da_13 3 rfl
theorem dX0_worth_8 : decode cX0_worth 8 = .ok (.iaload, 1) := dec_of (decode cX0_worth) da_13 4 rfl
theorem dX0_worth_9 : decode cX0_worth 9 = .ok (.lookupswitch 53 #[(1, 41), (2, 27)], 27) := dec_of (decode cX0_worth) da_13 5 rfl
theorem dX0_worth_36 : decode cX0_worth 36 = .ok (.sipush 1000, 3) := dec_of (decode cX0_worth) da_13 6 rfl
theorem dX0_worth_39 : decode cX0_worth 39 = .ok (.aload_n 0, 1) := dec_of (decode cX0_worth) da_13 7 rfl
theorem dX0_worth_40 : decode cX0_worth 40 = .ok (.getfield 12, 3) := dec_of (decode cX0_worth) da_13 8 rfl
theorem dX0_worth_43 : decode cX0_worth 43 = .ok (.getfield 54, 3) := dec_of (decode cX0_worth) da_13 9 rfl
theorem dX0_worth_46 : decode cX0_worth 46 = .ok (.iload_n 1, 1) := dec_of (decode cX0_worth) da_13 10 rfl
theorem dX0_worth_47 : decode cX0_worth 47 = .ok (.iaload, 1) := dec_of (decode cX0_worth) da_13 11 rfl
theorem dX0_worth_48 : decode cX0_worth 48 = .ok (.isub, 1) := dec_of (decode cX0_worth) da_13 12 rfl
theorem dX0_worth_49 : decode cX0_worth 49 = .ok (.ireturn, 1) := dec_of (decode cX0_worth) da_13 13 rfl
theorem dX0_worth_50 : decode cX0_worth 50 = .ok (.bipush 100, 2) := dec_of (decode cX0_worth) da_13 14 rfl
theorem dX0_worth_52 : decode cX0_worth 52 = .ok (.aload_n 0, 1) := dec_of (decode cX0_worth) da_13 15 rfl
theorem dX0_worth_53 : decode cX0_worth 53 = .ok (.getfield 12, 3) := dec_of (decode cX0_worth) da_13 16 rfl
theorem dX0_worth_56 : decode cX0_worth 56 = .ok (.iload_n 1, 1) := dec_of (decode cX0_worth) da_13 17 rfl
theorem dX0_worth_57 : decode cX0_worth 57 = .ok (.invokevirtual 130, 3) := dec_of (decode cX0_worth) da_13 18 rfl
theorem dX0_worth_60 : decode cX0_worth 60 = .ok (.isub, 1) := dec_of (decode cX0_worth) da_13 19 rfl
theorem dX0_worth_61 : decode cX0_worth 61 = .ok (.ireturn, 1) := dec_of (decode cX0_worth) da_13 20 rfl
theorem dX0_worth_62 : decode cX0_worth 62 = .ok (.iconst 0, 1) := dec_of (decode cX0_worth) da_13 21 rfl
theorem dX0_worth_63 : decode cX0_worth 63 = .ok (.ireturn, 1) := dec_of (decode cX0_worth) da_13 22 rfl
abbrev dl_14 : List (Nat × Except DecodeError (Instr × Nat)) := [(0, .ok (.iload_n 1, 1)), (1, .ok (.iconst 4, 1)), (2, .ok (.imul, 1)), (3, .ok (.iload_n 2, 1)), (4, .ok (.iadd, 1)), (5, .ok (.istore 4, 2)), (7, .ok (.iconst 0, 1)), (8, .ok (.istore 5, 2)), (10, .ok (.iload 5, 2)), (12, .ok (.iload_n 3, 1)), (13, .ok (.if_icmp .ge 53, 3)), (16, .ok (.aload_n 0, 1)), (17, .ok (.getfield 21, 3)), (20, .ok (.iload 5, 2)), (22, .ok (.iconst 4, 1)), (23, .ok (.imul, 1)), (24, .ok (.iload_n 2, 1)), (25, .ok (.iadd, 1)), (26, .ok (.iaload, 1)), (27, .ok (.aload_n 0, 1)), (28, .ok (.getfield 21, 3)), (31, .ok (.iload 4, 2)), (33, .ok (.iaload, 1)), (34, .ok (.if_icmp .gt 24, 3)), (37, .ok (.aload_n 0, 1)), (38, .ok (.getfield 25, 3)), (41, .ok (.iload_n 1, 1)), (42, .ok (.iconst 4, 1)), (43, .ok (.imul, 1)), (44, .ok (.iload 5, 2)), (46, .ok (.iadd, 1)), (47, .ok (.iaload, 1)), (48, .ok (.aload_n 0, 1)), (49, .ok (.getfield 25, 3)), (52, .ok (.iload 4, 2)), (54, .ok (.iaload, 1)), (55, .ok (.if_icmp .le 5, 3)), (58, .ok (.iconst 0, 1)), (59, .ok (.ireturn, 1)), (60, .ok (.iinc 5 1, 3))]
theorem da_14 : dl_14.all (fun q => decide (decode cX0_isRest q.1 = q.2)) = true := by decide +kernel
theorem dX0_isRest_0 : decode cX0_isRest 0 = .ok (.iload_n 1, 1) := dec_of (decode cX0_isRest) da_14 0 rfl
theorem dX0_isRest_1 : decode cX0_isRest 1 = .ok (.iconst 4, 1) := dec_of (decode cX0_isRest) da_14 1 rfl
theorem dX0_isRest_2 : decode cX0_isRest 2 = .ok (.imul, 1) := dec_of (decode cX0_isRest) da_14 2 rfl
theorem dX0_isRest_3 : decode cX0_isRest 3 = .ok (.iload_n 2, 1) := dec_of (decode cX0_isRest) da_14 3 rfl
theorem dX0_isRest_4 : decode cX0_isRest 4 = .ok (.iadd, 1) := dec_of (decode cX0_isRest) da_14 4 rfl
theorem dX0_isRest_5 : decode cX0_isRest 5 = .ok (.istore 4, 2) := dec_of (decode cX0_isRest) da_14 5 rfl
theorem dX0_isRest_7 : decode cX0_isRest 7 = .ok (.iconst 0, 1) := dec_of (decode cX0_isRest) da_14 6 rfl
theorem dX0_isRest_8 : decode cX0_isRest 8 = .ok (.istore 5, 2) := dec_of (decode cX0_isRest) da_14 7 rfl
theorem dX0_isRest_10 : decode cX0_isRest 10 = .ok (.iload 5, 2) := dec_of (decode cX0_isRest) da_14 8 rfl
theorem dX0_isRest_12 : decode cX0_isRest 12 = .ok (.iload_n 3, 1) := dec_of (decode cX0_isRest) da_14 9 rfl
theorem dX0_isRest_13 : decode cX0_isRest 13 = .ok (.if_icmp .ge 53, 3) := dec_of (decode cX0_isRest) da_14 10 rfl
theorem dX0_isRest_16 : decode cX0_isRest 16 = .ok (.aload_n 0, 1) := dec_of (decode cX0_isRest) da_14 11 rfl
theorem dX0_isRest_17 : decode cX0_isRest 17 = .ok (.getfield 21, 3) := dec_of (decode cX0_isRest) da_14 12 rfl
theorem dX0_isRest_20 : decode cX0_isRest 20 = .ok (.iload 5, 2) := dec_of (decode cX0_isRest) da_14 13 rfl
theorem dX0_isRest_22 : decode cX0_isRest 22 = .ok (.iconst 4, 1) := dec_of (decode cX0_isRest) da_14 14 rfl
theorem dX0_isRest_23 : decode cX0_isRest 23 = .ok (.imul, 1) := dec_of (decode cX0_isRest) da_14 15 rfl
theorem dX0_isRest_24 : decode cX0_isRest 24 = .ok (.iload_n 2, 1) := dec_of (decode cX0_isRest) da_14 16 rfl
theorem dX0_isRest_25 : decode cX0_isRest 25 = .ok (.iadd, 1) := dec_of (decode cX0_isRest) da_14 17 rfl
theorem dX0_isRest_26 : decode cX0_isRest 26 = .ok (.iaload, 1) := dec_of (decode cX0_isRest) da_14 18 rfl
theorem dX0_isRest_27 : decode cX0_isRest 27 = .ok (.aload_n 0, 1) := dec_of (decode cX0_isRest) da_14 19 rfl
theorem dX0_isRest_28 : decode cX0_isRest 28 = .ok (.getfield 21, 3) := dec_of (decode cX0_isRest) da_14 20 rfl
theorem dX0_isRest_31 : decode cX0_isRest 31 = .ok (.iload 4, 2) := dec_of (decode cX0_isRest) da_14 21 rfl
theorem dX0_isRest_33 : decode cX0_isRest 33 = .ok (.iaload, 1) := dec_of (decode cX0_isRest) da_14 22 rfl
theorem dX0_isRest_34 : decode cX0_isRest 34 = .ok (.if_icmp .gt 24, 3) := dec_of (decode cX0_isRest) da_14 23 rfl
theorem dX0_isRest_37 : decode cX0_isRest 37 = .ok (.aload_n 0, 1) := dec_of (decode cX0_isRest) da_14 24 rfl
theorem dX0_isRest_38 : decode cX0_isRest 38 = .ok (.getfield 25, 3) := dec_of (decode cX0_isRest) da_14 25 rfl
theorem dX0_isRest_41 : decode cX0_isRest 41 = .ok (.iload_n 1, 1) := dec_of (decode cX0_isRest) da_14 26 rfl
theorem dX0_isRest_42 : decode cX0_isRest 42 = .ok (.iconst 4, 1) := dec_of (decode cX0_isRest) da_14 27 rfl
theorem dX0_isRest_43 : decode cX0_isRest 43 = .ok (.imul, 1) := dec_of (decode cX0_isRest) da_14 28 rfl
theorem dX0_isRest_44 : decode cX0_isRest 44 = .ok (.iload 5, 2) := dec_of (decode cX0_isRest) da_14 29 rfl
theorem dX0_isRest_46 : decode cX0_isRest 46 = .ok (.iadd, 1) := dec_of (decode cX0_isRest) da_14 30 rfl
theorem dX0_isRest_47 : decode cX0_isRest 47 = .ok (.iaload, 1) := dec_of (decode cX0_isRest) da_14 31 rfl
theorem dX0_isRest_48 : decode cX0_isRest 48 = .ok (.aload_n 0, 1) := dec_of (decode cX0_isRest) da_14 32 rfl
theorem dX0_isRest_49 : decode cX0_isRest 49 = .ok (.getfield 25, 3) := dec_of (decode cX0_isRest) da_14 33 rfl
theorem dX0_isRest_52 : decode cX0_isRest 52 = .ok (.iload 4, 2) := dec_of (decode cX0_isRest) da_14 34 rfl
theorem dX0_isRest_54 : decode cX0_isRest 54 = .ok (.iaload, 1) := dec_of (decode cX0_isRest) da_14 35 rfl
theorem dX0_isRest_55 : decode cX0_isRest 55 = .ok (.if_icmp .le 5, 3) := dec_of (decode cX0_isRest) da_14 36 rfl
theorem dX0_isRest_58 : decode cX0_isRest 58 = .ok (.iconst 0, 1) := dec_of (decode cX0_isRest) da_14 37 rfl
theorem dX0_isRest_59 : decode cX0_isRest 59 = .ok (.ireturn, 1) := dec_of (decode cX0_isRest) da_14 38 rfl
theorem dX0_isRest_60 : decode cX0_isRest 60 = .ok (.iinc 5 1, 3) := dec_of (decode cX0_isRest) da_14 39 rfl
abbrev dl_15 : List (Nat × Except DecodeError (Instr × Nat)) := [(63, .ok (.goto (-53), 3)), (66, .ok (.iconst 1, 1)), (67, .ok (.ireturn, 1))]
theorem da_15 : dl_15.all (fun q => decide (decode cX0_isRest q.1 = q.2)) = true := by decide +kernel
theorem dX0_isRest_63 : decode cX0_isRest 63 = .ok (.goto (-53), 3) := dec_of (decode cX0_isRest) da_15 0 rfl
theorem dX0_isRest_66 : decode cX0_isRest 66 = .ok (.iconst 1, 1) := dec_of (decode cX0_isRest) da_15 1 rfl
theorem dX0_isRest_67 : decode cX0_isRest 67 = .ok (.ireturn, 1) := dec_of (decode cX0_isRest) da_15 2 rfl
abbrev dl_16 : List (Nat × Except DecodeError (Instr × Nat)) := [(0, .ok (.iconst 0, 1)), (1, .ok (.istore 6, 2)), (3, .ok (.iconst (-1), 1)), (4, .ok (.istore 7, 2)), (6, .ok (.iconst 0, 1)), (7, .ok (.istore 8, 2)), (9, .ok (.iload 8, 2)), (11, .ok (.bipush 8, 2)), (13, .ok (.if_icmp .ge 37, 3)), (16, .ok (.aload_n 0, 1)), (17, .ok (.aload_n 1, 1)), (18, .ok (.iload_n 2, 1)), (19, .ok (.iload 8, 2)), (21, .ok (.iload_n 3, 1)), (22, .ok (.iload 4, 2)), (24, .ok (.invokevirtual 133, 3)), (27, .ok (.istore 9, 2)), (29, .ok (.iload 9, 2)), (31, .ok (.iload 7, 2)), (33, .ok (.if_icmp .le 11, 3)), (36, .ok (.iload 9, 2)), (38, .ok (.istore 7, 2)), (40, .ok (.iload 8, 2)), (42, .ok (.istore 6, 2)), (44, .ok (.iinc 8 1, 3)), (47, .ok (.goto (-38), 3)), (50, .ok (.iload 5, 2)), (52, .ok (.ifCond .ne 8, 3)), (55, .ok (.iload 6, 2)), (57, .ok (.goto 5, 3)), (60, .ok (.iload 7, 2)), (62, .ok (.ireturn, 1))]
theorem da_16 : dl_16.all (fun q => decide (decode cX0_bestPlace q.1 = q.2)) = true := by decide +kernel
theorem dX0_bestPlace_0 : decode cX0_bestPlace 0 = .ok (.iconst 0, 1) := dec_of (decode cX0_bestPlace) da_16 0 rfl
theorem dX0_bestPlace_1 : decode cX0_bestPlace 1 = .ok (.istore 6, 2) := dec_of (decode cX0_bestPlace) da_16 1 rfl
theorem dX0_bestPlace_3 : decode cX0_bestPlace 3 = .ok (.iconst (-1), 1) := dec_of (decode cX0_bestPlace) da_16 2 rfl
theorem dX0_bestPlace_4 : decode cX0_bestPlace 4 = .ok (.istore 7, 2) := dec_of (decode cX0_bestPlace) da_16 3 rfl
theorem dX0_bestPlace_6 : decode cX0_bestPlace 6 = .ok (.iconst 0, 1) := dec_of (decode cX0_bestPlace) da_16 4 rfl
theorem dX0_bestPlace_7 : decode cX0_bestPlace 7 = .ok (.istore 8, 2) := dec_of (decode cX0_bestPlace) da_16 5 rfl
theorem dX0_bestPlace_9 : decode cX0_bestPlace 9 = .ok (.iload 8, 2) := dec_of (decode cX0_bestPlace) da_16 6 rfl
theorem dX0_bestPlace_11 : decode cX0_bestPlace 11 = .ok (.bipush 8, 2) := dec_of (decode cX0_bestPlace) da_16 7 rfl
theorem dX0_bestPlace_13 : decode cX0_bestPlace 13 = .ok (.if_icmp .ge 37, 3) := dec_of (decode cX0_bestPlace) da_16 8 rfl
theorem dX0_bestPlace_16 : decode cX0_bestPlace 16 = .ok (.aload_n 0, 1) := dec_of (decode cX0_bestPlace) da_16 9 rfl
theorem dX0_bestPlace_17 : decode cX0_bestPlace 17 = .ok (.aload_n 1, 1) := dec_of (decode cX0_bestPlace) da_16 10 rfl
theorem dX0_bestPlace_18 : decode cX0_bestPlace 18 = .ok (.iload_n 2, 1) := dec_of (decode cX0_bestPlace) da_16 11 rfl
theorem dX0_bestPlace_19 : decode cX0_bestPlace 19 = .ok (.iload 8, 2) := dec_of (decode cX0_bestPlace) da_16 12 rfl
theorem dX0_bestPlace_21 : decode cX0_bestPlace 21 = .ok (.iload_n 3, 1) := dec_of (decode cX0_bestPlace) da_16 13 rfl
theorem dX0_bestPlace_22 : decode cX0_bestPlace 22 = .ok (.iload 4, 2) := dec_of (decode cX0_bestPlace) da_16 14 rfl
theorem dX0_bestPlace_24 : decode cX0_bestPlace 24 = .ok (.invokevirtual 133, 3) := dec_of (decode cX0_bestPlace) da_16 15 rfl
theorem dX0_bestPlace_27 : decode cX0_bestPlace 27 = .ok (.istore 9, 2) := dec_of (decode cX0_bestPlace) da_16 16 rfl
theorem dX0_bestPlace_29 : decode cX0_bestPlace 29 = .ok (.iload 9, 2) := dec_of (decode cX0_bestPlace) da_16 17 rfl
theorem dX0_bestPlace_31 : decode cX0_bestPlace 31 = .ok (.iload 7, 2) := dec_of (decode cX0_bestPlace) da_16 18 rfl
theorem dX0_bestPlace_33 : decode cX0_bestPlace 33 = .ok (.if_icmp .le 11, 3) := dec_of (decode cX0_bestPlace) da_16 19 rfl
theorem dX0_bestPlace_36 : decode cX0_bestPlace 36 = .ok (.iload 9, 2) := dec_of (decode cX0_bestPlace) da_16 20 rfl
theorem dX0_bestPlace_38 : decode cX0_bestPlace 38 = .ok (.istore 7, 2) := dec_of (decode cX0_bestPlace) da_16 21 rfl
theorem dX0_bestPlace_40 : decode cX0_bestPlace 40 = .ok (.iload 8, 2) := dec_of (decode cX0_bestPlace) da_16 22 rfl
theorem dX0_bestPlace_42 : decode cX0_bestPlace 42 = .ok (.istore 6, 2) := dec_of (decode cX0_bestPlace) da_16 23 rfl
theorem dX0_bestPlace_44 : decode cX0_bestPlace 44 = .ok (.iinc 8 1, 3) := dec_of (decode cX0_bestPlace) da_16 24 rfl
theorem dX0_bestPlace_47 : decode cX0_bestPlace 47 = .ok (.goto (-38), 3) := dec_of (decode cX0_bestPlace) da_16 25 rfl
theorem dX0_bestPlace_50 : decode cX0_bestPlace 50 = .ok (.iload 5, 2) := dec_of (decode cX0_bestPlace) da_16 26 rfl
theorem dX0_bestPlace_52 : decode cX0_bestPlace 52 = .ok (.ifCond .ne 8, 3) := dec_of (decode cX0_bestPlace) da_16 27 rfl
theorem dX0_bestPlace_55 : decode cX0_bestPlace 55 = .ok (.iload 6, 2) := dec_of (decode cX0_bestPlace) da_16 28 rfl
theorem dX0_bestPlace_57 : decode cX0_bestPlace 57 = .ok (.goto 5, 3) := dec_of (decode cX0_bestPlace) da_16 29 rfl
theorem dX0_bestPlace_60 : decode cX0_bestPlace 60 = .ok (.iload 7, 2) := dec_of (decode cX0_bestPlace) da_16 30 rfl
theorem dX0_bestPlace_62 : decode cX0_bestPlace 62 = .ok (.ireturn, 1) := dec_of (decode cX0_bestPlace) da_16 31 rfl
abbrev dl_17 : List (Nat × Except DecodeError (Instr × Nat)) := [(0, .ok (.aload_n 0, 1)), (1, .ok (.aload_n 1, 1)), (2, .ok (.invokevirtual 42, 3)), (5, .ok (.aload_n 0, 1)), (6, .ok (.getfield 12, 3)), (9, .ok (.getfield 137, 3)), (12, .ok (.iload_n 2, 1)), (13, .ok (.iload_n 3, 1)), (14, .ok (.iastore, 1)), (15, .ok (.iconst 0, 1)), (16, .ok (.istore 6, 2)), (18, .ok (.iconst 0, 1)), (19, .ok (.istore 7, 2)), (21, .ok (.iload 7, 2)), (23, .ok (.iload 5, 2)), (25, .ok (.if_icmp .ge 32, 3)), (28, .ok (.aload_n 0, 1)), (29, .ok (.getfield 12, 3)), (32, .ok (.invokevirtual 51, 3)), (35, .ok (.aload_n 0, 1)), (36, .ok (.getfield 12, 3)), (39, .ok (.iload_n 3, 1)), (40, .ok (.invokevirtual 64, 3)), (43, .ok (.iload 4, 2)), (45, .ok (.if_icmp .ne 6, 3)), (48, .ok (.iinc 6 1, 3)), (51, .ok (.iinc 7 1, 3)), (54, .ok (.goto (-33), 3)), (57, .ok (.iload 6, 2)), (59, .ok (.ireturn, 1))]
theorem da_17 : dl_17.all (fun q => decide (decode cX0_minutesHeld q.1 = q.2)) = true := by decide +kernel
theorem dX0_minutesHeld_0 : decode cX0_minutesHeld 0 = .ok (.aload_n 0, 1) := dec_of (decode cX0_minutesHeld) da_17 0 rfl
theorem dX0_minutesHeld_1 : decode cX0_minutesHeld 1 = .ok (.aload_n 1, 1) := dec_of (decode cX0_minutesHeld) da_17 1 rfl
theorem dX0_minutesHeld_2 : decode cX0_minutesHeld 2 = .ok (.invokevirtual 42, 3) := dec_of (decode cX0_minutesHeld) da_17 2 rfl
theorem dX0_minutesHeld_5 : decode cX0_minutesHeld 5 = .ok (.aload_n 0, 1) := dec_of (decode cX0_minutesHeld) da_17 3 rfl
theorem dX0_minutesHeld_6 : decode cX0_minutesHeld 6 = .ok (.getfield 12, 3) := dec_of (decode cX0_minutesHeld) da_17 4 rfl
theorem dX0_minutesHeld_9 : decode cX0_minutesHeld 9 = .ok (.getfield 137, 3) := dec_of (decode cX0_minutesHeld) da_17 5 rfl
theorem dX0_minutesHeld_12 : decode cX0_minutesHeld 12 = .ok (.iload_n 2, 1) := dec_of (decode cX0_minutesHeld) da_17 6 rfl
theorem dX0_minutesHeld_13 : decode cX0_minutesHeld 13 = .ok (.iload_n 3, 1) := dec_of (decode cX0_minutesHeld) da_17 7 rfl
theorem dX0_minutesHeld_14 : decode cX0_minutesHeld 14 = .ok (.iastore, 1) := dec_of (decode cX0_minutesHeld) da_17 8 rfl
theorem dX0_minutesHeld_15 : decode cX0_minutesHeld 15 = .ok (.iconst 0, 1) := dec_of (decode cX0_minutesHeld) da_17 9 rfl
theorem dX0_minutesHeld_16 : decode cX0_minutesHeld 16 = .ok (.istore 6, 2) := dec_of (decode cX0_minutesHeld) da_17 10 rfl
theorem dX0_minutesHeld_18 : decode cX0_minutesHeld 18 = .ok (.iconst 0, 1) := dec_of (decode cX0_minutesHeld) da_17 11 rfl
theorem dX0_minutesHeld_19 : decode cX0_minutesHeld 19 = .ok (.istore 7, 2) := dec_of (decode cX0_minutesHeld) da_17 12 rfl
theorem dX0_minutesHeld_21 : decode cX0_minutesHeld 21 = .ok (.iload 7, 2) := dec_of (decode cX0_minutesHeld) da_17 13 rfl
theorem dX0_minutesHeld_23 : decode cX0_minutesHeld 23 = .ok (.iload 5, 2) := dec_of (decode cX0_minutesHeld) da_17 14 rfl
theorem dX0_minutesHeld_25 : decode cX0_minutesHeld 25 = .ok (.if_icmp .ge 32, 3) := dec_of (decode cX0_minutesHeld) da_17 15 rfl
theorem dX0_minutesHeld_28 : decode cX0_minutesHeld 28 = .ok (.aload_n 0, 1) := dec_of (decode cX0_minutesHeld) da_17 16 rfl
theorem dX0_minutesHeld_29 : decode cX0_minutesHeld 29 = .ok (.getfield 12, 3) := dec_of (decode cX0_minutesHeld) da_17 17 rfl
theorem dX0_minutesHeld_32 : decode cX0_minutesHeld 32 = .ok (.invokevirtual 51, 3) := dec_of (decode cX0_minutesHeld) da_17 18 rfl
theorem dX0_minutesHeld_35 : decode cX0_minutesHeld 35 = .ok (.aload_n 0, 1) := dec_of (decode cX0_minutesHeld) da_17 19 rfl
theorem dX0_minutesHeld_36 : decode cX0_minutesHeld 36 = .ok (.getfield 12, 3) := dec_of (decode cX0_minutesHeld) da_17 20 rfl
theorem dX0_minutesHeld_39 : decode cX0_minutesHeld 39 = .ok (.iload_n 3, 1) := dec_of (decode cX0_minutesHeld) da_17 21 rfl
theorem dX0_minutesHeld_40 : decode cX0_minutesHeld 40 = .ok (.invokevirtual 64, 3) := dec_of (decode cX0_minutesHeld) da_17 22 rfl
theorem dX0_minutesHeld_43 : decode cX0_minutesHeld 43 = .ok (.iload 4, 2) := dec_of (decode cX0_minutesHeld) da_17 23 rfl
theorem dX0_minutesHeld_45 : decode cX0_minutesHeld 45 = .ok (.if_icmp .ne 6, 3) := dec_of (decode cX0_minutesHeld) da_17 24 rfl
theorem dX0_minutesHeld_48 : decode cX0_minutesHeld 48 = .ok (.iinc 6 1, 3) := dec_of (decode cX0_minutesHeld) da_17 25 rfl
theorem dX0_minutesHeld_51 : decode cX0_minutesHeld 51 = .ok (.iinc 7 1, 3) := dec_of (decode cX0_minutesHeld) da_17 26 rfl
theorem dX0_minutesHeld_54 : decode cX0_minutesHeld 54 = .ok (.goto (-33), 3) := dec_of (decode cX0_minutesHeld) da_17 27 rfl
theorem dX0_minutesHeld_57 : decode cX0_minutesHeld 57 = .ok (.iload 6, 2) := dec_of (decode cX0_minutesHeld) da_17 28 rfl
theorem dX0_minutesHeld_59 : decode cX0_minutesHeld 59 = .ok (.ireturn, 1) := dec_of (decode cX0_minutesHeld) da_17 29 rfl
abbrev dl_18 : List (Nat × Except DecodeError (Instr × Nat)) := [(0, .ok (.iconst 0, 1)), (1, .ok (.istore 5, 2)), (3, .ok (.iconst (-1), 1)), (4, .ok (.istore 6, 2)), (6, .ok (.iconst 0, 1)), (7, .ok (.istore 7, 2)), (9, .ok (.iload 7, 2)), (11, .ok (.bipush 8, 2)), (13, .ok (.if_icmp .ge 38, 3)), (16, .ok (.aload_n 0, 1)), (17, .ok (.aload_n 1, 1)), (18, .ok (.iload_n 2, 1)), (19, .ok (.iload 7, 2)), (21, .ok (.iload_n 3, 1)), (22, .ok (.invokevirtual 140, 3)), (25, .ok (.invokestatic 96, 3)), (28, .ok (.istore 8, 2)), (30, .ok (.iload 8, 2)), (32, .ok (.iload 6, 2)), (34, .ok (.if_icmp .le 11, 3)), (37, .ok (.iload 8, 2)), (39, .ok (.istore 6, 2)), (41, .ok (.iload 7, 2)), (43, .ok (.istore 5, 2)), (45, .ok (.iinc 7 1, 3)), (48, .ok (.goto (-39), 3)), (51, .ok (.iload 4, 2)), (53, .ok (.ifCond .ne 8, 3)), (56, .ok (.iload 5, 2)), (58, .ok (.goto 5, 3)), (61, .ok (.iload 6, 2)), (63, .ok (.ireturn, 1))]
theorem da_18 : dl_18.all (fun q => decide (decode cX0_fairestPlace q.1 = q.2)) = true := by decide +kernel
theorem dX0_fairestPlace_0 : decode cX0_fairestPlace 0 = .ok (.iconst 0, 1) := dec_of (decode cX0_fairestPlace) da_18 0 rfl
theorem dX0_fairestPlace_1 : decode cX0_fairestPlace 1 = .ok (.istore 5, 2) := dec_of (decode cX0_fairestPlace) da_18 1 rfl
theorem dX0_fairestPlace_3 : decode cX0_fairestPlace 3 = .ok (.iconst (-1), 1) := dec_of (decode cX0_fairestPlace) da_18 2 rfl
theorem dX0_fairestPlace_4 : decode cX0_fairestPlace 4 = .ok (.istore 6, 2) := dec_of (decode cX0_fairestPlace) da_18 3 rfl
theorem dX0_fairestPlace_6 : decode cX0_fairestPlace 6 = .ok (.iconst 0, 1) := dec_of (decode cX0_fairestPlace) da_18 4 rfl
theorem dX0_fairestPlace_7 : decode cX0_fairestPlace 7 = .ok (.istore 7, 2) := dec_of (decode cX0_fairestPlace) da_18 5 rfl
theorem dX0_fairestPlace_9 : decode cX0_fairestPlace 9 = .ok (.iload 7, 2) := dec_of (decode cX0_fairestPlace) da_18 6 rfl
theorem dX0_fairestPlace_11 : decode cX0_fairestPlace 11 = .ok (.bipush 8, 2) := dec_of (decode cX0_fairestPlace) da_18 7 rfl
theorem dX0_fairestPlace_13 : decode cX0_fairestPlace 13 = .ok (.if_icmp .ge 38, 3) := dec_of (decode cX0_fairestPlace) da_18 8 rfl
theorem dX0_fairestPlace_16 : decode cX0_fairestPlace 16 = .ok (.aload_n 0, 1) := dec_of (decode cX0_fairestPlace) da_18 9 rfl
theorem dX0_fairestPlace_17 : decode cX0_fairestPlace 17 = .ok (.aload_n 1, 1) := dec_of (decode cX0_fairestPlace) da_18 10 rfl
theorem dX0_fairestPlace_18 : decode cX0_fairestPlace 18 = .ok (.iload_n 2, 1) := dec_of (decode cX0_fairestPlace) da_18 11 rfl
theorem dX0_fairestPlace_19 : decode cX0_fairestPlace 19 = .ok (.iload 7, 2) := dec_of (decode cX0_fairestPlace) da_18 12 rfl
theorem dX0_fairestPlace_21 : decode cX0_fairestPlace 21 = .ok (.iload_n 3, 1) := dec_of (decode cX0_fairestPlace) da_18 13 rfl
theorem dX0_fairestPlace_22 : decode cX0_fairestPlace 22 = .ok (.invokevirtual 140, 3) := dec_of (decode cX0_fairestPlace) da_18 14 rfl
theorem dX0_fairestPlace_25 : decode cX0_fairestPlace 25 = .ok (.invokestatic 96, 3) := dec_of (decode cX0_fairestPlace) da_18 15 rfl
theorem dX0_fairestPlace_28 : decode cX0_fairestPlace 28 = .ok (.istore 8, 2) := dec_of (decode cX0_fairestPlace) da_18 16 rfl
theorem dX0_fairestPlace_30 : decode cX0_fairestPlace 30 = .ok (.iload 8, 2) := dec_of (decode cX0_fairestPlace) da_18 17 rfl
theorem dX0_fairestPlace_32 : decode cX0_fairestPlace 32 = .ok (.iload 6, 2) := dec_of (decode cX0_fairestPlace) da_18 18 rfl
theorem dX0_fairestPlace_34 : decode cX0_fairestPlace 34 = .ok (.if_icmp .le 11, 3) := dec_of (decode cX0_fairestPlace) da_18 19 rfl
theorem dX0_fairestPlace_37 : decode cX0_fairestPlace 37 = .ok (.iload 8, 2) := dec_of (decode cX0_fairestPlace) da_18 20 rfl
theorem dX0_fairestPlace_39 : decode cX0_fairestPlace 39 = .ok (.istore 6, 2) := dec_of (decode cX0_fairestPlace) da_18 21 rfl
theorem dX0_fairestPlace_41 : decode cX0_fairestPlace 41 = .ok (.iload 7, 2) := dec_of (decode cX0_fairestPlace) da_18 22 rfl
theorem dX0_fairestPlace_43 : decode cX0_fairestPlace 43 = .ok (.istore 5, 2) := dec_of (decode cX0_fairestPlace) da_18 23 rfl
theorem dX0_fairestPlace_45 : decode cX0_fairestPlace 45 = .ok (.iinc 7 1, 3) := dec_of (decode cX0_fairestPlace) da_18 24 rfl
theorem dX0_fairestPlace_48 : decode cX0_fairestPlace 48 = .ok (.goto (-39), 3) := dec_of (decode cX0_fairestPlace) da_18 25 rfl
theorem dX0_fairestPlace_51 : decode cX0_fairestPlace 51 = .ok (.iload 4, 2) := dec_of (decode cX0_fairestPlace) da_18 26 rfl
theorem dX0_fairestPlace_53 : decode cX0_fairestPlace 53 = .ok (.ifCond .ne 8, 3) := dec_of (decode cX0_fairestPlace) da_18 27 rfl
theorem dX0_fairestPlace_56 : decode cX0_fairestPlace 56 = .ok (.iload 5, 2) := dec_of (decode cX0_fairestPlace) da_18 28 rfl
theorem dX0_fairestPlace_58 : decode cX0_fairestPlace 58 = .ok (.goto 5, 3) := dec_of (decode cX0_fairestPlace) da_18 29 rfl
theorem dX0_fairestPlace_61 : decode cX0_fairestPlace 61 = .ok (.iload 6, 2) := dec_of (decode cX0_fairestPlace) da_18 30 rfl
theorem dX0_fairestPlace_63 : decode cX0_fairestPlace 63 = .ok (.ireturn, 1) := dec_of (decode cX0_fairestPlace) da_18 31 rfl
abbrev dl_19 : List (Nat × Except DecodeError (Instr × Nat)) := [(0, .ok (.aload_n 0, 1)), (1, .ok (.aload_n 1, 1)), (2, .ok (.invokevirtual 42, 3)), (5, .ok (.aload_n 0, 1)), (6, .ok (.getfield 12, 3)), (9, .ok (.getfield 137, 3)), (12, .ok (.iload_n 2, 1)), (13, .ok (.iload_n 3, 1)), (14, .ok (.iastore, 1)), (15, .ok (.iconst 0, 1)), (16, .ok (.istore 5, 2)), (18, .ok (.iconst 0, 1)), (19, .ok (.istore 6, 2)), (21, .ok (.iload 6, 2)), (23, .ok (.iload 4, 2)), (25, .ok (.if_icmp .ge 44, 3)), (28, .ok (.aload_n 0, 1)), (29, .ok (.getfield 12, 3)), (32, .ok (.invokevirtual 51, 3)), (35, .ok (.aload_n 0, 1)), (36, .ok (.getfield 12, 3)), (39, .ok (.iload_n 3, 1)), (40, .ok (.invokevirtual 64, 3)), (43, .ok (.istore 7, 2)), (45, .ok (.iload 5, 2)), (47, .ok (.iload 7, 2)), (49, .ok (.ifCond .ge 7, 3)), (52, .ok (.iconst 0, 1)), (53, .ok (.goto 7, 3)), (56, .ok (.iconst 1, 1)), (57, .ok (.iload 7, 2)), (59, .ok (.ishl, 1)), (60, .ok (.ior, 1)), (61, .ok (.istore 5, 2)), (63, .ok (.iinc 6 1, 3)), (66, .ok (.goto (-45), 3)), (69, .ok (.iload 5, 2)), (71, .ok (.ireturn, 1))]
theorem da_19 : dl_19.all (fun q => decide (decode cX0_holders q.1 = q.2)) = true := by decide +kernel
theorem dX0_holders_0 : decode cX0_holders 0 = .ok (.aload_n 0, 1) := dec_of (decode cX0_holders) da_19 0 rfl
theorem dX0_holders_1 : decode cX0_holders 1 = .ok (.aload_n 1, 1) := dec_of (decode cX0_holders) da_19 1 rfl
theorem dX0_holders_2 : decode cX0_holders 2 = .ok (.invokevirtual 42, 3) := dec_of (decode cX0_holders) da_19 2 rfl
theorem dX0_holders_5 : decode cX0_holders 5 = .ok (.aload_n 0, 1) := dec_of (decode cX0_holders) da_19 3 rfl
theorem dX0_holders_6 : decode cX0_holders 6 = .ok (.getfield 12, 3) := dec_of (decode cX0_holders) da_19 4 rfl
theorem dX0_holders_9 : decode cX0_holders 9 = .ok (.getfield 137, 3) := dec_of (decode cX0_holders) da_19 5 rfl
theorem dX0_holders_12 : decode cX0_holders 12 = .ok (.iload_n 2, 1) := dec_of (decode cX0_holders) da_19 6 rfl
theorem dX0_holders_13 : decode cX0_holders 13 = .ok (.iload_n 3, 1) := dec_of (decode cX0_holders) da_19 7 rfl
theorem dX0_holders_14 : decode cX0_holders 14 = .ok (.iastore, 1) := dec_of (decode cX0_holders) da_19 8 rfl
theorem dX0_holders_15 : decode cX0_holders 15 = .ok (.iconst 0, 1) := dec_of (decode cX0_holders) da_19 9 rfl
theorem dX0_holders_16 : decode cX0_holders 16 = .ok (.istore 5, 2) := dec_of (decode cX0_holders) da_19 10 rfl
theorem dX0_holders_18 : decode cX0_holders 18 = .ok (.iconst 0, 1) := dec_of (decode cX0_holders) da_19 11 rfl
theorem dX0_holders_19 : decode cX0_holders 19 = .ok (.istore 6, 2) := dec_of (decode cX0_holders) da_19 12 rfl
theorem dX0_holders_21 : decode cX0_holders 21 = .ok (.iload 6, 2) := dec_of (decode cX0_holders) da_19 13 rfl
theorem dX0_holders_23 : decode cX0_holders 23 = .ok (.iload 4, 2) := dec_of (decode cX0_holders) da_19 14 rfl
theorem dX0_holders_25 : decode cX0_holders 25 = .ok (.if_icmp .ge 44, 3) := dec_of (decode cX0_holders) da_19 15 rfl
theorem dX0_holders_28 : decode cX0_holders 28 = .ok (.aload_n 0, 1) := dec_of (decode cX0_holders) da_19 16 rfl
theorem dX0_holders_29 : decode cX0_holders 29 = .ok (.getfield 12, 3) := dec_of (decode cX0_holders) da_19 17 rfl
theorem dX0_holders_32 : decode cX0_holders 32 = .ok (.invokevirtual 51, 3) := dec_of (decode cX0_holders) da_19 18 rfl
theorem dX0_holders_35 : decode cX0_holders 35 = .ok (.aload_n 0, 1) := dec_of (decode cX0_holders) da_19 19 rfl
theorem dX0_holders_36 : decode cX0_holders 36 = .ok (.getfield 12, 3) := dec_of (decode cX0_holders) da_19 20 rfl
theorem dX0_holders_39 : decode cX0_holders 39 = .ok (.iload_n 3, 1) := dec_of (decode cX0_holders) da_19 21 rfl
theorem dX0_holders_40 : decode cX0_holders 40 = .ok (.invokevirtual 64, 3) := dec_of (decode cX0_holders) da_19 22 rfl
theorem dX0_holders_43 : decode cX0_holders 43 = .ok (.istore 7, 2) := dec_of (decode cX0_holders) da_19 23 rfl
theorem dX0_holders_45 : decode cX0_holders 45 = .ok (.iload 5, 2) := dec_of (decode cX0_holders) da_19 24 rfl
theorem dX0_holders_47 : decode cX0_holders 47 = .ok (.iload 7, 2) := dec_of (decode cX0_holders) da_19 25 rfl
theorem dX0_holders_49 : decode cX0_holders 49 = .ok (.ifCond .ge 7, 3) := dec_of (decode cX0_holders) da_19 26 rfl
theorem dX0_holders_52 : decode cX0_holders 52 = .ok (.iconst 0, 1) := dec_of (decode cX0_holders) da_19 27 rfl
theorem dX0_holders_53 : decode cX0_holders 53 = .ok (.goto 7, 3) := dec_of (decode cX0_holders) da_19 28 rfl
theorem dX0_holders_56 : decode cX0_holders 56 = .ok (.iconst 1, 1) := dec_of (decode cX0_holders) da_19 29 rfl
theorem dX0_holders_57 : decode cX0_holders 57 = .ok (.iload 7, 2) := dec_of (decode cX0_holders) da_19 30 rfl
theorem dX0_holders_59 : decode cX0_holders 59 = .ok (.ishl, 1) := dec_of (decode cX0_holders) da_19 31 rfl
theorem dX0_holders_60 : decode cX0_holders 60 = .ok (.ior, 1) := dec_of (decode cX0_holders) da_19 32 rfl
theorem dX0_holders_61 : decode cX0_holders 61 = .ok (.istore 5, 2) := dec_of (decode cX0_holders) da_19 33 rfl
theorem dX0_holders_63 : decode cX0_holders 63 = .ok (.iinc 6 1, 3) := dec_of (decode cX0_holders) da_19 34 rfl
theorem dX0_holders_66 : decode cX0_holders 66 = .ok (.goto (-45), 3) := dec_of (decode cX0_holders) da_19 35 rfl
theorem dX0_holders_69 : decode cX0_holders 69 = .ok (.iload 5, 2) := dec_of (decode cX0_holders) da_19 36 rfl
theorem dX0_holders_71 : decode cX0_holders 71 = .ok (.ireturn, 1) := dec_of (decode cX0_holders) da_19 37 rfl
abbrev dl_20 : List (Nat × Except DecodeError (Instr × Nat)) := [(0, .ok (.aload_n 0, 1)), (1, .ok (.aload_n 1, 1)), (2, .ok (.invokevirtual 42, 3)), (5, .ok (.aload_n 0, 1)), (6, .ok (.getfield 18, 3)), (9, .ok (.aload_n 0, 1)), (10, .ok (.getfield 12, 3)), (13, .ok (.invokevirtual 35, 3)), (16, .ok (.iconst 0, 1)), (17, .ok (.istore 4, 2)), (19, .ok (.iload 4, 2)), (21, .ok (.iload_n 2, 1)), (22, .ok (.if_icmp .ge 18, 3)), (25, .ok (.aload_n 0, 1)), (26, .ok (.getfield 18, 3)), (29, .ok (.iconst 0, 1)), (30, .ok (.iconst 3, 1)), (31, .ok (.invokevirtual 144, 3)), (34, .ok (.iinc 4 1, 3)), (37, .ok (.goto (-18), 3)), (40, .ok (.aload_n 0, 1)), (41, .ok (.getfield 18, 3)), (44, .ok (.getfield 57, 3)), (47, .ok (.iconst (-1), 1)), (48, .ok (.invokestatic 148, 3)), (51, .ok (.aload_n 0, 1)), (52, .ok (.getfield 12, 3)), (55, .ok (.aload_n 1, 1)), (56, .ok (.getfield 45, 3)), (59, .ok (.iload_n 3, 1)), (60, .ok (.iadd, 1)), (61, .ok (.invokevirtual 60, 3)), (64, .ok (.aload_n 0, 1)), (65, .ok (.getfield 18, 3)), (68, .ok (.aload_n 1, 1)), (69, .ok (.getfield 45, 3)), (72, .ok (.iload_n 3, 1)), (73, .ok (.iadd, 1)), (74, .ok (.invokevirtual 60, 3)), (77, .ok (.iconst 0, 1))]
theorem da_20 : dl_20.all (fun q => decide (decode cX0_gainers q.1 = q.2)) = true := by decide +kernel
theorem dX0_gainers_0 : decode cX0_gainers 0 = .ok (.aload_n 0, 1) := dec_of (decode cX0_gainers) da_20 0 rfl
theorem dX0_gainers_1 : decode cX0_gainers 1 = .ok (.aload_n 1, 1) := dec_of (decode cX0_gainers) da_20 1 rfl
theorem dX0_gainers_2 : decode cX0_gainers 2 = .ok (.invokevirtual 42, 3) := dec_of (decode cX0_gainers) da_20 2 rfl
theorem dX0_gainers_5 : decode cX0_gainers 5 = .ok (.aload_n 0, 1) := dec_of (decode cX0_gainers) da_20 3 rfl
theorem dX0_gainers_6 : decode cX0_gainers 6 = .ok (.getfield 18, 3) := dec_of (decode cX0_gainers) da_20 4 rfl
theorem dX0_gainers_9 : decode cX0_gainers 9 = .ok (.aload_n 0, 1) := dec_of (decode cX0_gainers) da_20 5 rfl
theorem dX0_gainers_10 : decode cX0_gainers 10 = .ok (.getfield 12, 3) := dec_of (decode cX0_gainers) da_20 6 rfl
theorem dX0_gainers_13 : decode cX0_gainers 13 = .ok (.invokevirtual 35, 3) := dec_of (decode cX0_gainers) da_20 7 rfl
theorem dX0_gainers_16 : decode cX0_gainers 16 = .ok (.iconst 0, 1) := dec_of (decode cX0_gainers) da_20 8 rfl
theorem dX0_gainers_17 : decode cX0_gainers 17 = .ok (.istore 4, 2) := dec_of (decode cX0_gainers) da_20 9 rfl
theorem dX0_gainers_19 : decode cX0_gainers 19 = .ok (.iload 4, 2) := dec_of (decode cX0_gainers) da_20 10 rfl
theorem dX0_gainers_21 : decode cX0_gainers 21 = .ok (.iload_n 2, 1) := dec_of (decode cX0_gainers) da_20 11 rfl
theorem dX0_gainers_22 : decode cX0_gainers 22 = .ok (.if_icmp .ge 18, 3) := dec_of (decode cX0_gainers) da_20 12 rfl
theorem dX0_gainers_25 : decode cX0_gainers 25 = .ok (.aload_n 0, 1) := dec_of (decode cX0_gainers) da_20 13 rfl
theorem dX0_gainers_26 : decode cX0_gainers 26 = .ok (.getfield 18, 3) := dec_of (decode cX0_gainers) da_20 14 rfl
theorem dX0_gainers_29 : decode cX0_gainers 29 = .ok (.iconst 0, 1) := dec_of (decode cX0_gainers) da_20 15 rfl
theorem dX0_gainers_30 : decode cX0_gainers 30 = .ok (.iconst 3, 1) := dec_of (decode cX0_gainers) da_20 16 rfl
theorem dX0_gainers_31 : decode cX0_gainers 31 = .ok (.invokevirtual 144, 3) := dec_of (decode cX0_gainers) da_20 17 rfl
theorem dX0_gainers_34 : decode cX0_gainers 34 = .ok (.iinc 4 1, 3) := dec_of (decode cX0_gainers) da_20 18 rfl
theorem dX0_gainers_37 : decode cX0_gainers 37 = .ok (.goto (-18), 3) := dec_of (decode cX0_gainers) da_20 19 rfl
theorem dX0_gainers_40 : decode cX0_gainers 40 = .ok (.aload_n 0, 1) := dec_of (decode cX0_gainers) da_20 20 rfl
theorem dX0_gainers_41 : decode cX0_gainers 41 = .ok (.getfield 18, 3) := dec_of (decode cX0_gainers) da_20 21 rfl
theorem dX0_gainers_44 : decode cX0_gainers 44 = .ok (.getfield 57, 3) := dec_of (decode cX0_gainers) da_20 22 rfl
theorem dX0_gainers_47 : decode cX0_gainers 47 = .ok (.iconst (-1), 1) := dec_of (decode cX0_gainers) da_20 23 rfl
theorem dX0_gainers_48 : decode cX0_gainers 48 = .ok (.invokestatic 148, 3) := dec_of (decode cX0_gainers) da_20 24 rfl
theorem dX0_gainers_51 : decode cX0_gainers 51 = .ok (.aload_n 0, 1) := dec_of (decode cX0_gainers) da_20 25 rfl
theorem dX0_gainers_52 : decode cX0_gainers 52 = .ok (.getfield 12, 3) := dec_of (decode cX0_gainers) da_20 26 rfl
theorem dX0_gainers_55 : decode cX0_gainers 55 = .ok (.aload_n 1, 1) := dec_of (decode cX0_gainers) da_20 27 rfl
theorem dX0_gainers_56 : decode cX0_gainers 56 = .ok (.getfield 45, 3) := dec_of (decode cX0_gainers) da_20 28 rfl
theorem dX0_gainers_59 : decode cX0_gainers 59 = .ok (.iload_n 3, 1) := dec_of (decode cX0_gainers) da_20 29 rfl
theorem dX0_gainers_60 : decode cX0_gainers 60 = .ok (.iadd, 1) := dec_of (decode cX0_gainers) da_20 30 rfl
theorem dX0_gainers_61 : decode cX0_gainers 61 = .ok (.invokevirtual 60, 3) := dec_of (decode cX0_gainers) da_20 31 rfl
theorem dX0_gainers_64 : decode cX0_gainers 64 = .ok (.aload_n 0, 1) := dec_of (decode cX0_gainers) da_20 32 rfl
theorem dX0_gainers_65 : decode cX0_gainers 65 = .ok (.getfield 18, 3) := dec_of (decode cX0_gainers) da_20 33 rfl
theorem dX0_gainers_68 : decode cX0_gainers 68 = .ok (.aload_n 1, 1) := dec_of (decode cX0_gainers) da_20 34 rfl
theorem dX0_gainers_69 : decode cX0_gainers 69 = .ok (.getfield 45, 3) := dec_of (decode cX0_gainers) da_20 35 rfl
theorem dX0_gainers_72 : decode cX0_gainers 72 = .ok (.iload_n 3, 1) := dec_of (decode cX0_gainers) da_20 36 rfl
theorem dX0_gainers_73 : decode cX0_gainers 73 = .ok (.iadd, 1) := dec_of (decode cX0_gainers) da_20 37 rfl
theorem dX0_gainers_74 : decode cX0_gainers 74 = .ok (.invokevirtual 60, 3) := dec_of (decode cX0_gainers) da_20 38 rfl
theorem dX0_gainers_77 : decode cX0_gainers 77 = .ok (.iconst 0, 1) := dec_of (decode cX0_gainers) da_20 39 rfl
abbrev dl_21 : List (Nat × Except DecodeError (Instr × Nat)) := [(78, .ok (.istore 4, 2)), (80, .ok (.iload_n 2, 1)), (81, .ok (.istore 5, 2)), (83, .ok (.iload 5, 2)), (85, .ok (.aload_n 1, 1)), (86, .ok (.getfield 68, 3)), (89, .ok (.if_icmp .ge 78, 3)), (92, .ok (.aload_n 1, 1)), (93, .ok (.getfield 77, 3)), (96, .ok (.iload 5, 2)), (98, .ok (.iaload, 1)), (99, .ok (.istore 6, 2)), (101, .ok (.aload_n 0, 1)), (102, .ok (.getfield 18, 3)), (105, .ok (.getfield 48, 3)), (108, .ok (.iload 6, 2)), (110, .ok (.iaload, 1)), (111, .ok (.iconst 2, 1)), (112, .ok (.if_icmp .ne 49, 3)), (115, .ok (.aload_n 0, 1)), (116, .ok (.getfield 12, 3)), (119, .ok (.getfield 48, 3)), (122, .ok (.iload 6, 2)), (124, .ok (.iaload, 1)), (125, .ok (.iconst 2, 1)), (126, .ok (.if_icmp .ne 26, 3)), (129, .ok (.aload_n 0, 1)), (130, .ok (.getfield 18, 3)), (133, .ok (.getfield 54, 3)), (136, .ok (.iload 6, 2)), (138, .ok (.iaload, 1)), (139, .ok (.aload_n 0, 1)), (140, .ok (.getfield 12, 3)), (143, .ok (.getfield 54, 3)), (146, .ok (.iload 6, 2)), (148, .ok (.iaload, 1)), (149, .ok (.if_icmp .ge 12, 3)), (152, .ok (.iload 4, 2)), (154, .ok (.iconst 1, 1)), (155, .ok (.iload 6, 2))]
theorem da_21 : dl_21.all (fun q => decide (decode cX0_gainers q.1 = q.2)) = true := by decide +kernel
theorem dX0_gainers_78 : decode cX0_gainers 78 = .ok (.istore 4, 2) := dec_of (decode cX0_gainers) da_21 0 rfl
theorem dX0_gainers_80 : decode cX0_gainers 80 = .ok (.iload_n 2, 1) := dec_of (decode cX0_gainers) da_21 1 rfl
theorem dX0_gainers_81 : decode cX0_gainers 81 = .ok (.istore 5, 2) := dec_of (decode cX0_gainers) da_21 2 rfl
theorem dX0_gainers_83 : decode cX0_gainers 83 = .ok (.iload 5, 2) := dec_of (decode cX0_gainers) da_21 3 rfl
theorem dX0_gainers_85 : decode cX0_gainers 85 = .ok (.aload_n 1, 1) := dec_of (decode cX0_gainers) da_21 4 rfl
theorem dX0_gainers_86 : decode cX0_gainers 86 = .ok (.getfield 68, 3) := dec_of (decode cX0_gainers) da_21 5 rfl
theorem dX0_gainers_89 : decode cX0_gainers 89 = .ok (.if_icmp .ge 78, 3) := dec_of (decode cX0_gainers) da_21 6 rfl
theorem dX0_gainers_92 : decode cX0_gainers 92 = .ok (.aload_n 1, 1) := dec_of (decode cX0_gainers) da_21 7 rfl
theorem dX0_gainers_93 : decode cX0_gainers 93 = .ok (.getfield 77, 3) := dec_of (decode cX0_gainers) da_21 8 rfl
theorem dX0_gainers_96 : decode cX0_gainers 96 = .ok (.iload 5, 2) := dec_of (decode cX0_gainers) da_21 9 rfl
theorem dX0_gainers_98 : decode cX0_gainers 98 = .ok (.iaload, 1) := dec_of (decode cX0_gainers) da_21 10 rfl
theorem dX0_gainers_99 : decode cX0_gainers 99 = .ok (.istore 6, 2) := dec_of (decode cX0_gainers) da_21 11 rfl
theorem dX0_gainers_101 : decode cX0_gainers 101 = .ok (.aload_n 0, 1) := dec_of (decode cX0_gainers) da_21 12 rfl
theorem dX0_gainers_102 : decode cX0_gainers 102 = .ok (.getfield 18, 3) := dec_of (decode cX0_gainers) da_21 13 rfl
theorem dX0_gainers_105 : decode cX0_gainers 105 = .ok (.getfield 48, 3) := dec_of (decode cX0_gainers) da_21 14 rfl
theorem dX0_gainers_108 : decode cX0_gainers 108 = .ok (.iload 6, 2) := dec_of (decode cX0_gainers) da_21 15 rfl
theorem dX0_gainers_110 : decode cX0_gainers 110 = .ok (.iaload, 1) := dec_of (decode cX0_gainers) da_21 16 rfl
theorem dX0_gainers_111 : decode cX0_gainers 111 = .ok (.iconst 2, 1) := dec_of (decode cX0_gainers) da_21 17 rfl
theorem dX0_gainers_112 : decode cX0_gainers 112 = .ok (.if_icmp .ne 49, 3) := dec_of (decode cX0_gainers) da_21 18 rfl
theorem dX0_gainers_115 : decode cX0_gainers 115 = .ok (.aload_n 0, 1) := dec_of (decode cX0_gainers) da_21 19 rfl
theorem dX0_gainers_116 : decode cX0_gainers 116 = .ok (.getfield 12, 3) := dec_of (decode cX0_gainers) da_21 20 rfl
theorem dX0_gainers_119 : decode cX0_gainers 119 = .ok (.getfield 48, 3) := dec_of (decode cX0_gainers) da_21 21 rfl
theorem dX0_gainers_122 : decode cX0_gainers 122 = .ok (.iload 6, 2) := dec_of (decode cX0_gainers) da_21 22 rfl
theorem dX0_gainers_124 : decode cX0_gainers 124 = .ok (.iaload, 1) := dec_of (decode cX0_gainers) da_21 23 rfl
theorem dX0_gainers_125 : decode cX0_gainers 125 = .ok (.iconst 2, 1) := dec_of (decode cX0_gainers) da_21 24 rfl
theorem dX0_gainers_126 : decode cX0_gainers 126 = .ok (.if_icmp .ne 26, 3) := dec_of (decode cX0_gainers) da_21 25 rfl
theorem dX0_gainers_129 : decode cX0_gainers 129 = .ok (.aload_n 0, 1) := dec_of (decode cX0_gainers) da_21 26 rfl
theorem dX0_gainers_130 : decode cX0_gainers 130 = .ok (.getfield 18, 3) := dec_of (decode cX0_gainers) da_21 27 rfl
theorem dX0_gainers_133 : decode cX0_gainers 133 = .ok (.getfield 54, 3) := dec_of (decode cX0_gainers) da_21 28 rfl
theorem dX0_gainers_136 : decode cX0_gainers 136 = .ok (.iload 6, 2) := dec_of (decode cX0_gainers) da_21 29 rfl
theorem dX0_gainers_138 : decode cX0_gainers 138 = .ok (.iaload, 1) := dec_of (decode cX0_gainers) da_21 30 rfl
theorem dX0_gainers_139 : decode cX0_gainers 139 = .ok (.aload_n 0, 1) := dec_of (decode cX0_gainers) da_21 31 rfl
theorem dX0_gainers_140 : decode cX0_gainers 140 = .ok (.getfield 12, 3) := dec_of (decode cX0_gainers) da_21 32 rfl
theorem dX0_gainers_143 : decode cX0_gainers 143 = .ok (.getfield 54, 3) := dec_of (decode cX0_gainers) da_21 33 rfl
theorem dX0_gainers_146 : decode cX0_gainers 146 = .ok (.iload 6, 2) := dec_of (decode cX0_gainers) da_21 34 rfl
theorem dX0_gainers_148 : decode cX0_gainers 148 = .ok (.iaload, 1) := dec_of (decode cX0_gainers) da_21 35 rfl
theorem dX0_gainers_149 : decode cX0_gainers 149 = .ok (.if_icmp .ge 12, 3) := dec_of (decode cX0_gainers) da_21 36 rfl
theorem dX0_gainers_152 : decode cX0_gainers 152 = .ok (.iload 4, 2) := dec_of (decode cX0_gainers) da_21 37 rfl
theorem dX0_gainers_154 : decode cX0_gainers 154 = .ok (.iconst 1, 1) := dec_of (decode cX0_gainers) da_21 38 rfl
theorem dX0_gainers_155 : decode cX0_gainers 155 = .ok (.iload 6, 2) := dec_of (decode cX0_gainers) da_21 39 rfl
abbrev dl_22 : List (Nat × Except DecodeError (Instr × Nat)) := [(157, .ok (.ishl, 1)), (158, .ok (.ior, 1)), (159, .ok (.istore 4, 2)), (161, .ok (.iinc 5 1, 3)), (164, .ok (.goto (-81), 3)), (167, .ok (.iload 4, 2)), (169, .ok (.ireturn, 1))]
theorem da_22 : dl_22.all (fun q => decide (decode cX0_gainers q.1 = q.2)) = true := by decide +kernel
theorem dX0_gainers_157 : decode cX0_gainers 157 = .ok (.ishl, 1) := dec_of (decode cX0_gainers) da_22 0 rfl
theorem dX0_gainers_158 : decode cX0_gainers 158 = .ok (.ior, 1) := dec_of (decode cX0_gainers) da_22 1 rfl
theorem dX0_gainers_159 : decode cX0_gainers 159 = .ok (.istore 4, 2) := dec_of (decode cX0_gainers) da_22 2 rfl
theorem dX0_gainers_161 : decode cX0_gainers 161 = .ok (.iinc 5 1, 3) := dec_of (decode cX0_gainers) da_22 3 rfl
theorem dX0_gainers_164 : decode cX0_gainers 164 = .ok (.goto (-81), 3) := dec_of (decode cX0_gainers) da_22 4 rfl
theorem dX0_gainers_167 : decode cX0_gainers 167 = .ok (.iload 4, 2) := dec_of (decode cX0_gainers) da_22 5 rfl
theorem dX0_gainers_169 : decode cX0_gainers 169 = .ok (.ireturn, 1) := dec_of (decode cX0_gainers) da_22 6 rfl
abbrev dl_23 : List (Nat × Except DecodeError (Instr × Nat)) := [(0, .ok (.aload_n 0, 1)), (1, .ok (.aload_n 1, 1)), (2, .ok (.invokevirtual 42, 3)), (5, .ok (.iconst 0, 1)), (6, .ok (.istore 4, 2)), (8, .ok (.bipush (-2), 2)), (10, .ok (.istore 5, 2)), (12, .ok (.iconst 0, 1)), (13, .ok (.istore 6, 2)), (15, .ok (.iload 6, 2)), (17, .ok (.iload_n 2, 1)), (18, .ok (.if_icmp .ge 50, 3)), (21, .ok (.aload_n 0, 1)), (22, .ok (.getfield 12, 3)), (25, .ok (.invokevirtual 51, 3)), (28, .ok (.aload_n 0, 1)), (29, .ok (.getfield 12, 3)), (32, .ok (.getfield 68, 3)), (35, .ok (.ifCond .ne 27, 3)), (38, .ok (.iload 4, 2)), (40, .ok (.ifCond .ne 15, 3)), (43, .ok (.aload_n 0, 1)), (44, .ok (.getfield 12, 3)), (47, .ok (.getfield 45, 3)), (50, .ok (.iconst 1, 1)), (51, .ok (.isub, 1)), (52, .ok (.goto 5, 3)), (55, .ok (.iload 5, 2)), (57, .ok (.istore 5, 2)), (59, .ok (.iinc 4 1, 3)), (62, .ok (.iinc 6 1, 3)), (65, .ok (.goto (-50), 3)), (68, .ok (.iload_n 3, 1)), (69, .ok (.ifCond .ne 8, 3)), (72, .ok (.iload 4, 2)), (74, .ok (.goto 5, 3)), (77, .ok (.iload 5, 2)), (79, .ok (.ireturn, 1))]
theorem da_23 : dl_23.all (fun q => decide (decode cX0_emptyMinutes q.1 = q.2)) = true := by decide +kernel
theorem dX0_emptyMinutes_0 : decode cX0_emptyMinutes 0 = .ok (.aload_n 0, 1) := dec_of (decode cX0_emptyMinutes) da_23 0 rfl
theorem dX0_emptyMinutes_1 : decode cX0_emptyMinutes 1 = .ok (.aload_n 1, 1) := dec_of (decode cX0_emptyMinutes) da_23 1 rfl
theorem dX0_emptyMinutes_2 : decode cX0_emptyMinutes 2 = .ok (.invokevirtual 42, 3) := dec_of (decode cX0_emptyMinutes) da_23 2 rfl
theorem dX0_emptyMinutes_5 : decode cX0_emptyMinutes 5 = .ok (.iconst 0, 1) := dec_of (decode cX0_emptyMinutes) da_23 3 rfl
theorem dX0_emptyMinutes_6 : decode cX0_emptyMinutes 6 = .ok (.istore 4, 2) := dec_of (decode cX0_emptyMinutes) da_23 4 rfl
theorem dX0_emptyMinutes_8 : decode cX0_emptyMinutes 8 = .ok (.bipush (-2), 2) := dec_of (decode cX0_emptyMinutes) da_23 5 rfl
theorem dX0_emptyMinutes_10 : decode cX0_emptyMinutes 10 = .ok (.istore 5, 2) := dec_of (decode cX0_emptyMinutes) da_23 6 rfl
theorem dX0_emptyMinutes_12 : decode cX0_emptyMinutes 12 = .ok (.iconst 0, 1) := dec_of (decode cX0_emptyMinutes) da_23 7 rfl
theorem dX0_emptyMinutes_13 : decode cX0_emptyMinutes 13 = .ok (.istore 6, 2) := dec_of (decode cX0_emptyMinutes) da_23 8 rfl
theorem dX0_emptyMinutes_15 : decode cX0_emptyMinutes 15 = .ok (.iload 6, 2) := dec_of (decode cX0_emptyMinutes) da_23 9 rfl
theorem dX0_emptyMinutes_17 : decode cX0_emptyMinutes 17 = .ok (.iload_n 2, 1) := dec_of (decode cX0_emptyMinutes) da_23 10 rfl
theorem dX0_emptyMinutes_18 : decode cX0_emptyMinutes 18 = .ok (.if_icmp .ge 50, 3) := dec_of (decode cX0_emptyMinutes) da_23 11 rfl
theorem dX0_emptyMinutes_21 : decode cX0_emptyMinutes 21 = .ok (.aload_n 0, 1) := dec_of (decode cX0_emptyMinutes) da_23 12 rfl
theorem dX0_emptyMinutes_22 : decode cX0_emptyMinutes 22 = .ok (.getfield 12, 3) := dec_of (decode cX0_emptyMinutes) da_23 13 rfl
theorem dX0_emptyMinutes_25 : decode cX0_emptyMinutes 25 = .ok (.invokevirtual 51, 3) := dec_of (decode cX0_emptyMinutes) da_23 14 rfl
theorem dX0_emptyMinutes_28 : decode cX0_emptyMinutes 28 = .ok (.aload_n 0, 1) := dec_of (decode cX0_emptyMinutes) da_23 15 rfl
theorem dX0_emptyMinutes_29 : decode cX0_emptyMinutes 29 = .ok (.getfield 12, 3) := dec_of (decode cX0_emptyMinutes) da_23 16 rfl
theorem dX0_emptyMinutes_32 : decode cX0_emptyMinutes 32 = .ok (.getfield 68, 3) := dec_of (decode cX0_emptyMinutes) da_23 17 rfl
theorem dX0_emptyMinutes_35 : decode cX0_emptyMinutes 35 = .ok (.ifCond .ne 27, 3) := dec_of (decode cX0_emptyMinutes) da_23 18 rfl
theorem dX0_emptyMinutes_38 : decode cX0_emptyMinutes 38 = .ok (.iload 4, 2) := dec_of (decode cX0_emptyMinutes) da_23 19 rfl
theorem dX0_emptyMinutes_40 : decode cX0_emptyMinutes 40 = .ok (.ifCond .ne 15, 3) := dec_of (decode cX0_emptyMinutes) da_23 20 rfl
theorem dX0_emptyMinutes_43 : decode cX0_emptyMinutes 43 = .ok (.aload_n 0, 1) := dec_of (decode cX0_emptyMinutes) da_23 21 rfl
theorem dX0_emptyMinutes_44 : decode cX0_emptyMinutes 44 = .ok (.getfield 12, 3) := dec_of (decode cX0_emptyMinutes) da_23 22 rfl
theorem dX0_emptyMinutes_47 : decode cX0_emptyMinutes 47 = .ok (.getfield 45, 3) := dec_of (decode cX0_emptyMinutes) da_23 23 rfl
theorem dX0_emptyMinutes_50 : decode cX0_emptyMinutes 50 = .ok (.iconst 1, 1) := dec_of (decode cX0_emptyMinutes) da_23 24 rfl
theorem dX0_emptyMinutes_51 : decode cX0_emptyMinutes 51 = .ok (.isub, 1) := dec_of (decode cX0_emptyMinutes) da_23 25 rfl
theorem dX0_emptyMinutes_52 : decode cX0_emptyMinutes 52 = .ok (.goto 5, 3) := dec_of (decode cX0_emptyMinutes) da_23 26 rfl
theorem dX0_emptyMinutes_55 : decode cX0_emptyMinutes 55 = .ok (.iload 5, 2) := dec_of (decode cX0_emptyMinutes) da_23 27 rfl
theorem dX0_emptyMinutes_57 : decode cX0_emptyMinutes 57 = .ok (.istore 5, 2) := dec_of (decode cX0_emptyMinutes) da_23 28 rfl
theorem dX0_emptyMinutes_59 : decode cX0_emptyMinutes 59 = .ok (.iinc 4 1, 3) := dec_of (decode cX0_emptyMinutes) da_23 29 rfl
theorem dX0_emptyMinutes_62 : decode cX0_emptyMinutes 62 = .ok (.iinc 6 1, 3) := dec_of (decode cX0_emptyMinutes) da_23 30 rfl
theorem dX0_emptyMinutes_65 : decode cX0_emptyMinutes 65 = .ok (.goto (-50), 3) := dec_of (decode cX0_emptyMinutes) da_23 31 rfl
theorem dX0_emptyMinutes_68 : decode cX0_emptyMinutes 68 = .ok (.iload_n 3, 1) := dec_of (decode cX0_emptyMinutes) da_23 32 rfl
theorem dX0_emptyMinutes_69 : decode cX0_emptyMinutes 69 = .ok (.ifCond .ne 8, 3) := dec_of (decode cX0_emptyMinutes) da_23 33 rfl
theorem dX0_emptyMinutes_72 : decode cX0_emptyMinutes 72 = .ok (.iload 4, 2) := dec_of (decode cX0_emptyMinutes) da_23 34 rfl
theorem dX0_emptyMinutes_74 : decode cX0_emptyMinutes 74 = .ok (.goto 5, 3) := dec_of (decode cX0_emptyMinutes) da_23 35 rfl
theorem dX0_emptyMinutes_77 : decode cX0_emptyMinutes 77 = .ok (.iload 5, 2) := dec_of (decode cX0_emptyMinutes) da_23 36 rfl
theorem dX0_emptyMinutes_79 : decode cX0_emptyMinutes 79 = .ok (.ireturn, 1) := dec_of (decode cX0_emptyMinutes) da_23 37 rfl
abbrev dl_24 : List (Nat × Except DecodeError (Instr × Nat)) := [(0, .ok (.iconst 0, 1)), (1, .ok (.istore 5, 2)), (3, .ok (.iload_n 2, 1)), (4, .ok (.istore 6, 2)), (6, .ok (.iconst 0, 1)), (7, .ok (.istore 7, 2)), (9, .ok (.iload 7, 2)), (11, .ok (.bipush 10, 2)), (13, .ok (.if_icmp .ge 73, 3)), (16, .ok (.aload_n 0, 1)), (17, .ok (.getfield 12, 3)), (20, .ok (.aload_n 1, 1)), (21, .ok (.invokevirtual 35, 3)), (24, .ok (.aload_n 0, 1)), (25, .ok (.getfield 12, 3)), (28, .ok (.iconst 1, 1)), (29, .ok (.putfield 39, 3)), (32, .ok (.aload_n 0, 1)), (33, .ok (.getfield 12, 3)), (36, .ok (.iload 6, 2)), (38, .ok (.putfield 154, 3)), (41, .ok (.aload_n 0, 1)), (42, .ok (.getfield 12, 3)), (45, .ok (.aload_n 1, 1)), (46, .ok (.getfield 45, 3)), (49, .ok (.iload 4, 2)), (51, .ok (.iadd, 1)), (52, .ok (.invokevirtual 60, 3)), (55, .ok (.aload_n 0, 1)), (56, .ok (.getfield 12, 3)), (59, .ok (.getfield 154, 3)), (62, .ok (.istore 6, 2)), (64, .ok (.aload_n 0, 1)), (65, .ok (.getfield 12, 3)), (68, .ok (.getfield 48, 3)), (71, .ok (.iload_n 3, 1)), (72, .ok (.iaload, 1)), (73, .ok (.iconst 2, 1)), (74, .ok (.if_icmp .ne 6, 3)), (77, .ok (.iinc 5 1, 3))]
theorem da_24 : dl_24.all (fun q => decide (decode cX0_timesServed q.1 = q.2)) = true := by decide +kernel
theorem dX0_timesServed_0 : decode cX0_timesServed 0 = .ok (.iconst 0, 1) := dec_of (decode cX0_timesServed) da_24 0 rfl
theorem dX0_timesServed_1 : decode cX0_timesServed 1 = .ok (.istore 5, 2) := dec_of (decode cX0_timesServed) da_24 1 rfl
theorem dX0_timesServed_3 : decode cX0_timesServed 3 = .ok (.iload_n 2, 1) := dec_of (decode cX0_timesServed) da_24 2 rfl
theorem dX0_timesServed_4 : decode cX0_timesServed 4 = .ok (.istore 6, 2) := dec_of (decode cX0_timesServed) da_24 3 rfl
theorem dX0_timesServed_6 : decode cX0_timesServed 6 = .ok (.iconst 0, 1) := dec_of (decode cX0_timesServed) da_24 4 rfl
theorem dX0_timesServed_7 : decode cX0_timesServed 7 = .ok (.istore 7, 2) := dec_of (decode cX0_timesServed) da_24 5 rfl
theorem dX0_timesServed_9 : decode cX0_timesServed 9 = .ok (.iload 7, 2) := dec_of (decode cX0_timesServed) da_24 6 rfl
theorem dX0_timesServed_11 : decode cX0_timesServed 11 = .ok (.bipush 10, 2) := dec_of (decode cX0_timesServed) da_24 7 rfl
theorem dX0_timesServed_13 : decode cX0_timesServed 13 = .ok (.if_icmp .ge 73, 3) := dec_of (decode cX0_timesServed) da_24 8 rfl
theorem dX0_timesServed_16 : decode cX0_timesServed 16 = .ok (.aload_n 0, 1) := dec_of (decode cX0_timesServed) da_24 9 rfl
theorem dX0_timesServed_17 : decode cX0_timesServed 17 = .ok (.getfield 12, 3) := dec_of (decode cX0_timesServed) da_24 10 rfl
theorem dX0_timesServed_20 : decode cX0_timesServed 20 = .ok (.aload_n 1, 1) := dec_of (decode cX0_timesServed) da_24 11 rfl
theorem dX0_timesServed_21 : decode cX0_timesServed 21 = .ok (.invokevirtual 35, 3) := dec_of (decode cX0_timesServed) da_24 12 rfl
theorem dX0_timesServed_24 : decode cX0_timesServed 24 = .ok (.aload_n 0, 1) := dec_of (decode cX0_timesServed) da_24 13 rfl
theorem dX0_timesServed_25 : decode cX0_timesServed 25 = .ok (.getfield 12, 3) := dec_of (decode cX0_timesServed) da_24 14 rfl
theorem dX0_timesServed_28 : decode cX0_timesServed 28 = .ok (.iconst 1, 1) := dec_of (decode cX0_timesServed) da_24 15 rfl
theorem dX0_timesServed_29 : decode cX0_timesServed 29 = .ok (.putfield 39, 3) := dec_of (decode cX0_timesServed) da_24 16 rfl
theorem dX0_timesServed_32 : decode cX0_timesServed 32 = .ok (.aload_n 0, 1) := dec_of (decode cX0_timesServed) da_24 17 rfl
theorem dX0_timesServed_33 : decode cX0_timesServed 33 = .ok (.getfield 12, 3) := dec_of (decode cX0_timesServed) da_24 18 rfl
theorem dX0_timesServed_36 : decode cX0_timesServed 36 = .ok (.iload 6, 2) := dec_of (decode cX0_timesServed) da_24 19 rfl
theorem dX0_timesServed_38 : decode cX0_timesServed 38 = .ok (.putfield 154, 3) := dec_of (decode cX0_timesServed) da_24 20 rfl
theorem dX0_timesServed_41 : decode cX0_timesServed 41 = .ok (.aload_n 0, 1) := dec_of (decode cX0_timesServed) da_24 21 rfl
theorem dX0_timesServed_42 : decode cX0_timesServed 42 = .ok (.getfield 12, 3) := dec_of (decode cX0_timesServed) da_24 22 rfl
theorem dX0_timesServed_45 : decode cX0_timesServed 45 = .ok (.aload_n 1, 1) := dec_of (decode cX0_timesServed) da_24 23 rfl
theorem dX0_timesServed_46 : decode cX0_timesServed 46 = .ok (.getfield 45, 3) := dec_of (decode cX0_timesServed) da_24 24 rfl
theorem dX0_timesServed_49 : decode cX0_timesServed 49 = .ok (.iload 4, 2) := dec_of (decode cX0_timesServed) da_24 25 rfl
theorem dX0_timesServed_51 : decode cX0_timesServed 51 = .ok (.iadd, 1) := dec_of (decode cX0_timesServed) da_24 26 rfl
theorem dX0_timesServed_52 : decode cX0_timesServed 52 = .ok (.invokevirtual 60, 3) := dec_of (decode cX0_timesServed) da_24 27 rfl
theorem dX0_timesServed_55 : decode cX0_timesServed 55 = .ok (.aload_n 0, 1) := dec_of (decode cX0_timesServed) da_24 28 rfl
theorem dX0_timesServed_56 : decode cX0_timesServed 56 = .ok (.getfield 12, 3) := dec_of (decode cX0_timesServed) da_24 29 rfl
theorem dX0_timesServed_59 : decode cX0_timesServed 59 = .ok (.getfield 154, 3) := dec_of (decode cX0_timesServed) da_24 30 rfl
theorem dX0_timesServed_62 : decode cX0_timesServed 62 = .ok (.istore 6, 2) := dec_of (decode cX0_timesServed) da_24 31 rfl
theorem dX0_timesServed_64 : decode cX0_timesServed 64 = .ok (.aload_n 0, 1) := dec_of (decode cX0_timesServed) da_24 32 rfl
theorem dX0_timesServed_65 : decode cX0_timesServed 65 = .ok (.getfield 12, 3) := dec_of (decode cX0_timesServed) da_24 33 rfl
theorem dX0_timesServed_68 : decode cX0_timesServed 68 = .ok (.getfield 48, 3) := dec_of (decode cX0_timesServed) da_24 34 rfl
theorem dX0_timesServed_71 : decode cX0_timesServed 71 = .ok (.iload_n 3, 1) := dec_of (decode cX0_timesServed) da_24 35 rfl
theorem dX0_timesServed_72 : decode cX0_timesServed 72 = .ok (.iaload, 1) := dec_of (decode cX0_timesServed) da_24 36 rfl
theorem dX0_timesServed_73 : decode cX0_timesServed 73 = .ok (.iconst 2, 1) := dec_of (decode cX0_timesServed) da_24 37 rfl
theorem dX0_timesServed_74 : decode cX0_timesServed 74 = .ok (.if_icmp .ne 6, 3) := dec_of (decode cX0_timesServed) da_24 38 rfl
theorem dX0_timesServed_77 : decode cX0_timesServed 77 = .ok (.iinc 5 1, 3) := dec_of (decode cX0_timesServed) da_24 39 rfl
abbrev dl_25 : List (Nat × Except DecodeError (Instr × Nat)) := [(80, .ok (.iinc 7 1, 3)), (83, .ok (.goto (-74), 3)), (86, .ok (.iload 5, 2)), (88, .ok (.ireturn, 1))]
theorem da_25 : dl_25.all (fun q => decide (decode cX0_timesServed q.1 = q.2)) = true := by decide +kernel
theorem dX0_timesServed_80 : decode cX0_timesServed 80 = .ok (.iinc 7 1, 3) := dec_of (decode cX0_timesServed) da_25 0 rfl
theorem dX0_timesServed_83 : decode cX0_timesServed 83 = .ok (.goto (-74), 3) := dec_of (decode cX0_timesServed) da_25 1 rfl
theorem dX0_timesServed_86 : decode cX0_timesServed 86 = .ok (.iload 5, 2) := dec_of (decode cX0_timesServed) da_25 2 rfl
theorem dX0_timesServed_88 : decode cX0_timesServed 88 = .ok (.ireturn, 1) := dec_of (decode cX0_timesServed) da_25 3 rfl
abbrev dl_26 : List (Nat × Except DecodeError (Instr × Nat)) := [(0, .ok (.aload_n 0, 1)), (1, .ok (.aload_n 1, 1)), (2, .ok (.invokevirtual 42, 3)), (5, .ok (.iload_n 2, 1)), (6, .ok (.tableswitch 130 0 4 #[34, 50, 67, 96, 113], 34)), (40, .ok (.aload_n 0, 1)), (41, .ok (.getfield 12, 3)), (44, .ok (.dup, 1)), (45, .ok (.getfield 39, 3)), (48, .ok (.iconst 4, 1)), (49, .ok (.ior, 1)), (50, .ok (.putfield 39, 3)), (53, .ok (.goto 97, 3)), (56, .ok (.aload_n 0, 1)), (57, .ok (.getfield 12, 3)), (60, .ok (.dup, 1)), (61, .ok (.getfield 39, 3)), (64, .ok (.bipush 8, 2)), (66, .ok (.ior, 1)), (67, .ok (.putfield 39, 3)), (70, .ok (.goto 80, 3)), (73, .ok (.aload_n 0, 1)), (74, .ok (.getfield 12, 3)), (77, .ok (.aload_n 0, 1)), (78, .ok (.getfield 12, 3)), (81, .ok (.iload_n 3, 1)), (82, .ok (.invokevirtual 130, 3)), (85, .ok (.iconst 3, 1)), (86, .ok (.invokevirtual 144, 3)), (89, .ok (.aload_n 0, 1)), (90, .ok (.getfield 12, 3)), (93, .ok (.getfield 48, 3)), (96, .ok (.iload_n 3, 1)), (97, .ok (.iconst 3, 1)), (98, .ok (.iastore, 1)), (99, .ok (.goto 51, 3)), (102, .ok (.aload_n 0, 1)), (103, .ok (.getfield 12, 3)), (106, .ok (.dup, 1)), (107, .ok (.getfield 39, 3))]
theorem da_26 : dl_26.all (fun q => decide (decode cX0_servedOtherwise q.1 = q.2)) = true := by decide +kernel
theorem dX0_servedOtherwise_0 : decode cX0_servedOtherwise 0 = .ok (.aload_n 0, 1) := dec_of (decode cX0_servedOtherwise) da_26 0 rfl
theorem dX0_servedOtherwise_1 : decode cX0_servedOtherwise 1 = .ok (.aload_n 1, 1) := dec_of (decode cX0_servedOtherwise) da_26 1 rfl
theorem dX0_servedOtherwise_2 : decode cX0_servedOtherwise 2 = .ok (.invokevirtual 42, 3) := dec_of (decode cX0_servedOtherwise) da_26 2 rfl
theorem dX0_servedOtherwise_5 : decode cX0_servedOtherwise 5 = .ok (.iload_n 2, 1) := dec_of (decode cX0_servedOtherwise) da_26 3 rfl
theorem dX0_servedOtherwise_6 : decode cX0_servedOtherwise 6 = .ok (.tableswitch 130 0 4 #[34, 50, 67, 96, 113], 34) := dec_of (decode cX0_servedOtherwise) da_26 4 rfl
theorem dX0_servedOtherwise_40 : decode cX0_servedOtherwise 40 = .ok (.aload_n 0, 1) := dec_of (decode cX0_servedOtherwise) da_26 5 rfl
theorem dX0_servedOtherwise_41 : decode cX0_servedOtherwise 41 = .ok (.getfield 12, 3) := dec_of (decode cX0_servedOtherwise) da_26 6 rfl
theorem dX0_servedOtherwise_44 : decode cX0_servedOtherwise 44 = .ok (.dup, 1) := dec_of (decode cX0_servedOtherwise) da_26 7 rfl
theorem dX0_servedOtherwise_45 : decode cX0_servedOtherwise 45 = .ok (.getfield 39, 3) := dec_of (decode cX0_servedOtherwise) da_26 8 rfl
theorem dX0_servedOtherwise_48 : decode cX0_servedOtherwise 48 = .ok (.iconst 4, 1) := dec_of (decode cX0_servedOtherwise) da_26 9 rfl
theorem dX0_servedOtherwise_49 : decode cX0_servedOtherwise 49 = .ok (.ior, 1) := dec_of (decode cX0_servedOtherwise) da_26 10 rfl
theorem dX0_servedOtherwise_50 : decode cX0_servedOtherwise 50 = .ok (.putfield 39, 3) := dec_of (decode cX0_servedOtherwise) da_26 11 rfl
theorem dX0_servedOtherwise_53 : decode cX0_servedOtherwise 53 = .ok (.goto 97, 3) := dec_of (decode cX0_servedOtherwise) da_26 12 rfl
theorem dX0_servedOtherwise_56 : decode cX0_servedOtherwise 56 = .ok (.aload_n 0, 1) := dec_of (decode cX0_servedOtherwise) da_26 13 rfl
theorem dX0_servedOtherwise_57 : decode cX0_servedOtherwise 57 = .ok (.getfield 12, 3) := dec_of (decode cX0_servedOtherwise) da_26 14 rfl
theorem dX0_servedOtherwise_60 : decode cX0_servedOtherwise 60 = .ok (.dup, 1) := dec_of (decode cX0_servedOtherwise) da_26 15 rfl
theorem dX0_servedOtherwise_61 : decode cX0_servedOtherwise 61 = .ok (.getfield 39, 3) := dec_of (decode cX0_servedOtherwise) da_26 16 rfl
theorem dX0_servedOtherwise_64 : decode cX0_servedOtherwise 64 = .ok (.bipush 8, 2) := dec_of (decode cX0_servedOtherwise) da_26 17 rfl
theorem dX0_servedOtherwise_66 : decode cX0_servedOtherwise 66 = .ok (.ior, 1) := dec_of (decode cX0_servedOtherwise) da_26 18 rfl
theorem dX0_servedOtherwise_67 : decode cX0_servedOtherwise 67 = .ok (.putfield 39, 3) := dec_of (decode cX0_servedOtherwise) da_26 19 rfl
theorem dX0_servedOtherwise_70 : decode cX0_servedOtherwise 70 = .ok (.goto 80, 3) := dec_of (decode cX0_servedOtherwise) da_26 20 rfl
theorem dX0_servedOtherwise_73 : decode cX0_servedOtherwise 73 = .ok (.aload_n 0, 1) := dec_of (decode cX0_servedOtherwise) da_26 21 rfl
theorem dX0_servedOtherwise_74 : decode cX0_servedOtherwise 74 = .ok (.getfield 12, 3) := dec_of (decode cX0_servedOtherwise) da_26 22 rfl
theorem dX0_servedOtherwise_77 : decode cX0_servedOtherwise 77 = .ok (.aload_n 0, 1) := dec_of (decode cX0_servedOtherwise) da_26 23 rfl
theorem dX0_servedOtherwise_78 : decode cX0_servedOtherwise 78 = .ok (.getfield 12, 3) := dec_of (decode cX0_servedOtherwise) da_26 24 rfl
theorem dX0_servedOtherwise_81 : decode cX0_servedOtherwise 81 = .ok (.iload_n 3, 1) := dec_of (decode cX0_servedOtherwise) da_26 25 rfl
theorem dX0_servedOtherwise_82 : decode cX0_servedOtherwise 82 = .ok (.invokevirtual 130, 3) := dec_of (decode cX0_servedOtherwise) da_26 26 rfl
theorem dX0_servedOtherwise_85 : decode cX0_servedOtherwise 85 = .ok (.iconst 3, 1) := dec_of (decode cX0_servedOtherwise) da_26 27 rfl
theorem dX0_servedOtherwise_86 : decode cX0_servedOtherwise 86 = .ok (.invokevirtual 144, 3) := dec_of (decode cX0_servedOtherwise) da_26 28 rfl
theorem dX0_servedOtherwise_89 : decode cX0_servedOtherwise 89 = .ok (.aload_n 0, 1) := dec_of (decode cX0_servedOtherwise) da_26 29 rfl
theorem dX0_servedOtherwise_90 : decode cX0_servedOtherwise 90 = .ok (.getfield 12, 3) := dec_of (decode cX0_servedOtherwise) da_26 30 rfl
theorem dX0_servedOtherwise_93 : decode cX0_servedOtherwise 93 = .ok (.getfield 48, 3) := dec_of (decode cX0_servedOtherwise) da_26 31 rfl
theorem dX0_servedOtherwise_96 : decode cX0_servedOtherwise 96 = .ok (.iload_n 3, 1) := dec_of (decode cX0_servedOtherwise) da_26 32 rfl
theorem dX0_servedOtherwise_97 : decode cX0_servedOtherwise 97 = .ok (.iconst 3, 1) := dec_of (decode cX0_servedOtherwise) da_26 33 rfl
theorem dX0_servedOtherwise_98 : decode cX0_servedOtherwise 98 = .ok (.iastore, 1) := dec_of (decode cX0_servedOtherwise) da_26 34 rfl
theorem dX0_servedOtherwise_99 : decode cX0_servedOtherwise 99 = .ok (.goto 51, 3) := dec_of (decode cX0_servedOtherwise) da_26 35 rfl
theorem dX0_servedOtherwise_102 : decode cX0_servedOtherwise 102 = .ok (.aload_n 0, 1) := dec_of (decode cX0_servedOtherwise) da_26 36 rfl
theorem dX0_servedOtherwise_103 : decode cX0_servedOtherwise 103 = .ok (.getfield 12, 3) := dec_of (decode cX0_servedOtherwise) da_26 37 rfl
theorem dX0_servedOtherwise_106 : decode cX0_servedOtherwise 106 = .ok (.dup, 1) := dec_of (decode cX0_servedOtherwise) da_26 38 rfl
theorem dX0_servedOtherwise_107 : decode cX0_servedOtherwise 107 = .ok (.getfield 39, 3) := dec_of (decode cX0_servedOtherwise) da_26 39 rfl
abbrev dl_27 : List (Nat × Except DecodeError (Instr × Nat)) := [(110, .ok (.bipush 32, 2)), (112, .ok (.ior, 1)), (113, .ok (.putfield 39, 3)), (116, .ok (.goto 34, 3)), (119, .ok (.aload_n 0, 1)), (120, .ok (.getfield 12, 3)), (123, .ok (.dup, 1)), (124, .ok (.getfield 39, 3)), (127, .ok (.bipush 16, 2)), (129, .ok (.ior, 1)), (130, .ok (.putfield 39, 3)), (133, .ok (.goto 17, 3)), (136, .ok (.aload_n 0, 1)), (137, .ok (.getfield 12, 3)), (140, .ok (.getfield 57, 3)), (143, .ok (.aload_n 1, 1)), (144, .ok (.getfield 45, 3)), (147, .ok (.invokestatic 148, 3)), (150, .ok (.aload_n 0, 1)), (151, .ok (.getfield 12, 3)), (154, .ok (.aload_n 1, 1)), (155, .ok (.getfield 45, 3)), (158, .ok (.iload 4, 2)), (160, .ok (.iadd, 1)), (161, .ok (.invokevirtual 60, 3)), (164, .ok (.aload_n 0, 1)), (165, .ok (.getfield 12, 3)), (168, .ok (.iconst 2, 1)), (169, .ok (.invokevirtual 157, 3)), (172, .ok (.ireturn, 1))]
theorem da_27 : dl_27.all (fun q => decide (decode cX0_servedOtherwise q.1 = q.2)) = true := by decide +kernel
theorem dX0_servedOtherwise_110 : decode cX0_servedOtherwise 110 = .ok (.bipush 32, 2) := dec_of (decode cX0_servedOtherwise) da_27 0 rfl
theorem dX0_servedOtherwise_112 : decode cX0_servedOtherwise 112 = .ok (.ior, 1) := dec_of (decode cX0_servedOtherwise) da_27 1 rfl
theorem dX0_servedOtherwise_113 : decode cX0_servedOtherwise 113 = .ok (.putfield 39, 3) := dec_of (decode cX0_servedOtherwise) da_27 2 rfl
theorem dX0_servedOtherwise_116 : decode cX0_servedOtherwise 116 = .ok (.goto 34, 3) := dec_of (decode cX0_servedOtherwise) da_27 3 rfl
theorem dX0_servedOtherwise_119 : decode cX0_servedOtherwise 119 = .ok (.aload_n 0, 1) := dec_of (decode cX0_servedOtherwise) da_27 4 rfl
theorem dX0_servedOtherwise_120 : decode cX0_servedOtherwise 120 = .ok (.getfield 12, 3) := dec_of (decode cX0_servedOtherwise) da_27 5 rfl
theorem dX0_servedOtherwise_123 : decode cX0_servedOtherwise 123 = .ok (.dup, 1) := dec_of (decode cX0_servedOtherwise) da_27 6 rfl
theorem dX0_servedOtherwise_124 : decode cX0_servedOtherwise 124 = .ok (.getfield 39, 3) := dec_of (decode cX0_servedOtherwise) da_27 7 rfl
theorem dX0_servedOtherwise_127 : decode cX0_servedOtherwise 127 = .ok (.bipush 16, 2) := dec_of (decode cX0_servedOtherwise) da_27 8 rfl
theorem dX0_servedOtherwise_129 : decode cX0_servedOtherwise 129 = .ok (.ior, 1) := dec_of (decode cX0_servedOtherwise) da_27 9 rfl
theorem dX0_servedOtherwise_130 : decode cX0_servedOtherwise 130 = .ok (.putfield 39, 3) := dec_of (decode cX0_servedOtherwise) da_27 10 rfl
theorem dX0_servedOtherwise_133 : decode cX0_servedOtherwise 133 = .ok (.goto 17, 3) := dec_of (decode cX0_servedOtherwise) da_27 11 rfl
theorem dX0_servedOtherwise_136 : decode cX0_servedOtherwise 136 = .ok (.aload_n 0, 1) := dec_of (decode cX0_servedOtherwise) da_27 12 rfl
theorem dX0_servedOtherwise_137 : decode cX0_servedOtherwise 137 = .ok (.getfield 12, 3) := dec_of (decode cX0_servedOtherwise) da_27 13 rfl
theorem dX0_servedOtherwise_140 : decode cX0_servedOtherwise 140 = .ok (.getfield 57, 3) := dec_of (decode cX0_servedOtherwise) da_27 14 rfl
theorem dX0_servedOtherwise_143 : decode cX0_servedOtherwise 143 = .ok (.aload_n 1, 1) := dec_of (decode cX0_servedOtherwise) da_27 15 rfl
theorem dX0_servedOtherwise_144 : decode cX0_servedOtherwise 144 = .ok (.getfield 45, 3) := dec_of (decode cX0_servedOtherwise) da_27 16 rfl
theorem dX0_servedOtherwise_147 : decode cX0_servedOtherwise 147 = .ok (.invokestatic 148, 3) := dec_of (decode cX0_servedOtherwise) da_27 17 rfl
theorem dX0_servedOtherwise_150 : decode cX0_servedOtherwise 150 = .ok (.aload_n 0, 1) := dec_of (decode cX0_servedOtherwise) da_27 18 rfl
theorem dX0_servedOtherwise_151 : decode cX0_servedOtherwise 151 = .ok (.getfield 12, 3) := dec_of (decode cX0_servedOtherwise) da_27 19 rfl
theorem dX0_servedOtherwise_154 : decode cX0_servedOtherwise 154 = .ok (.aload_n 1, 1) := dec_of (decode cX0_servedOtherwise) da_27 20 rfl
theorem dX0_servedOtherwise_155 : decode cX0_servedOtherwise 155 = .ok (.getfield 45, 3) := dec_of (decode cX0_servedOtherwise) da_27 21 rfl
theorem dX0_servedOtherwise_158 : decode cX0_servedOtherwise 158 = .ok (.iload 4, 2) := dec_of (decode cX0_servedOtherwise) da_27 22 rfl
theorem dX0_servedOtherwise_160 : decode cX0_servedOtherwise 160 = .ok (.iadd, 1) := dec_of (decode cX0_servedOtherwise) da_27 23 rfl
theorem dX0_servedOtherwise_161 : decode cX0_servedOtherwise 161 = .ok (.invokevirtual 60, 3) := dec_of (decode cX0_servedOtherwise) da_27 24 rfl
theorem dX0_servedOtherwise_164 : decode cX0_servedOtherwise 164 = .ok (.aload_n 0, 1) := dec_of (decode cX0_servedOtherwise) da_27 25 rfl
theorem dX0_servedOtherwise_165 : decode cX0_servedOtherwise 165 = .ok (.getfield 12, 3) := dec_of (decode cX0_servedOtherwise) da_27 26 rfl
theorem dX0_servedOtherwise_168 : decode cX0_servedOtherwise 168 = .ok (.iconst 2, 1) := dec_of (decode cX0_servedOtherwise) da_27 27 rfl
theorem dX0_servedOtherwise_169 : decode cX0_servedOtherwise 169 = .ok (.invokevirtual 157, 3) := dec_of (decode cX0_servedOtherwise) da_27 28 rfl
theorem dX0_servedOtherwise_172 : decode cX0_servedOtherwise 172 = .ok (.ireturn, 1) := dec_of (decode cX0_servedOtherwise) da_27 29 rfl
abbrev dl_28 : List (Nat × Except DecodeError (Instr × Nat)) := [(0, .ok (.aload_n 0, 1)), (1, .ok (.invokespecial 5, 3)), (4, .ok (.aload_n 0, 1)), (5, .ok (.bipush 64, 2)), (7, .ok (.newarray .int, 2)), (9, .ok (.putfield 11, 3)), (12, .ok (.aload_n 0, 1)), (13, .ok (.bipush 64, 2)), (15, .ok (.newarray .long, 2)), (17, .ok (.putfield 17, 3)), (20, .ok (.aload_n 0, 1)), (21, .ok (.bipush 6, 2)), (23, .ok (.newarray .long, 2)), (25, .ok (.putfield 21, 3)), (28, .ok (.aload_n 0, 1)), (29, .ok (.iconst 0, 1)), (30, .ok (.putfield 24, 3)), (33, .ok (.return_, 1))]
theorem da_28 : dl_28.all (fun q => decide (decode cX1_init q.1 = q.2)) = true := by decide +kernel
theorem dX1_init_0 : decode cX1_init 0 = .ok (.aload_n 0, 1) := dec_of (decode cX1_init) da_28 0 rfl
theorem dX1_init_1 : decode cX1_init 1 = .ok (.invokespecial 5, 3) := dec_of (decode cX1_init) da_28 1 rfl
theorem dX1_init_4 : decode cX1_init 4 = .ok (.aload_n 0, 1) := dec_of (decode cX1_init) da_28 2 rfl
theorem dX1_init_5 : decode cX1_init 5 = .ok (.bipush 64, 2) := dec_of (decode cX1_init) da_28 3 rfl
theorem dX1_init_7 : decode cX1_init 7 = .ok (.newarray .int, 2) := dec_of (decode cX1_init) da_28 4 rfl
theorem dX1_init_9 : decode cX1_init 9 = .ok (.putfield 11, 3) := dec_of (decode cX1_init) da_28 5 rfl
theorem dX1_init_12 : decode cX1_init 12 = .ok (.aload_n 0, 1) := dec_of (decode cX1_init) da_28 6 rfl
theorem dX1_init_13 : decode cX1_init 13 = .ok (.bipush 64, 2) := dec_of (decode cX1_init) da_28 7 rfl
theorem dX1_init_15 : decode cX1_init 15 = .ok (.newarray .long, 2) := dec_of (decode cX1_init) da_28 8 rfl
theorem dX1_init_17 : decode cX1_init 17 = .ok (.putfield 17, 3) := dec_of (decode cX1_init) da_28 9 rfl
theorem dX1_init_20 : decode cX1_init 20 = .ok (.aload_n 0, 1) := dec_of (decode cX1_init) da_28 10 rfl
theorem dX1_init_21 : decode cX1_init 21 = .ok (.bipush 6, 2) := dec_of (decode cX1_init) da_28 11 rfl
theorem dX1_init_23 : decode cX1_init 23 = .ok (.newarray .long, 2) := dec_of (decode cX1_init) da_28 12 rfl
theorem dX1_init_25 : decode cX1_init 25 = .ok (.putfield 21, 3) := dec_of (decode cX1_init) da_28 13 rfl
theorem dX1_init_28 : decode cX1_init 28 = .ok (.aload_n 0, 1) := dec_of (decode cX1_init) da_28 14 rfl
theorem dX1_init_29 : decode cX1_init 29 = .ok (.iconst 0, 1) := dec_of (decode cX1_init) da_28 15 rfl
theorem dX1_init_30 : decode cX1_init 30 = .ok (.putfield 24, 3) := dec_of (decode cX1_init) da_28 16 rfl
theorem dX1_init_33 : decode cX1_init 33 = .ok (.return_, 1) := dec_of (decode cX1_init) da_28 17 rfl
abbrev dl_29 : List (Nat × Except DecodeError (Instr × Nat)) := [(0, .ok (.aload_n 0, 1)), (1, .ok (.getfield 24, 3)), (4, .ok (.bipush 64, 2)), (6, .ok (.if_icmp .ge 23, 3)), (9, .ok (.aload_n 0, 1)), (10, .ok (.getfield 11, 3)), (13, .ok (.aload_n 0, 1)), (14, .ok (.getfield 24, 3)), (17, .ok (.iload_n 1, 1)), (18, .ok (.iastore, 1)), (19, .ok (.aload_n 0, 1)), (20, .ok (.dup, 1)), (21, .ok (.getfield 24, 3)), (24, .ok (.iconst 1, 1)), (25, .ok (.iadd, 1)), (26, .ok (.putfield 24, 3)), (29, .ok (.return_, 1))]
theorem da_29 : dl_29.all (fun q => decide (decode cX1_add q.1 = q.2)) = true := by decide +kernel
theorem dX1_add_0 : decode cX1_add 0 = .ok (.aload_n 0, 1) := dec_of (decode cX1_add) da_29 0 rfl
theorem dX1_add_1 : decode cX1_add 1 = .ok (.getfield 24, 3) := dec_of (decode cX1_add) da_29 1 rfl
theorem dX1_add_4 : decode cX1_add 4 = .ok (.bipush 64, 2) := dec_of (decode cX1_add) da_29 2 rfl
theorem dX1_add_6 : decode cX1_add 6 = .ok (.if_icmp .ge 23, 3) := dec_of (decode cX1_add) da_29 3 rfl
theorem dX1_add_9 : decode cX1_add 9 = .ok (.aload_n 0, 1) := dec_of (decode cX1_add) da_29 4 rfl
theorem dX1_add_10 : decode cX1_add 10 = .ok (.getfield 11, 3) := dec_of (decode cX1_add) da_29 5 rfl
theorem dX1_add_13 : decode cX1_add 13 = .ok (.aload_n 0, 1) := dec_of (decode cX1_add) da_29 6 rfl
theorem dX1_add_14 : decode cX1_add 14 = .ok (.getfield 24, 3) := dec_of (decode cX1_add) da_29 7 rfl
theorem dX1_add_17 : decode cX1_add 17 = .ok (.iload_n 1, 1) := dec_of (decode cX1_add) da_29 8 rfl
theorem dX1_add_18 : decode cX1_add 18 = .ok (.iastore, 1) := dec_of (decode cX1_add) da_29 9 rfl
theorem dX1_add_19 : decode cX1_add 19 = .ok (.aload_n 0, 1) := dec_of (decode cX1_add) da_29 10 rfl
theorem dX1_add_20 : decode cX1_add 20 = .ok (.dup, 1) := dec_of (decode cX1_add) da_29 11 rfl
theorem dX1_add_21 : decode cX1_add 21 = .ok (.getfield 24, 3) := dec_of (decode cX1_add) da_29 12 rfl
theorem dX1_add_24 : decode cX1_add 24 = .ok (.iconst 1, 1) := dec_of (decode cX1_add) da_29 13 rfl
theorem dX1_add_25 : decode cX1_add 25 = .ok (.iadd, 1) := dec_of (decode cX1_add) da_29 14 rfl
theorem dX1_add_26 : decode cX1_add 26 = .ok (.putfield 24, 3) := dec_of (decode cX1_add) da_29 15 rfl
theorem dX1_add_29 : decode cX1_add 29 = .ok (.return_, 1) := dec_of (decode cX1_add) da_29 16 rfl
abbrev dl_30 : List (Nat × Except DecodeError (Instr × Nat)) := [(0, .ok (.aload_n 1, 1)), (1, .ok (.iload_n 2, 1)), (2, .ok (.invokevirtual 28, 3)), (5, .ok (.istore 4, 2)), (7, .ok (.iload 4, 2)), (9, .ok (.ifCond .lt 10, 3)), (12, .ok (.aload_n 0, 1)), (13, .ok (.getfield 24, 3)), (16, .ok (.ifCond .ne 7, 3)), (19, .ok (.ldc2_w 34, 3)), (22, .ok (.lreturn, 1)), (23, .ok (.aload_n 0, 1)), (24, .ok (.getfield 21, 3)), (27, .ok (.iconst 0, 1)), (28, .ok (.aload_n 1, 1)), (29, .ok (.getfield 36, 3)), (32, .ok (.getfield 40, 3)), (35, .ok (.iload 4, 2)), (37, .ok (.aaload, 1)), (38, .ok (.getfield 46, 3)), (41, .ok (.i2l, 1)), (42, .ok (.lastore, 1)), (43, .ok (.aload_n 0, 1)), (44, .ok (.getfield 21, 3)), (47, .ok (.iconst 1, 1)), (48, .ok (.aload_n 1, 1)), (49, .ok (.getfield 36, 3)), (52, .ok (.getfield 40, 3)), (55, .ok (.iload 4, 2)), (57, .ok (.aaload, 1)), (58, .ok (.getfield 51, 3)), (61, .ok (.i2l, 1)), (62, .ok (.lastore, 1)), (63, .ok (.aload_n 0, 1)), (64, .ok (.getfield 21, 3)), (67, .ok (.iconst 2, 1)), (68, .ok (.aload_n 1, 1)), (69, .ok (.getfield 36, 3)), (72, .ok (.getfield 40, 3)), (75, .ok (.iload 4, 2))]
theorem da_30 : dl_30.all (fun q => decide (decode cX1_value q.1 = q.2)) = true := by decide +kernel
theorem dX1_value_0 : decode cX1_value 0 = .ok (.aload_n 1, 1) := dec_of (decode cX1_value) da_30 0 rfl
theorem dX1_value_1 : decode cX1_value 1 = .ok (.iload_n 2, 1) := dec_of (decode cX1_value) da_30 1 rfl
theorem dX1_value_2 : decode cX1_value 2 = .ok (.invokevirtual 28, 3) := dec_of (decode cX1_value) da_30 2 rfl
theorem dX1_value_5 : decode cX1_value 5 = .ok (.istore 4, 2) := dec_of (decode cX1_value) da_30 3 rfl
theorem dX1_value_7 : decode cX1_value 7 = .ok (.iload 4, 2) := dec_of (decode cX1_value) da_30 4 rfl
theorem dX1_value_9 : decode cX1_value 9 = .ok (.ifCond .lt 10, 3) := dec_of (decode cX1_value) da_30 5 rfl
theorem dX1_value_12 : decode cX1_value 12 = .ok (.aload_n 0, 1) := dec_of (decode cX1_value) da_30 6 rfl
theorem dX1_value_13 : decode cX1_value 13 = .ok (.getfield 24, 3) := dec_of (decode cX1_value) da_30 7 rfl
theorem dX1_value_16 : decode cX1_value 16 = .ok (.ifCond .ne 7, 3) := dec_of (decode cX1_value) da_30 8 rfl
theorem dX1_value_19 : decode cX1_value 19 = .ok (.ldc2_w 34, 3) := dec_of (decode cX1_value) da_30 9 rfl
theorem dX1_value_22 : decode cX1_value 22 = .ok (.lreturn, 1) := dec_of (decode cX1_value) da_30 10 rfl
theorem dX1_value_23 : decode cX1_value 23 = .ok (.aload_n 0, 1) := dec_of (decode cX1_value) da_30 11 rfl
theorem dX1_value_24 : decode cX1_value 24 = .ok (.getfield 21, 3) := dec_of (decode cX1_value) da_30 12 rfl
theorem dX1_value_27 : decode cX1_value 27 = .ok (.iconst 0, 1) := dec_of (decode cX1_value) da_30 13 rfl
theorem dX1_value_28 : decode cX1_value 28 = .ok (.aload_n 1, 1) := dec_of (decode cX1_value) da_30 14 rfl
theorem dX1_value_29 : decode cX1_value 29 = .ok (.getfield 36, 3) := dec_of (decode cX1_value) da_30 15 rfl
theorem dX1_value_32 : decode cX1_value 32 = .ok (.getfield 40, 3) := dec_of (decode cX1_value) da_30 16 rfl
theorem dX1_value_35 : decode cX1_value 35 = .ok (.iload 4, 2) := dec_of (decode cX1_value) da_30 17 rfl
theorem dX1_value_37 : decode cX1_value 37 = .ok (.aaload, 1) := dec_of (decode cX1_value) da_30 18 rfl
theorem dX1_value_38 : decode cX1_value 38 = .ok (.getfield 46, 3) := dec_of (decode cX1_value) da_30 19 rfl
theorem dX1_value_41 : decode cX1_value 41 = .ok (.i2l, 1) := dec_of (decode cX1_value) da_30 20 rfl
theorem dX1_value_42 : decode cX1_value 42 = .ok (.lastore, 1) := dec_of (decode cX1_value) da_30 21 rfl
theorem dX1_value_43 : decode cX1_value 43 = .ok (.aload_n 0, 1) := dec_of (decode cX1_value) da_30 22 rfl
theorem dX1_value_44 : decode cX1_value 44 = .ok (.getfield 21, 3) := dec_of (decode cX1_value) da_30 23 rfl
theorem dX1_value_47 : decode cX1_value 47 = .ok (.iconst 1, 1) := dec_of (decode cX1_value) da_30 24 rfl
theorem dX1_value_48 : decode cX1_value 48 = .ok (.aload_n 1, 1) := dec_of (decode cX1_value) da_30 25 rfl
theorem dX1_value_49 : decode cX1_value 49 = .ok (.getfield 36, 3) := dec_of (decode cX1_value) da_30 26 rfl
theorem dX1_value_52 : decode cX1_value 52 = .ok (.getfield 40, 3) := dec_of (decode cX1_value) da_30 27 rfl
theorem dX1_value_55 : decode cX1_value 55 = .ok (.iload 4, 2) := dec_of (decode cX1_value) da_30 28 rfl
theorem dX1_value_57 : decode cX1_value 57 = .ok (.aaload, 1) := dec_of (decode cX1_value) da_30 29 rfl
theorem dX1_value_58 : decode cX1_value 58 = .ok (.getfield 51, 3) := dec_of (decode cX1_value) da_30 30 rfl
theorem dX1_value_61 : decode cX1_value 61 = .ok (.i2l, 1) := dec_of (decode cX1_value) da_30 31 rfl
theorem dX1_value_62 : decode cX1_value 62 = .ok (.lastore, 1) := dec_of (decode cX1_value) da_30 32 rfl
theorem dX1_value_63 : decode cX1_value 63 = .ok (.aload_n 0, 1) := dec_of (decode cX1_value) da_30 33 rfl
theorem dX1_value_64 : decode cX1_value 64 = .ok (.getfield 21, 3) := dec_of (decode cX1_value) da_30 34 rfl
theorem dX1_value_67 : decode cX1_value 67 = .ok (.iconst 2, 1) := dec_of (decode cX1_value) da_30 35 rfl
theorem dX1_value_68 : decode cX1_value 68 = .ok (.aload_n 1, 1) := dec_of (decode cX1_value) da_30 36 rfl
theorem dX1_value_69 : decode cX1_value 69 = .ok (.getfield 36, 3) := dec_of (decode cX1_value) da_30 37 rfl
theorem dX1_value_72 : decode cX1_value 72 = .ok (.getfield 40, 3) := dec_of (decode cX1_value) da_30 38 rfl
theorem dX1_value_75 : decode cX1_value 75 = .ok (.iload 4, 2) := dec_of (decode cX1_value) da_30 39 rfl
abbrev dl_31 : List (Nat × Except DecodeError (Instr × Nat)) := [(77, .ok (.aaload, 1)), (78, .ok (.getfield 54, 3)), (81, .ok (.i2l, 1)), (82, .ok (.lastore, 1)), (83, .ok (.aload_n 0, 1)), (84, .ok (.getfield 21, 3)), (87, .ok (.iconst 3, 1)), (88, .ok (.aload_n 1, 1)), (89, .ok (.getfield 57, 3)), (92, .ok (.iload 4, 2)), (94, .ok (.iaload, 1)), (95, .ok (.i2l, 1)), (96, .ok (.lastore, 1)), (97, .ok (.aload_n 0, 1)), (98, .ok (.getfield 21, 3)), (101, .ok (.iconst 4, 1)), (102, .ok (.iload_n 3, 1)), (103, .ok (.i2l, 1)), (104, .ok (.lastore, 1)), (105, .ok (.aload_n 0, 1)), (106, .ok (.getfield 21, 3)), (109, .ok (.iconst 5, 1)), (110, .ok (.aload_n 1, 1)), (111, .ok (.iload 4, 2)), (113, .ok (.invokevirtual 60, 3)), (116, .ok (.i2l, 1)), (117, .ok (.lastore, 1)), (118, .ok (.iconst 0, 1)), (119, .ok (.istore 5, 2)), (121, .ok (.iconst 0, 1)), (122, .ok (.istore 6, 2)), (124, .ok (.iload 6, 2)), (126, .ok (.aload_n 0, 1)), (127, .ok (.getfield 24, 3)), (130, .ok (.if_icmp .ge 169, 3)), (133, .ok (.aload_n 0, 1)), (134, .ok (.getfield 11, 3)), (137, .ok (.iload 6, 2)), (139, .ok (.iaload, 1)), (140, .ok (.istore 7, 2))]
theorem da_31 : dl_31.all (fun q => decide (decode cX1_value q.1 = q.2)) = true := by decide +kernel
theorem dX1_value_77 : decode cX1_value 77 = .ok (.aaload, 1) := dec_of (decode cX1_value) da_31 0 rfl
theorem dX1_value_78 : decode cX1_value 78 = .ok (.getfield 54, 3) := dec_of (decode cX1_value) da_31 1 rfl
theorem dX1_value_81 : decode cX1_value 81 = .ok (.i2l, 1) := dec_of (decode cX1_value) da_31 2 rfl
theorem dX1_value_82 : decode cX1_value 82 = .ok (.lastore, 1) := dec_of (decode cX1_value) da_31 3 rfl
theorem dX1_value_83 : decode cX1_value 83 = .ok (.aload_n 0, 1) := dec_of (decode cX1_value) da_31 4 rfl
theorem dX1_value_84 : decode cX1_value 84 = .ok (.getfield 21, 3) := dec_of (decode cX1_value) da_31 5 rfl
theorem dX1_value_87 : decode cX1_value 87 = .ok (.iconst 3, 1) := dec_of (decode cX1_value) da_31 6 rfl
theorem dX1_value_88 : decode cX1_value 88 = .ok (.aload_n 1, 1) := dec_of (decode cX1_value) da_31 7 rfl
theorem dX1_value_89 : decode cX1_value 89 = .ok (.getfield 57, 3) := dec_of (decode cX1_value) da_31 8 rfl
theorem dX1_value_92 : decode cX1_value 92 = .ok (.iload 4, 2) := dec_of (decode cX1_value) da_31 9 rfl
theorem dX1_value_94 : decode cX1_value 94 = .ok (.iaload, 1) := dec_of (decode cX1_value) da_31 10 rfl
theorem dX1_value_95 : decode cX1_value 95 = .ok (.i2l, 1) := dec_of (decode cX1_value) da_31 11 rfl
theorem dX1_value_96 : decode cX1_value 96 = .ok (.lastore, 1) := dec_of (decode cX1_value) da_31 12 rfl
theorem dX1_value_97 : decode cX1_value 97 = .ok (.aload_n 0, 1) := dec_of (decode cX1_value) da_31 13 rfl
theorem dX1_value_98 : decode cX1_value 98 = .ok (.getfield 21, 3) := dec_of (decode cX1_value) da_31 14 rfl
theorem dX1_value_101 : decode cX1_value 101 = .ok (.iconst 4, 1) := dec_of (decode cX1_value) da_31 15 rfl
theorem dX1_value_102 : decode cX1_value 102 = .ok (.iload_n 3, 1) := dec_of (decode cX1_value) da_31 16 rfl
theorem dX1_value_103 : decode cX1_value 103 = .ok (.i2l, 1) := dec_of (decode cX1_value) da_31 17 rfl
theorem dX1_value_104 : decode cX1_value 104 = .ok (.lastore, 1) := dec_of (decode cX1_value) da_31 18 rfl
theorem dX1_value_105 : decode cX1_value 105 = .ok (.aload_n 0, 1) := dec_of (decode cX1_value) da_31 19 rfl
theorem dX1_value_106 : decode cX1_value 106 = .ok (.getfield 21, 3) := dec_of (decode cX1_value) da_31 20 rfl
theorem dX1_value_109 : decode cX1_value 109 = .ok (.iconst 5, 1) := dec_of (decode cX1_value) da_31 21 rfl
theorem dX1_value_110 : decode cX1_value 110 = .ok (.aload_n 1, 1) := dec_of (decode cX1_value) da_31 22 rfl
theorem dX1_value_111 : decode cX1_value 111 = .ok (.iload 4, 2) := dec_of (decode cX1_value) da_31 23 rfl
theorem dX1_value_113 : decode cX1_value 113 = .ok (.invokevirtual 60, 3) := dec_of (decode cX1_value) da_31 24 rfl
theorem dX1_value_116 : decode cX1_value 116 = .ok (.i2l, 1) := dec_of (decode cX1_value) da_31 25 rfl
theorem dX1_value_117 : decode cX1_value 117 = .ok (.lastore, 1) := dec_of (decode cX1_value) da_31 26 rfl
theorem dX1_value_118 : decode cX1_value 118 = .ok (.iconst 0, 1) := dec_of (decode cX1_value) da_31 27 rfl
theorem dX1_value_119 : decode cX1_value 119 = .ok (.istore 5, 2) := dec_of (decode cX1_value) da_31 28 rfl
theorem dX1_value_121 : decode cX1_value 121 = .ok (.iconst 0, 1) := dec_of (decode cX1_value) da_31 29 rfl
theorem dX1_value_122 : decode cX1_value 122 = .ok (.istore 6, 2) := dec_of (decode cX1_value) da_31 30 rfl
theorem dX1_value_124 : decode cX1_value 124 = .ok (.iload 6, 2) := dec_of (decode cX1_value) da_31 31 rfl
theorem dX1_value_126 : decode cX1_value 126 = .ok (.aload_n 0, 1) := dec_of (decode cX1_value) da_31 32 rfl
theorem dX1_value_127 : decode cX1_value 127 = .ok (.getfield 24, 3) := dec_of (decode cX1_value) da_31 33 rfl
theorem dX1_value_130 : decode cX1_value 130 = .ok (.if_icmp .ge 169, 3) := dec_of (decode cX1_value) da_31 34 rfl
theorem dX1_value_133 : decode cX1_value 133 = .ok (.aload_n 0, 1) := dec_of (decode cX1_value) da_31 35 rfl
theorem dX1_value_134 : decode cX1_value 134 = .ok (.getfield 11, 3) := dec_of (decode cX1_value) da_31 36 rfl
theorem dX1_value_137 : decode cX1_value 137 = .ok (.iload 6, 2) := dec_of (decode cX1_value) da_31 37 rfl
theorem dX1_value_139 : decode cX1_value 139 = .ok (.iaload, 1) := dec_of (decode cX1_value) da_31 38 rfl
theorem dX1_value_140 : decode cX1_value 140 = .ok (.istore 7, 2) := dec_of (decode cX1_value) da_31 39 rfl
abbrev dl_32 : List (Nat × Except DecodeError (Instr × Nat)) := [(142, .ok (.iload 7, 2)), (144, .ok (.bipush (-21), 2)), (146, .ok (.if_icmp .lt 38, 3)), (149, .ok (.aload_n 0, 1)), (150, .ok (.getfield 17, 3)), (153, .ok (.iload 5, 2)), (155, .ok (.iload 7, 2)), (157, .ok (.ifCond .lt 9, 3)), (160, .ok (.iload 7, 2)), (162, .ok (.i2l, 1)), (163, .ok (.goto 14, 3)), (166, .ok (.aload_n 0, 1)), (167, .ok (.getfield 21, 3)), (170, .ok (.iload 7, 2)), (172, .ok (.ineg, 1)), (173, .ok (.bipush 16, 2)), (175, .ok (.isub, 1)), (176, .ok (.laload, 1)), (177, .ok (.lastore, 1)), (178, .ok (.iinc 5 1, 3)), (181, .ok (.goto 112, 3)), (184, .ok (.iload 7, 2)), (186, .ok (.bipush (-24), 2)), (188, .ok (.if_icmp .ne 39, 3)), (191, .ok (.iload 5, 2)), (193, .ok (.ifCond .le 34, 3)), (196, .ok (.aload_n 0, 1)), (197, .ok (.getfield 17, 3)), (200, .ok (.iload 5, 2)), (202, .ok (.iconst 1, 1)), (203, .ok (.isub, 1)), (204, .ok (.aload_n 0, 1)), (205, .ok (.getfield 17, 3)), (208, .ok (.iload 5, 2)), (210, .ok (.iconst 1, 1)), (211, .ok (.isub, 1)), (212, .ok (.laload, 1)), (213, .ok (.lconst 0, 1)), (214, .ok (.lcmp, 1)), (215, .ok (.ifCond .ne 7, 3))]
theorem da_32 : dl_32.all (fun q => decide (decode cX1_value q.1 = q.2)) = true := by decide +kernel
theorem dX1_value_142 : decode cX1_value 142 = .ok (.iload 7, 2) := dec_of (decode cX1_value) da_32 0 rfl
theorem dX1_value_144 : decode cX1_value 144 = .ok (.bipush (-21), 2) := dec_of (decode cX1_value) da_32 1 rfl
theorem dX1_value_146 : decode cX1_value 146 = .ok (.if_icmp .lt 38, 3) := dec_of (decode cX1_value) da_32 2 rfl
theorem dX1_value_149 : decode cX1_value 149 = .ok (.aload_n 0, 1) := dec_of (decode cX1_value) da_32 3 rfl
theorem dX1_value_150 : decode cX1_value 150 = .ok (.getfield 17, 3) := dec_of (decode cX1_value) da_32 4 rfl
theorem dX1_value_153 : decode cX1_value 153 = .ok (.iload 5, 2) := dec_of (decode cX1_value) da_32 5 rfl
theorem dX1_value_155 : decode cX1_value 155 = .ok (.iload 7, 2) := dec_of (decode cX1_value) da_32 6 rfl
theorem dX1_value_157 : decode cX1_value 157 = .ok (.ifCond .lt 9, 3) := dec_of (decode cX1_value) da_32 7 rfl
theorem dX1_value_160 : decode cX1_value 160 = .ok (.iload 7, 2) := dec_of (decode cX1_value) da_32 8 rfl
theorem dX1_value_162 : decode cX1_value 162 = .ok (.i2l, 1) := dec_of (decode cX1_value) da_32 9 rfl
theorem dX1_value_163 : decode cX1_value 163 = .ok (.goto 14, 3) := dec_of (decode cX1_value) da_32 10 rfl
theorem dX1_value_166 : decode cX1_value 166 = .ok (.aload_n 0, 1) := dec_of (decode cX1_value) da_32 11 rfl
theorem dX1_value_167 : decode cX1_value 167 = .ok (.getfield 21, 3) := dec_of (decode cX1_value) da_32 12 rfl
theorem dX1_value_170 : decode cX1_value 170 = .ok (.iload 7, 2) := dec_of (decode cX1_value) da_32 13 rfl
theorem dX1_value_172 : decode cX1_value 172 = .ok (.ineg, 1) := dec_of (decode cX1_value) da_32 14 rfl
theorem dX1_value_173 : decode cX1_value 173 = .ok (.bipush 16, 2) := dec_of (decode cX1_value) da_32 15 rfl
theorem dX1_value_175 : decode cX1_value 175 = .ok (.isub, 1) := dec_of (decode cX1_value) da_32 16 rfl
theorem dX1_value_176 : decode cX1_value 176 = .ok (.laload, 1) := dec_of (decode cX1_value) da_32 17 rfl
theorem dX1_value_177 : decode cX1_value 177 = .ok (.lastore, 1) := dec_of (decode cX1_value) da_32 18 rfl
theorem dX1_value_178 : decode cX1_value 178 = .ok (.iinc 5 1, 3) := dec_of (decode cX1_value) da_32 19 rfl
theorem dX1_value_181 : decode cX1_value 181 = .ok (.goto 112, 3) := dec_of (decode cX1_value) da_32 20 rfl
theorem dX1_value_184 : decode cX1_value 184 = .ok (.iload 7, 2) := dec_of (decode cX1_value) da_32 21 rfl
theorem dX1_value_186 : decode cX1_value 186 = .ok (.bipush (-24), 2) := dec_of (decode cX1_value) da_32 22 rfl
theorem dX1_value_188 : decode cX1_value 188 = .ok (.if_icmp .ne 39, 3) := dec_of (decode cX1_value) da_32 23 rfl
theorem dX1_value_191 : decode cX1_value 191 = .ok (.iload 5, 2) := dec_of (decode cX1_value) da_32 24 rfl
theorem dX1_value_193 : decode cX1_value 193 = .ok (.ifCond .le 34, 3) := dec_of (decode cX1_value) da_32 25 rfl
theorem dX1_value_196 : decode cX1_value 196 = .ok (.aload_n 0, 1) := dec_of (decode cX1_value) da_32 26 rfl
theorem dX1_value_197 : decode cX1_value 197 = .ok (.getfield 17, 3) := dec_of (decode cX1_value) da_32 27 rfl
theorem dX1_value_200 : decode cX1_value 200 = .ok (.iload 5, 2) := dec_of (decode cX1_value) da_32 28 rfl
theorem dX1_value_202 : decode cX1_value 202 = .ok (.iconst 1, 1) := dec_of (decode cX1_value) da_32 29 rfl
theorem dX1_value_203 : decode cX1_value 203 = .ok (.isub, 1) := dec_of (decode cX1_value) da_32 30 rfl
theorem dX1_value_204 : decode cX1_value 204 = .ok (.aload_n 0, 1) := dec_of (decode cX1_value) da_32 31 rfl
theorem dX1_value_205 : decode cX1_value 205 = .ok (.getfield 17, 3) := dec_of (decode cX1_value) da_32 32 rfl
theorem dX1_value_208 : decode cX1_value 208 = .ok (.iload 5, 2) := dec_of (decode cX1_value) da_32 33 rfl
theorem dX1_value_210 : decode cX1_value 210 = .ok (.iconst 1, 1) := dec_of (decode cX1_value) da_32 34 rfl
theorem dX1_value_211 : decode cX1_value 211 = .ok (.isub, 1) := dec_of (decode cX1_value) da_32 35 rfl
theorem dX1_value_212 : decode cX1_value 212 = .ok (.laload, 1) := dec_of (decode cX1_value) da_32 36 rfl
theorem dX1_value_213 : decode cX1_value 213 = .ok (.lconst 0, 1) := dec_of (decode cX1_value) da_32 37 rfl
theorem dX1_value_214 : decode cX1_value 214 = .ok (.lcmp, 1) := dec_of (decode cX1_value) da_32 38 rfl
theorem dX1_value_215 : decode cX1_value 215 = .ok (.ifCond .ne 7, 3) := dec_of (decode cX1_value) da_32 39 rfl
abbrev dl_33 : List (Nat × Except DecodeError (Instr × Nat)) := [(218, .ok (.lconst 1, 1)), (219, .ok (.goto 4, 3)), (222, .ok (.lconst 0, 1)), (223, .ok (.lastore, 1)), (224, .ok (.goto 69, 3)), (227, .ok (.iload 5, 2)), (229, .ok (.iconst 1, 1)), (230, .ok (.if_icmp .le 63, 3)), (233, .ok (.iinc 5 (-1), 3)), (236, .ok (.iload 7, 2)), (238, .ok (.ineg, 1)), (239, .ok (.aload_n 0, 1)), (240, .ok (.getfield 17, 3)), (243, .ok (.iload 5, 2)), (245, .ok (.iconst 1, 1)), (246, .ok (.isub, 1)), (247, .ok (.laload, 1)), (248, .ok (.aload_n 0, 1)), (249, .ok (.getfield 17, 3)), (252, .ok (.iload 5, 2)), (254, .ok (.laload, 1)), (255, .ok (.invokestatic 63, 3)), (258, .ok (.lstore 8, 2)), (260, .ok (.lload 8, 2)), (262, .ok (.ldc2_w 67, 3)), (265, .ok (.lcmp, 1)), (266, .ok (.ifCond .gt 12, 3)), (269, .ok (.lload 8, 2)), (271, .ok (.ldc2_w 69, 3)), (274, .ok (.lcmp, 1)), (275, .ok (.ifCond .ge 7, 3)), (278, .ok (.ldc2_w 34, 3)), (281, .ok (.lreturn, 1)), (282, .ok (.aload_n 0, 1)), (283, .ok (.getfield 17, 3)), (286, .ok (.iload 5, 2)), (288, .ok (.iconst 1, 1)), (289, .ok (.isub, 1)), (290, .ok (.lload 8, 2)), (292, .ok (.lastore, 1))]
theorem da_33 : dl_33.all (fun q => decide (decode cX1_value q.1 = q.2)) = true := by decide +kernel
theorem dX1_value_218 : decode cX1_value 218 = .ok (.lconst 1, 1) := dec_of (decode cX1_value) da_33 0 rfl
theorem dX1_value_219 : decode cX1_value 219 = .ok (.goto 4, 3) := dec_of (decode cX1_value) da_33 1 rfl
theorem dX1_value_222 : decode cX1_value 222 = .ok (.lconst 0, 1) := dec_of (decode cX1_value) da_33 2 rfl
theorem dX1_value_223 : decode cX1_value 223 = .ok (.lastore, 1) := dec_of (decode cX1_value) da_33 3 rfl
theorem dX1_value_224 : decode cX1_value 224 = .ok (.goto 69, 3) := dec_of (decode cX1_value) da_33 4 rfl
theorem dX1_value_227 : decode cX1_value 227 = .ok (.iload 5, 2) := dec_of (decode cX1_value) da_33 5 rfl
theorem dX1_value_229 : decode cX1_value 229 = .ok (.iconst 1, 1) := dec_of (decode cX1_value) da_33 6 rfl
theorem dX1_value_230 : decode cX1_value 230 = .ok (.if_icmp .le 63, 3) := dec_of (decode cX1_value) da_33 7 rfl
theorem dX1_value_233 : decode cX1_value 233 = .ok (.iinc 5 (-1), 3) := dec_of (decode cX1_value) da_33 8 rfl
theorem dX1_value_236 : decode cX1_value 236 = .ok (.iload 7, 2) := dec_of (decode cX1_value) da_33 9 rfl
theorem dX1_value_238 : decode cX1_value 238 = .ok (.ineg, 1) := dec_of (decode cX1_value) da_33 10 rfl
theorem dX1_value_239 : decode cX1_value 239 = .ok (.aload_n 0, 1) := dec_of (decode cX1_value) da_33 11 rfl
theorem dX1_value_240 : decode cX1_value 240 = .ok (.getfield 17, 3) := dec_of (decode cX1_value) da_33 12 rfl
theorem dX1_value_243 : decode cX1_value 243 = .ok (.iload 5, 2) := dec_of (decode cX1_value) da_33 13 rfl
theorem dX1_value_245 : decode cX1_value 245 = .ok (.iconst 1, 1) := dec_of (decode cX1_value) da_33 14 rfl
theorem dX1_value_246 : decode cX1_value 246 = .ok (.isub, 1) := dec_of (decode cX1_value) da_33 15 rfl
theorem dX1_value_247 : decode cX1_value 247 = .ok (.laload, 1) := dec_of (decode cX1_value) da_33 16 rfl
theorem dX1_value_248 : decode cX1_value 248 = .ok (.aload_n 0, 1) := dec_of (decode cX1_value) da_33 17 rfl
theorem dX1_value_249 : decode cX1_value 249 = .ok (.getfield 17, 3) := dec_of (decode cX1_value) da_33 18 rfl
theorem dX1_value_252 : decode cX1_value 252 = .ok (.iload 5, 2) := dec_of (decode cX1_value) da_33 19 rfl
theorem dX1_value_254 : decode cX1_value 254 = .ok (.laload, 1) := dec_of (decode cX1_value) da_33 20 rfl
theorem dX1_value_255 : decode cX1_value 255 = .ok (.invokestatic 63, 3) := dec_of (decode cX1_value) da_33 21 rfl
theorem dX1_value_258 : decode cX1_value 258 = .ok (.lstore 8, 2) := dec_of (decode cX1_value) da_33 22 rfl
theorem dX1_value_260 : decode cX1_value 260 = .ok (.lload 8, 2) := dec_of (decode cX1_value) da_33 23 rfl
theorem dX1_value_262 : decode cX1_value 262 = .ok (.ldc2_w 67, 3) := dec_of (decode cX1_value) da_33 24 rfl
theorem dX1_value_265 : decode cX1_value 265 = .ok (.lcmp, 1) := dec_of (decode cX1_value) da_33 25 rfl
theorem dX1_value_266 : decode cX1_value 266 = .ok (.ifCond .gt 12, 3) := dec_of (decode cX1_value) da_33 26 rfl
theorem dX1_value_269 : decode cX1_value 269 = .ok (.lload 8, 2) := dec_of (decode cX1_value) da_33 27 rfl
theorem dX1_value_271 : decode cX1_value 271 = .ok (.ldc2_w 69, 3) := dec_of (decode cX1_value) da_33 28 rfl
theorem dX1_value_274 : decode cX1_value 274 = .ok (.lcmp, 1) := dec_of (decode cX1_value) da_33 29 rfl
theorem dX1_value_275 : decode cX1_value 275 = .ok (.ifCond .ge 7, 3) := dec_of (decode cX1_value) da_33 30 rfl
theorem dX1_value_278 : decode cX1_value 278 = .ok (.ldc2_w 34, 3) := dec_of (decode cX1_value) da_33 31 rfl
theorem dX1_value_281 : decode cX1_value 281 = .ok (.lreturn, 1) := dec_of (decode cX1_value) da_33 32 rfl
theorem dX1_value_282 : decode cX1_value 282 = .ok (.aload_n 0, 1) := dec_of (decode cX1_value) da_33 33 rfl
theorem dX1_value_283 : decode cX1_value 283 = .ok (.getfield 17, 3) := dec_of (decode cX1_value) da_33 34 rfl
theorem dX1_value_286 : decode cX1_value 286 = .ok (.iload 5, 2) := dec_of (decode cX1_value) da_33 35 rfl
theorem dX1_value_288 : decode cX1_value 288 = .ok (.iconst 1, 1) := dec_of (decode cX1_value) da_33 36 rfl
theorem dX1_value_289 : decode cX1_value 289 = .ok (.isub, 1) := dec_of (decode cX1_value) da_33 37 rfl
theorem dX1_value_290 : decode cX1_value 290 = .ok (.lload 8, 2) := dec_of (decode cX1_value) da_33 38 rfl
theorem dX1_value_292 : decode cX1_value 292 = .ok (.lastore, 1) := dec_of (decode cX1_value) da_33 39 rfl
abbrev dl_34 : List (Nat × Except DecodeError (Instr × Nat)) := [(293, .ok (.iinc 6 1, 3)), (296, .ok (.goto (-172), 3)), (299, .ok (.iload 5, 2)), (301, .ok (.iconst 1, 1)), (302, .ok (.if_icmp .ne 12, 3)), (305, .ok (.aload_n 0, 1)), (306, .ok (.getfield 17, 3)), (309, .ok (.iconst 0, 1)), (310, .ok (.laload, 1)), (311, .ok (.goto 6, 3)), (314, .ok (.ldc2_w 34, 3)), (317, .ok (.lreturn, 1))]
theorem da_34 : dl_34.all (fun q => decide (decode cX1_value q.1 = q.2)) = true := by decide +kernel
theorem dX1_value_293 : decode cX1_value 293 = .ok (.iinc 6 1, 3) := dec_of (decode cX1_value) da_34 0 rfl
theorem dX1_value_296 : decode cX1_value 296 = .ok (.goto (-172), 3) := dec_of (decode cX1_value) da_34 1 rfl
theorem dX1_value_299 : decode cX1_value 299 = .ok (.iload 5, 2) := dec_of (decode cX1_value) da_34 2 rfl
theorem dX1_value_301 : decode cX1_value 301 = .ok (.iconst 1, 1) := dec_of (decode cX1_value) da_34 3 rfl
theorem dX1_value_302 : decode cX1_value 302 = .ok (.if_icmp .ne 12, 3) := dec_of (decode cX1_value) da_34 4 rfl
theorem dX1_value_305 : decode cX1_value 305 = .ok (.aload_n 0, 1) := dec_of (decode cX1_value) da_34 5 rfl
theorem dX1_value_306 : decode cX1_value 306 = .ok (.getfield 17, 3) := dec_of (decode cX1_value) da_34 6 rfl
theorem dX1_value_309 : decode cX1_value 309 = .ok (.iconst 0, 1) := dec_of (decode cX1_value) da_34 7 rfl
theorem dX1_value_310 : decode cX1_value 310 = .ok (.laload, 1) := dec_of (decode cX1_value) da_34 8 rfl
theorem dX1_value_311 : decode cX1_value 311 = .ok (.goto 6, 3) := dec_of (decode cX1_value) da_34 9 rfl
theorem dX1_value_314 : decode cX1_value 314 = .ok (.ldc2_w 34, 3) := dec_of (decode cX1_value) da_34 10 rfl
theorem dX1_value_317 : decode cX1_value 317 = .ok (.lreturn, 1) := dec_of (decode cX1_value) da_34 11 rfl
abbrev dl_35 : List (Nat × Except DecodeError (Instr × Nat)) := [(0, .ok (.iload_n 0, 1)), (1, .ok (.tableswitch 282 22 41 #[246, 264, 282, 282, 282, 282, 282, 282, 282, 282, 174, 186, 198, 210, 222, 234, 95, 99, 103, 158], 95)), (96, .ok (.lload_n 1, 1)), (97, .ok (.lload_n 3, 1)), (98, .ok (.ladd, 1)), (99, .ok (.lreturn, 1)), (100, .ok (.lload_n 1, 1)), (101, .ok (.lload_n 3, 1)), (102, .ok (.lsub, 1)), (103, .ok (.lreturn, 1)), (104, .ok (.lload_n 1, 1)), (105, .ok (.lconst 0, 1)), (106, .ok (.lcmp, 1)), (107, .ok (.ifCond .ne 9, 3)), (110, .ok (.ldc2_w 67, 3)), (113, .ok (.goto 19, 3)), (116, .ok (.ldc2_w 67, 3)), (119, .ok (.lload_n 1, 1)), (120, .ok (.lconst 0, 1)), (121, .ok (.lcmp, 1)), (122, .ok (.ifCond .ge 8, 3)), (125, .ok (.lload_n 1, 1)), (126, .ok (.lneg, 1)), (127, .ok (.goto 4, 3)), (130, .ok (.lload_n 1, 1)), (131, .ok (.ldiv, 1)), (132, .ok (.lstore 5, 2)), (134, .ok (.lload_n 3, 1)), (135, .ok (.lload 5, 2)), (137, .ok (.lcmp, 1)), (138, .ok (.ifCond .gt 11, 3)), (141, .ok (.lload_n 3, 1)), (142, .ok (.lload 5, 2)), (144, .ok (.lneg, 1)), (145, .ok (.lcmp, 1)), (146, .ok (.ifCond .ge 9, 3)), (149, .ok (.ldc2_w 34, 3)), (152, .ok (.goto 6, 3)), (155, .ok (.lload_n 1, 1)), (156, .ok (.lload_n 3, 1))]
theorem da_35 : dl_35.all (fun q => decide (decode cX1_work q.1 = q.2)) = true := by decide +kernel
theorem dX1_work_0 : decode cX1_work 0 = .ok (.iload_n 0, 1) := dec_of (decode cX1_work) da_35 0 rfl
theorem dX1_work_1 : decode cX1_work 1 = .ok (.tableswitch 282 22 41 #[246, 264, 282, 282, 282, 282, 282, 282, 282, 282, 174, 186, 198, 210, 222, 234, 95, 99, 103, 158], 95) := dec_of (decode cX1_work) da_35 1 rfl
theorem dX1_work_96 : decode cX1_work 96 = .ok (.lload_n 1, 1) := dec_of (decode cX1_work) da_35 2 rfl
theorem dX1_work_97 : decode cX1_work 97 = .ok (.lload_n 3, 1) := dec_of (decode cX1_work) da_35 3 rfl
theorem dX1_work_98 : decode cX1_work 98 = .ok (.ladd, 1) := dec_of (decode cX1_work) da_35 4 rfl
theorem dX1_work_99 : decode cX1_work 99 = .ok (.lreturn, 1) := dec_of (decode cX1_work) da_35 5 rfl
theorem dX1_work_100 : decode cX1_work 100 = .ok (.lload_n 1, 1) := dec_of (decode cX1_work) da_35 6 rfl
theorem dX1_work_101 : decode cX1_work 101 = .ok (.lload_n 3, 1) := dec_of (decode cX1_work) da_35 7 rfl
theorem dX1_work_102 : decode cX1_work 102 = .ok (.lsub, 1) := dec_of (decode cX1_work) da_35 8 rfl
theorem dX1_work_103 : decode cX1_work 103 = .ok (.lreturn, 1) := dec_of (decode cX1_work) da_35 9 rfl
theorem dX1_work_104 : decode cX1_work 104 = .ok (.lload_n 1, 1) := dec_of (decode cX1_work) da_35 10 rfl
theorem dX1_work_105 : decode cX1_work 105 = .ok (.lconst 0, 1) := dec_of (decode cX1_work) da_35 11 rfl
theorem dX1_work_106 : decode cX1_work 106 = .ok (.lcmp, 1) := dec_of (decode cX1_work) da_35 12 rfl
theorem dX1_work_107 : decode cX1_work 107 = .ok (.ifCond .ne 9, 3) := dec_of (decode cX1_work) da_35 13 rfl
theorem dX1_work_110 : decode cX1_work 110 = .ok (.ldc2_w 67, 3) := dec_of (decode cX1_work) da_35 14 rfl
theorem dX1_work_113 : decode cX1_work 113 = .ok (.goto 19, 3) := dec_of (decode cX1_work) da_35 15 rfl
theorem dX1_work_116 : decode cX1_work 116 = .ok (.ldc2_w 67, 3) := dec_of (decode cX1_work) da_35 16 rfl
theorem dX1_work_119 : decode cX1_work 119 = .ok (.lload_n 1, 1) := dec_of (decode cX1_work) da_35 17 rfl
theorem dX1_work_120 : decode cX1_work 120 = .ok (.lconst 0, 1) := dec_of (decode cX1_work) da_35 18 rfl
theorem dX1_work_121 : decode cX1_work 121 = .ok (.lcmp, 1) := dec_of (decode cX1_work) da_35 19 rfl
theorem dX1_work_122 : decode cX1_work 122 = .ok (.ifCond .ge 8, 3) := dec_of (decode cX1_work) da_35 20 rfl
theorem dX1_work_125 : decode cX1_work 125 = .ok (.lload_n 1, 1) := dec_of (decode cX1_work) da_35 21 rfl
theorem dX1_work_126 : decode cX1_work 126 = .ok (.lneg, 1) := dec_of (decode cX1_work) da_35 22 rfl
theorem dX1_work_127 : decode cX1_work 127 = .ok (.goto 4, 3) := dec_of (decode cX1_work) da_35 23 rfl
theorem dX1_work_130 : decode cX1_work 130 = .ok (.lload_n 1, 1) := dec_of (decode cX1_work) da_35 24 rfl
theorem dX1_work_131 : decode cX1_work 131 = .ok (.ldiv, 1) := dec_of (decode cX1_work) da_35 25 rfl
theorem dX1_work_132 : decode cX1_work 132 = .ok (.lstore 5, 2) := dec_of (decode cX1_work) da_35 26 rfl
theorem dX1_work_134 : decode cX1_work 134 = .ok (.lload_n 3, 1) := dec_of (decode cX1_work) da_35 27 rfl
theorem dX1_work_135 : decode cX1_work 135 = .ok (.lload 5, 2) := dec_of (decode cX1_work) da_35 28 rfl
theorem dX1_work_137 : decode cX1_work 137 = .ok (.lcmp, 1) := dec_of (decode cX1_work) da_35 29 rfl
theorem dX1_work_138 : decode cX1_work 138 = .ok (.ifCond .gt 11, 3) := dec_of (decode cX1_work) da_35 30 rfl
theorem dX1_work_141 : decode cX1_work 141 = .ok (.lload_n 3, 1) := dec_of (decode cX1_work) da_35 31 rfl
theorem dX1_work_142 : decode cX1_work 142 = .ok (.lload 5, 2) := dec_of (decode cX1_work) da_35 32 rfl
theorem dX1_work_144 : decode cX1_work 144 = .ok (.lneg, 1) := dec_of (decode cX1_work) da_35 33 rfl
theorem dX1_work_145 : decode cX1_work 145 = .ok (.lcmp, 1) := dec_of (decode cX1_work) da_35 34 rfl
theorem dX1_work_146 : decode cX1_work 146 = .ok (.ifCond .ge 9, 3) := dec_of (decode cX1_work) da_35 35 rfl
theorem dX1_work_149 : decode cX1_work 149 = .ok (.ldc2_w 34, 3) := dec_of (decode cX1_work) da_35 36 rfl
theorem dX1_work_152 : decode cX1_work 152 = .ok (.goto 6, 3) := dec_of (decode cX1_work) da_35 37 rfl
theorem dX1_work_155 : decode cX1_work 155 = .ok (.lload_n 1, 1) := dec_of (decode cX1_work) da_35 38 rfl
theorem dX1_work_156 : decode cX1_work 156 = .ok (.lload_n 3, 1) := dec_of (decode cX1_work) da_35 39 rfl
abbrev dl_36 : List (Nat × Except DecodeError (Instr × Nat)) := [(157, .ok (.lmul, 1)), (158, .ok (.lreturn, 1)), (159, .ok (.lload_n 3, 1)), (160, .ok (.lconst 0, 1)), (161, .ok (.lcmp, 1)), (162, .ok (.ifCond .ne 9, 3)), (165, .ok (.ldc2_w 34, 3)), (168, .ok (.goto 6, 3)), (171, .ok (.lload_n 1, 1)), (172, .ok (.lload_n 3, 1)), (173, .ok (.ldiv, 1)), (174, .ok (.lreturn, 1)), (175, .ok (.lload_n 1, 1)), (176, .ok (.lload_n 3, 1)), (177, .ok (.lcmp, 1)), (178, .ok (.ifCond .ge 7, 3)), (181, .ok (.lconst 1, 1)), (182, .ok (.goto 4, 3)), (185, .ok (.lconst 0, 1)), (186, .ok (.lreturn, 1)), (187, .ok (.lload_n 1, 1)), (188, .ok (.lload_n 3, 1)), (189, .ok (.lcmp, 1)), (190, .ok (.ifCond .gt 7, 3)), (193, .ok (.lconst 1, 1)), (194, .ok (.goto 4, 3)), (197, .ok (.lconst 0, 1)), (198, .ok (.lreturn, 1)), (199, .ok (.lload_n 1, 1)), (200, .ok (.lload_n 3, 1)), (201, .ok (.lcmp, 1)), (202, .ok (.ifCond .ne 7, 3)), (205, .ok (.lconst 1, 1)), (206, .ok (.goto 4, 3)), (209, .ok (.lconst 0, 1)), (210, .ok (.lreturn, 1)), (211, .ok (.lload_n 1, 1)), (212, .ok (.lload_n 3, 1)), (213, .ok (.lcmp, 1)), (214, .ok (.ifCond .eq 7, 3))]
theorem da_36 : dl_36.all (fun q => decide (decode cX1_work q.1 = q.2)) = true := by decide +kernel
theorem dX1_work_157 : decode cX1_work 157 = .ok (.lmul, 1) := dec_of (decode cX1_work) da_36 0 rfl
theorem dX1_work_158 : decode cX1_work 158 = .ok (.lreturn, 1) := dec_of (decode cX1_work) da_36 1 rfl
theorem dX1_work_159 : decode cX1_work 159 = .ok (.lload_n 3, 1) := dec_of (decode cX1_work) da_36 2 rfl
theorem dX1_work_160 : decode cX1_work 160 = .ok (.lconst 0, 1) := dec_of (decode cX1_work) da_36 3 rfl
theorem dX1_work_161 : decode cX1_work 161 = .ok (.lcmp, 1) := dec_of (decode cX1_work) da_36 4 rfl
theorem dX1_work_162 : decode cX1_work 162 = .ok (.ifCond .ne 9, 3) := dec_of (decode cX1_work) da_36 5 rfl
theorem dX1_work_165 : decode cX1_work 165 = .ok (.ldc2_w 34, 3) := dec_of (decode cX1_work) da_36 6 rfl
theorem dX1_work_168 : decode cX1_work 168 = .ok (.goto 6, 3) := dec_of (decode cX1_work) da_36 7 rfl
theorem dX1_work_171 : decode cX1_work 171 = .ok (.lload_n 1, 1) := dec_of (decode cX1_work) da_36 8 rfl
theorem dX1_work_172 : decode cX1_work 172 = .ok (.lload_n 3, 1) := dec_of (decode cX1_work) da_36 9 rfl
theorem dX1_work_173 : decode cX1_work 173 = .ok (.ldiv, 1) := dec_of (decode cX1_work) da_36 10 rfl
theorem dX1_work_174 : decode cX1_work 174 = .ok (.lreturn, 1) := dec_of (decode cX1_work) da_36 11 rfl
theorem dX1_work_175 : decode cX1_work 175 = .ok (.lload_n 1, 1) := dec_of (decode cX1_work) da_36 12 rfl
theorem dX1_work_176 : decode cX1_work 176 = .ok (.lload_n 3, 1) := dec_of (decode cX1_work) da_36 13 rfl
theorem dX1_work_177 : decode cX1_work 177 = .ok (.lcmp, 1) := dec_of (decode cX1_work) da_36 14 rfl
theorem dX1_work_178 : decode cX1_work 178 = .ok (.ifCond .ge 7, 3) := dec_of (decode cX1_work) da_36 15 rfl
theorem dX1_work_181 : decode cX1_work 181 = .ok (.lconst 1, 1) := dec_of (decode cX1_work) da_36 16 rfl
theorem dX1_work_182 : decode cX1_work 182 = .ok (.goto 4, 3) := dec_of (decode cX1_work) da_36 17 rfl
theorem dX1_work_185 : decode cX1_work 185 = .ok (.lconst 0, 1) := dec_of (decode cX1_work) da_36 18 rfl
theorem dX1_work_186 : decode cX1_work 186 = .ok (.lreturn, 1) := dec_of (decode cX1_work) da_36 19 rfl
theorem dX1_work_187 : decode cX1_work 187 = .ok (.lload_n 1, 1) := dec_of (decode cX1_work) da_36 20 rfl
theorem dX1_work_188 : decode cX1_work 188 = .ok (.lload_n 3, 1) := dec_of (decode cX1_work) da_36 21 rfl
theorem dX1_work_189 : decode cX1_work 189 = .ok (.lcmp, 1) := dec_of (decode cX1_work) da_36 22 rfl
theorem dX1_work_190 : decode cX1_work 190 = .ok (.ifCond .gt 7, 3) := dec_of (decode cX1_work) da_36 23 rfl
theorem dX1_work_193 : decode cX1_work 193 = .ok (.lconst 1, 1) := dec_of (decode cX1_work) da_36 24 rfl
theorem dX1_work_194 : decode cX1_work 194 = .ok (.goto 4, 3) := dec_of (decode cX1_work) da_36 25 rfl
theorem dX1_work_197 : decode cX1_work 197 = .ok (.lconst 0, 1) := dec_of (decode cX1_work) da_36 26 rfl
theorem dX1_work_198 : decode cX1_work 198 = .ok (.lreturn, 1) := dec_of (decode cX1_work) da_36 27 rfl
theorem dX1_work_199 : decode cX1_work 199 = .ok (.lload_n 1, 1) := dec_of (decode cX1_work) da_36 28 rfl
theorem dX1_work_200 : decode cX1_work 200 = .ok (.lload_n 3, 1) := dec_of (decode cX1_work) da_36 29 rfl
theorem dX1_work_201 : decode cX1_work 201 = .ok (.lcmp, 1) := dec_of (decode cX1_work) da_36 30 rfl
theorem dX1_work_202 : decode cX1_work 202 = .ok (.ifCond .ne 7, 3) := dec_of (decode cX1_work) da_36 31 rfl
theorem dX1_work_205 : decode cX1_work 205 = .ok (.lconst 1, 1) := dec_of (decode cX1_work) da_36 32 rfl
theorem dX1_work_206 : decode cX1_work 206 = .ok (.goto 4, 3) := dec_of (decode cX1_work) da_36 33 rfl
theorem dX1_work_209 : decode cX1_work 209 = .ok (.lconst 0, 1) := dec_of (decode cX1_work) da_36 34 rfl
theorem dX1_work_210 : decode cX1_work 210 = .ok (.lreturn, 1) := dec_of (decode cX1_work) da_36 35 rfl
theorem dX1_work_211 : decode cX1_work 211 = .ok (.lload_n 1, 1) := dec_of (decode cX1_work) da_36 36 rfl
theorem dX1_work_212 : decode cX1_work 212 = .ok (.lload_n 3, 1) := dec_of (decode cX1_work) da_36 37 rfl
theorem dX1_work_213 : decode cX1_work 213 = .ok (.lcmp, 1) := dec_of (decode cX1_work) da_36 38 rfl
theorem dX1_work_214 : decode cX1_work 214 = .ok (.ifCond .eq 7, 3) := dec_of (decode cX1_work) da_36 39 rfl
abbrev dl_37 : List (Nat × Except DecodeError (Instr × Nat)) := [(217, .ok (.lconst 1, 1)), (218, .ok (.goto 4, 3)), (221, .ok (.lconst 0, 1)), (222, .ok (.lreturn, 1)), (223, .ok (.lload_n 1, 1)), (224, .ok (.lload_n 3, 1)), (225, .ok (.lcmp, 1)), (226, .ok (.ifCond .lt 7, 3)), (229, .ok (.lconst 1, 1)), (230, .ok (.goto 4, 3)), (233, .ok (.lconst 0, 1)), (234, .ok (.lreturn, 1)), (235, .ok (.lload_n 1, 1)), (236, .ok (.lload_n 3, 1)), (237, .ok (.lcmp, 1)), (238, .ok (.ifCond .le 7, 3)), (241, .ok (.lconst 1, 1)), (242, .ok (.goto 4, 3)), (245, .ok (.lconst 0, 1)), (246, .ok (.lreturn, 1)), (247, .ok (.lload_n 1, 1)), (248, .ok (.lconst 0, 1)), (249, .ok (.lcmp, 1)), (250, .ok (.ifCond .eq 13, 3)), (253, .ok (.lload_n 3, 1)), (254, .ok (.lconst 0, 1)), (255, .ok (.lcmp, 1)), (256, .ok (.ifCond .eq 7, 3)), (259, .ok (.lconst 1, 1)), (260, .ok (.goto 4, 3)), (263, .ok (.lconst 0, 1)), (264, .ok (.lreturn, 1)), (265, .ok (.lload_n 1, 1)), (266, .ok (.lconst 0, 1)), (267, .ok (.lcmp, 1)), (268, .ok (.ifCond .ne 9, 3)), (271, .ok (.lload_n 3, 1)), (272, .ok (.lconst 0, 1)), (273, .ok (.lcmp, 1)), (274, .ok (.ifCond .eq 7, 3))]
theorem da_37 : dl_37.all (fun q => decide (decode cX1_work q.1 = q.2)) = true := by decide +kernel
theorem dX1_work_217 : decode cX1_work 217 = .ok (.lconst 1, 1) := dec_of (decode cX1_work) da_37 0 rfl
theorem dX1_work_218 : decode cX1_work 218 = .ok (.goto 4, 3) := dec_of (decode cX1_work) da_37 1 rfl
theorem dX1_work_221 : decode cX1_work 221 = .ok (.lconst 0, 1) := dec_of (decode cX1_work) da_37 2 rfl
theorem dX1_work_222 : decode cX1_work 222 = .ok (.lreturn, 1) := dec_of (decode cX1_work) da_37 3 rfl
theorem dX1_work_223 : decode cX1_work 223 = .ok (.lload_n 1, 1) := dec_of (decode cX1_work) da_37 4 rfl
theorem dX1_work_224 : decode cX1_work 224 = .ok (.lload_n 3, 1) := dec_of (decode cX1_work) da_37 5 rfl
theorem dX1_work_225 : decode cX1_work 225 = .ok (.lcmp, 1) := dec_of (decode cX1_work) da_37 6 rfl
theorem dX1_work_226 : decode cX1_work 226 = .ok (.ifCond .lt 7, 3) := dec_of (decode cX1_work) da_37 7 rfl
theorem dX1_work_229 : decode cX1_work 229 = .ok (.lconst 1, 1) := dec_of (decode cX1_work) da_37 8 rfl
theorem dX1_work_230 : decode cX1_work 230 = .ok (.goto 4, 3) := dec_of (decode cX1_work) da_37 9 rfl
theorem dX1_work_233 : decode cX1_work 233 = .ok (.lconst 0, 1) := dec_of (decode cX1_work) da_37 10 rfl
theorem dX1_work_234 : decode cX1_work 234 = .ok (.lreturn, 1) := dec_of (decode cX1_work) da_37 11 rfl
theorem dX1_work_235 : decode cX1_work 235 = .ok (.lload_n 1, 1) := dec_of (decode cX1_work) da_37 12 rfl
theorem dX1_work_236 : decode cX1_work 236 = .ok (.lload_n 3, 1) := dec_of (decode cX1_work) da_37 13 rfl
theorem dX1_work_237 : decode cX1_work 237 = .ok (.lcmp, 1) := dec_of (decode cX1_work) da_37 14 rfl
theorem dX1_work_238 : decode cX1_work 238 = .ok (.ifCond .le 7, 3) := dec_of (decode cX1_work) da_37 15 rfl
theorem dX1_work_241 : decode cX1_work 241 = .ok (.lconst 1, 1) := dec_of (decode cX1_work) da_37 16 rfl
theorem dX1_work_242 : decode cX1_work 242 = .ok (.goto 4, 3) := dec_of (decode cX1_work) da_37 17 rfl
theorem dX1_work_245 : decode cX1_work 245 = .ok (.lconst 0, 1) := dec_of (decode cX1_work) da_37 18 rfl
theorem dX1_work_246 : decode cX1_work 246 = .ok (.lreturn, 1) := dec_of (decode cX1_work) da_37 19 rfl
theorem dX1_work_247 : decode cX1_work 247 = .ok (.lload_n 1, 1) := dec_of (decode cX1_work) da_37 20 rfl
theorem dX1_work_248 : decode cX1_work 248 = .ok (.lconst 0, 1) := dec_of (decode cX1_work) da_37 21 rfl
theorem dX1_work_249 : decode cX1_work 249 = .ok (.lcmp, 1) := dec_of (decode cX1_work) da_37 22 rfl
theorem dX1_work_250 : decode cX1_work 250 = .ok (.ifCond .eq 13, 3) := dec_of (decode cX1_work) da_37 23 rfl
theorem dX1_work_253 : decode cX1_work 253 = .ok (.lload_n 3, 1) := dec_of (decode cX1_work) da_37 24 rfl
theorem dX1_work_254 : decode cX1_work 254 = .ok (.lconst 0, 1) := dec_of (decode cX1_work) da_37 25 rfl
theorem dX1_work_255 : decode cX1_work 255 = .ok (.lcmp, 1) := dec_of (decode cX1_work) da_37 26 rfl
theorem dX1_work_256 : decode cX1_work 256 = .ok (.ifCond .eq 7, 3) := dec_of (decode cX1_work) da_37 27 rfl
theorem dX1_work_259 : decode cX1_work 259 = .ok (.lconst 1, 1) := dec_of (decode cX1_work) da_37 28 rfl
theorem dX1_work_260 : decode cX1_work 260 = .ok (.goto 4, 3) := dec_of (decode cX1_work) da_37 29 rfl
theorem dX1_work_263 : decode cX1_work 263 = .ok (.lconst 0, 1) := dec_of (decode cX1_work) da_37 30 rfl
theorem dX1_work_264 : decode cX1_work 264 = .ok (.lreturn, 1) := dec_of (decode cX1_work) da_37 31 rfl
theorem dX1_work_265 : decode cX1_work 265 = .ok (.lload_n 1, 1) := dec_of (decode cX1_work) da_37 32 rfl
theorem dX1_work_266 : decode cX1_work 266 = .ok (.lconst 0, 1) := dec_of (decode cX1_work) da_37 33 rfl
theorem dX1_work_267 : decode cX1_work 267 = .ok (.lcmp, 1) := dec_of (decode cX1_work) da_37 34 rfl
theorem dX1_work_268 : decode cX1_work 268 = .ok (.ifCond .ne 9, 3) := dec_of (decode cX1_work) da_37 35 rfl
theorem dX1_work_271 : decode cX1_work 271 = .ok (.lload_n 3, 1) := dec_of (decode cX1_work) da_37 36 rfl
theorem dX1_work_272 : decode cX1_work 272 = .ok (.lconst 0, 1) := dec_of (decode cX1_work) da_37 37 rfl
theorem dX1_work_273 : decode cX1_work 273 = .ok (.lcmp, 1) := dec_of (decode cX1_work) da_37 38 rfl
theorem dX1_work_274 : decode cX1_work 274 = .ok (.ifCond .eq 7, 3) := dec_of (decode cX1_work) da_37 39 rfl
abbrev dl_38 : List (Nat × Except DecodeError (Instr × Nat)) := [(277, .ok (.lconst 1, 1)), (278, .ok (.goto 4, 3)), (281, .ok (.lconst 0, 1)), (282, .ok (.lreturn, 1)), (283, .ok (.ldc2_w 34, 3)), (286, .ok (.lreturn, 1))]
theorem da_38 : dl_38.all (fun q => decide (decode cX1_work q.1 = q.2)) = true := by decide +kernel
theorem dX1_work_277 : decode cX1_work 277 = .ok (.lconst 1, 1) := dec_of (decode cX1_work) da_38 0 rfl
theorem dX1_work_278 : decode cX1_work 278 = .ok (.goto 4, 3) := dec_of (decode cX1_work) da_38 1 rfl
theorem dX1_work_281 : decode cX1_work 281 = .ok (.lconst 0, 1) := dec_of (decode cX1_work) da_38 2 rfl
theorem dX1_work_282 : decode cX1_work 282 = .ok (.lreturn, 1) := dec_of (decode cX1_work) da_38 3 rfl
theorem dX1_work_283 : decode cX1_work 283 = .ok (.ldc2_w 34, 3) := dec_of (decode cX1_work) da_38 4 rfl
theorem dX1_work_286 : decode cX1_work 286 = .ok (.lreturn, 1) := dec_of (decode cX1_work) da_38 5 rfl
abbrev dl_39 : List (Nat × Except DecodeError (Instr × Nat)) := [(0, .ok (.aload_n 0, 1)), (1, .ok (.invokespecial 1, 3)), (4, .ok (.return_, 1))]
theorem da_39 : dl_39.all (fun q => decide (decode cX2_init q.1 = q.2)) = true := by decide +kernel
theorem dX2_init_0 : decode cX2_init 0 = .ok (.aload_n 0, 1) := dec_of (decode cX2_init) da_39 0 rfl
theorem dX2_init_1 : decode cX2_init 1 = .ok (.invokespecial 1, 3) := dec_of (decode cX2_init) da_39 1 rfl
theorem dX2_init_4 : decode cX2_init 4 = .ok (.return_, 1) := dec_of (decode cX2_init) da_39 2 rfl
abbrev dl_40 : List (Nat × Except DecodeError (Instr × Nat)) := [(0, .ok (.aload_n 0, 1)), (1, .ok (.invokespecial 3, 3)), (4, .ok (.aload_n 0, 1)), (5, .ok (.bipush 8, 2)), (7, .ok (.newarray .int, 2)), (9, .ok (.putfield 9, 3)), (12, .ok (.aload_n 0, 1)), (13, .ok (.iconst 3, 1)), (14, .ok (.newarray .int, 2)), (16, .ok (.putfield 15, 3)), (19, .ok (.aload_n 0, 1)), (20, .ok (.bipush 8, 2)), (22, .ok (.newarray .int, 2)), (24, .ok (.putfield 18, 3)), (27, .ok (.aload_n 0, 1)), (28, .ok (.bipush 8, 2)), (30, .ok (.newarray .int, 2)), (32, .ok (.putfield 21, 3)), (35, .ok (.aload_n 0, 1)), (36, .ok (.bipush 8, 2)), (38, .ok (.newarray .int, 2)), (40, .ok (.putfield 24, 3)), (43, .ok (.aload_n 0, 1)), (44, .ok (.bipush 8, 2)), (46, .ok (.newarray .int, 2)), (48, .ok (.putfield 27, 3)), (51, .ok (.aload_n 0, 1)), (52, .ok (.bipush 8, 2)), (54, .ok (.newarray .int, 2)), (56, .ok (.putfield 30, 3)), (59, .ok (.aload_n 0, 1)), (60, .ok (.bipush 8, 2)), (62, .ok (.newarray .int, 2)), (64, .ok (.putfield 33, 3)), (67, .ok (.aload_n 0, 1)), (68, .ok (.bipush 8, 2)), (70, .ok (.newarray .int, 2)), (72, .ok (.putfield 36, 3)), (75, .ok (.aload_n 0, 1)), (76, .ok (.bipush 8, 2))]
theorem da_40 : dl_40.all (fun q => decide (decode cX3_init q.1 = q.2)) = true := by decide +kernel
theorem dX3_init_0 : decode cX3_init 0 = .ok (.aload_n 0, 1) := dec_of (decode cX3_init) da_40 0 rfl
theorem dX3_init_1 : decode cX3_init 1 = .ok (.invokespecial 3, 3) := dec_of (decode cX3_init) da_40 1 rfl
theorem dX3_init_4 : decode cX3_init 4 = .ok (.aload_n 0, 1) := dec_of (decode cX3_init) da_40 2 rfl
theorem dX3_init_5 : decode cX3_init 5 = .ok (.bipush 8, 2) := dec_of (decode cX3_init) da_40 3 rfl
theorem dX3_init_7 : decode cX3_init 7 = .ok (.newarray .int, 2) := dec_of (decode cX3_init) da_40 4 rfl
theorem dX3_init_9 : decode cX3_init 9 = .ok (.putfield 9, 3) := dec_of (decode cX3_init) da_40 5 rfl
theorem dX3_init_12 : decode cX3_init 12 = .ok (.aload_n 0, 1) := dec_of (decode cX3_init) da_40 6 rfl
theorem dX3_init_13 : decode cX3_init 13 = .ok (.iconst 3, 1) := dec_of (decode cX3_init) da_40 7 rfl
theorem dX3_init_14 : decode cX3_init 14 = .ok (.newarray .int, 2) := dec_of (decode cX3_init) da_40 8 rfl
theorem dX3_init_16 : decode cX3_init 16 = .ok (.putfield 15, 3) := dec_of (decode cX3_init) da_40 9 rfl
theorem dX3_init_19 : decode cX3_init 19 = .ok (.aload_n 0, 1) := dec_of (decode cX3_init) da_40 10 rfl
theorem dX3_init_20 : decode cX3_init 20 = .ok (.bipush 8, 2) := dec_of (decode cX3_init) da_40 11 rfl
theorem dX3_init_22 : decode cX3_init 22 = .ok (.newarray .int, 2) := dec_of (decode cX3_init) da_40 12 rfl
theorem dX3_init_24 : decode cX3_init 24 = .ok (.putfield 18, 3) := dec_of (decode cX3_init) da_40 13 rfl
theorem dX3_init_27 : decode cX3_init 27 = .ok (.aload_n 0, 1) := dec_of (decode cX3_init) da_40 14 rfl
theorem dX3_init_28 : decode cX3_init 28 = .ok (.bipush 8, 2) := dec_of (decode cX3_init) da_40 15 rfl
theorem dX3_init_30 : decode cX3_init 30 = .ok (.newarray .int, 2) := dec_of (decode cX3_init) da_40 16 rfl
theorem dX3_init_32 : decode cX3_init 32 = .ok (.putfield 21, 3) := dec_of (decode cX3_init) da_40 17 rfl
theorem dX3_init_35 : decode cX3_init 35 = .ok (.aload_n 0, 1) := dec_of (decode cX3_init) da_40 18 rfl
theorem dX3_init_36 : decode cX3_init 36 = .ok (.bipush 8, 2) := dec_of (decode cX3_init) da_40 19 rfl
theorem dX3_init_38 : decode cX3_init 38 = .ok (.newarray .int, 2) := dec_of (decode cX3_init) da_40 20 rfl
theorem dX3_init_40 : decode cX3_init 40 = .ok (.putfield 24, 3) := dec_of (decode cX3_init) da_40 21 rfl
theorem dX3_init_43 : decode cX3_init 43 = .ok (.aload_n 0, 1) := dec_of (decode cX3_init) da_40 22 rfl
theorem dX3_init_44 : decode cX3_init 44 = .ok (.bipush 8, 2) := dec_of (decode cX3_init) da_40 23 rfl
theorem dX3_init_46 : decode cX3_init 46 = .ok (.newarray .int, 2) := dec_of (decode cX3_init) da_40 24 rfl
theorem dX3_init_48 : decode cX3_init 48 = .ok (.putfield 27, 3) := dec_of (decode cX3_init) da_40 25 rfl
theorem dX3_init_51 : decode cX3_init 51 = .ok (.aload_n 0, 1) := dec_of (decode cX3_init) da_40 26 rfl
theorem dX3_init_52 : decode cX3_init 52 = .ok (.bipush 8, 2) := dec_of (decode cX3_init) da_40 27 rfl
theorem dX3_init_54 : decode cX3_init 54 = .ok (.newarray .int, 2) := dec_of (decode cX3_init) da_40 28 rfl
theorem dX3_init_56 : decode cX3_init 56 = .ok (.putfield 30, 3) := dec_of (decode cX3_init) da_40 29 rfl
theorem dX3_init_59 : decode cX3_init 59 = .ok (.aload_n 0, 1) := dec_of (decode cX3_init) da_40 30 rfl
theorem dX3_init_60 : decode cX3_init 60 = .ok (.bipush 8, 2) := dec_of (decode cX3_init) da_40 31 rfl
theorem dX3_init_62 : decode cX3_init 62 = .ok (.newarray .int, 2) := dec_of (decode cX3_init) da_40 32 rfl
theorem dX3_init_64 : decode cX3_init 64 = .ok (.putfield 33, 3) := dec_of (decode cX3_init) da_40 33 rfl
theorem dX3_init_67 : decode cX3_init 67 = .ok (.aload_n 0, 1) := dec_of (decode cX3_init) da_40 34 rfl
theorem dX3_init_68 : decode cX3_init 68 = .ok (.bipush 8, 2) := dec_of (decode cX3_init) da_40 35 rfl
theorem dX3_init_70 : decode cX3_init 70 = .ok (.newarray .int, 2) := dec_of (decode cX3_init) da_40 36 rfl
theorem dX3_init_72 : decode cX3_init 72 = .ok (.putfield 36, 3) := dec_of (decode cX3_init) da_40 37 rfl
theorem dX3_init_75 : decode cX3_init 75 = .ok (.aload_n 0, 1) := dec_of (decode cX3_init) da_40 38 rfl
theorem dX3_init_76 : decode cX3_init 76 = .ok (.bipush 8, 2) := dec_of (decode cX3_init) da_40 39 rfl
abbrev dl_41 : List (Nat × Except DecodeError (Instr × Nat)) := [(78, .ok (.newarray .int, 2)), (80, .ok (.putfield 39, 3)), (83, .ok (.aload_n 0, 1)), (84, .ok (.bipush 8, 2)), (86, .ok (.newarray .int, 2)), (88, .ok (.putfield 42, 3)), (91, .ok (.return_, 1))]
theorem da_41 : dl_41.all (fun q => decide (decode cX3_init q.1 = q.2)) = true := by decide +kernel
theorem dX3_init_78 : decode cX3_init 78 = .ok (.newarray .int, 2) := dec_of (decode cX3_init) da_41 0 rfl
theorem dX3_init_80 : decode cX3_init 80 = .ok (.putfield 39, 3) := dec_of (decode cX3_init) da_41 1 rfl
theorem dX3_init_83 : decode cX3_init 83 = .ok (.aload_n 0, 1) := dec_of (decode cX3_init) da_41 2 rfl
theorem dX3_init_84 : decode cX3_init 84 = .ok (.bipush 8, 2) := dec_of (decode cX3_init) da_41 3 rfl
theorem dX3_init_86 : decode cX3_init 86 = .ok (.newarray .int, 2) := dec_of (decode cX3_init) da_41 4 rfl
theorem dX3_init_88 : decode cX3_init 88 = .ok (.putfield 42, 3) := dec_of (decode cX3_init) da_41 5 rfl
theorem dX3_init_91 : decode cX3_init 91 = .ok (.return_, 1) := dec_of (decode cX3_init) da_41 6 rfl
abbrev dl_42 : List (Nat × Except DecodeError (Instr × Nat)) := [(0, .ok (.aload_n 0, 1)), (1, .ok (.aload_n 1, 1)), (2, .ok (.putfield 45, 3)), (5, .ok (.aload_n 0, 1)), (6, .ok (.iconst 0, 1)), (7, .ok (.putfield 49, 3)), (10, .ok (.aload_n 0, 1)), (11, .ok (.iconst 0, 1)), (12, .ok (.putfield 53, 3)), (15, .ok (.aload_n 0, 1)), (16, .ok (.iconst 0, 1)), (17, .ok (.putfield 56, 3)), (20, .ok (.aload_n 0, 1)), (21, .ok (.aload_n 1, 1)), (22, .ok (.getfield 59, 3)), (25, .ok (.putfield 64, 3)), (28, .ok (.aload_n 0, 1)), (29, .ok (.aload_n 1, 1)), (30, .ok (.getfield 65, 3)), (33, .ok (.putfield 68, 3)), (36, .ok (.aload_n 1, 1)), (37, .ok (.getfield 71, 3)), (40, .ok (.iconst 0, 1)), (41, .ok (.aload_n 0, 1)), (42, .ok (.getfield 15, 3)), (45, .ok (.iconst 0, 1)), (46, .ok (.iconst 3, 1)), (47, .ok (.invokestatic 72, 3)), (50, .ok (.iconst 0, 1)), (51, .ok (.istore_n 2, 1)), (52, .ok (.iload_n 2, 1)), (53, .ok (.aload_n 1, 1)), (54, .ok (.getfield 78, 3)), (57, .ok (.if_icmp .ge 54, 3)), (60, .ok (.aload_n 0, 1)), (61, .ok (.getfield 21, 3)), (64, .ok (.iload_n 2, 1)), (65, .ok (.aload_n 1, 1)), (66, .ok (.getfield 81, 3)), (69, .ok (.iload_n 2, 1))]
theorem da_42 : dl_42.all (fun q => decide (decode cX3_start q.1 = q.2)) = true := by decide +kernel
theorem dX3_start_0 : decode cX3_start 0 = .ok (.aload_n 0, 1) := dec_of (decode cX3_start) da_42 0 rfl
theorem dX3_start_1 : decode cX3_start 1 = .ok (.aload_n 1, 1) := dec_of (decode cX3_start) da_42 1 rfl
theorem dX3_start_2 : decode cX3_start 2 = .ok (.putfield 45, 3) := dec_of (decode cX3_start) da_42 2 rfl
theorem dX3_start_5 : decode cX3_start 5 = .ok (.aload_n 0, 1) := dec_of (decode cX3_start) da_42 3 rfl
theorem dX3_start_6 : decode cX3_start 6 = .ok (.iconst 0, 1) := dec_of (decode cX3_start) da_42 4 rfl
theorem dX3_start_7 : decode cX3_start 7 = .ok (.putfield 49, 3) := dec_of (decode cX3_start) da_42 5 rfl
theorem dX3_start_10 : decode cX3_start 10 = .ok (.aload_n 0, 1) := dec_of (decode cX3_start) da_42 6 rfl
theorem dX3_start_11 : decode cX3_start 11 = .ok (.iconst 0, 1) := dec_of (decode cX3_start) da_42 7 rfl
theorem dX3_start_12 : decode cX3_start 12 = .ok (.putfield 53, 3) := dec_of (decode cX3_start) da_42 8 rfl
theorem dX3_start_15 : decode cX3_start 15 = .ok (.aload_n 0, 1) := dec_of (decode cX3_start) da_42 9 rfl
theorem dX3_start_16 : decode cX3_start 16 = .ok (.iconst 0, 1) := dec_of (decode cX3_start) da_42 10 rfl
theorem dX3_start_17 : decode cX3_start 17 = .ok (.putfield 56, 3) := dec_of (decode cX3_start) da_42 11 rfl
theorem dX3_start_20 : decode cX3_start 20 = .ok (.aload_n 0, 1) := dec_of (decode cX3_start) da_42 12 rfl
theorem dX3_start_21 : decode cX3_start 21 = .ok (.aload_n 1, 1) := dec_of (decode cX3_start) da_42 13 rfl
theorem dX3_start_22 : decode cX3_start 22 = .ok (.getfield 59, 3) := dec_of (decode cX3_start) da_42 14 rfl
theorem dX3_start_25 : decode cX3_start 25 = .ok (.putfield 64, 3) := dec_of (decode cX3_start) da_42 15 rfl
theorem dX3_start_28 : decode cX3_start 28 = .ok (.aload_n 0, 1) := dec_of (decode cX3_start) da_42 16 rfl
theorem dX3_start_29 : decode cX3_start 29 = .ok (.aload_n 1, 1) := dec_of (decode cX3_start) da_42 17 rfl
theorem dX3_start_30 : decode cX3_start 30 = .ok (.getfield 65, 3) := dec_of (decode cX3_start) da_42 18 rfl
theorem dX3_start_33 : decode cX3_start 33 = .ok (.putfield 68, 3) := dec_of (decode cX3_start) da_42 19 rfl
theorem dX3_start_36 : decode cX3_start 36 = .ok (.aload_n 1, 1) := dec_of (decode cX3_start) da_42 20 rfl
theorem dX3_start_37 : decode cX3_start 37 = .ok (.getfield 71, 3) := dec_of (decode cX3_start) da_42 21 rfl
theorem dX3_start_40 : decode cX3_start 40 = .ok (.iconst 0, 1) := dec_of (decode cX3_start) da_42 22 rfl
theorem dX3_start_41 : decode cX3_start 41 = .ok (.aload_n 0, 1) := dec_of (decode cX3_start) da_42 23 rfl
theorem dX3_start_42 : decode cX3_start 42 = .ok (.getfield 15, 3) := dec_of (decode cX3_start) da_42 24 rfl
theorem dX3_start_45 : decode cX3_start 45 = .ok (.iconst 0, 1) := dec_of (decode cX3_start) da_42 25 rfl
theorem dX3_start_46 : decode cX3_start 46 = .ok (.iconst 3, 1) := dec_of (decode cX3_start) da_42 26 rfl
theorem dX3_start_47 : decode cX3_start 47 = .ok (.invokestatic 72, 3) := dec_of (decode cX3_start) da_42 27 rfl
theorem dX3_start_50 : decode cX3_start 50 = .ok (.iconst 0, 1) := dec_of (decode cX3_start) da_42 28 rfl
theorem dX3_start_51 : decode cX3_start 51 = .ok (.istore_n 2, 1) := dec_of (decode cX3_start) da_42 29 rfl
theorem dX3_start_52 : decode cX3_start 52 = .ok (.iload_n 2, 1) := dec_of (decode cX3_start) da_42 30 rfl
theorem dX3_start_53 : decode cX3_start 53 = .ok (.aload_n 1, 1) := dec_of (decode cX3_start) da_42 31 rfl
theorem dX3_start_54 : decode cX3_start 54 = .ok (.getfield 78, 3) := dec_of (decode cX3_start) da_42 32 rfl
theorem dX3_start_57 : decode cX3_start 57 = .ok (.if_icmp .ge 54, 3) := dec_of (decode cX3_start) da_42 33 rfl
theorem dX3_start_60 : decode cX3_start 60 = .ok (.aload_n 0, 1) := dec_of (decode cX3_start) da_42 34 rfl
theorem dX3_start_61 : decode cX3_start 61 = .ok (.getfield 21, 3) := dec_of (decode cX3_start) da_42 35 rfl
theorem dX3_start_64 : decode cX3_start 64 = .ok (.iload_n 2, 1) := dec_of (decode cX3_start) da_42 36 rfl
theorem dX3_start_65 : decode cX3_start 65 = .ok (.aload_n 1, 1) := dec_of (decode cX3_start) da_42 37 rfl
theorem dX3_start_66 : decode cX3_start 66 = .ok (.getfield 81, 3) := dec_of (decode cX3_start) da_42 38 rfl
theorem dX3_start_69 : decode cX3_start 69 = .ok (.iload_n 2, 1) := dec_of (decode cX3_start) da_42 39 rfl
abbrev dl_43 : List (Nat × Except DecodeError (Instr × Nat)) := [(70, .ok (.aaload, 1)), (71, .ok (.getfield 85, 3)), (74, .ok (.iastore, 1)), (75, .ok (.aload_n 0, 1)), (76, .ok (.getfield 24, 3)), (79, .ok (.iload_n 2, 1)), (80, .ok (.aload_n 1, 1)), (81, .ok (.getfield 81, 3)), (84, .ok (.iload_n 2, 1)), (85, .ok (.aaload, 1)), (86, .ok (.getfield 89, 3)), (89, .ok (.iastore, 1)), (90, .ok (.aload_n 0, 1)), (91, .ok (.getfield 30, 3)), (94, .ok (.iload_n 2, 1)), (95, .ok (.aload_n 1, 1)), (96, .ok (.getfield 81, 3)), (99, .ok (.iload_n 2, 1)), (100, .ok (.aaload, 1)), (101, .ok (.getfield 91, 3)), (104, .ok (.iastore, 1)), (105, .ok (.iinc 2 1, 3)), (108, .ok (.goto (-56), 3)), (111, .ok (.aload_n 0, 1)), (112, .ok (.getfield 18, 3)), (115, .ok (.iconst 0, 1)), (116, .ok (.invokestatic 93, 3)), (119, .ok (.aload_n 0, 1)), (120, .ok (.getfield 27, 3)), (123, .ok (.iconst 0, 1)), (124, .ok (.invokestatic 93, 3)), (127, .ok (.aload_n 0, 1)), (128, .ok (.getfield 39, 3)), (131, .ok (.iconst 0, 1)), (132, .ok (.invokestatic 93, 3)), (135, .ok (.aload_n 0, 1)), (136, .ok (.getfield 42, 3)), (139, .ok (.iconst 0, 1)), (140, .ok (.invokestatic 93, 3)), (143, .ok (.return_, 1))]
theorem da_43 : dl_43.all (fun q => decide (decode cX3_start q.1 = q.2)) = true := by decide +kernel
theorem dX3_start_70 : decode cX3_start 70 = .ok (.aaload, 1) := dec_of (decode cX3_start) da_43 0 rfl
theorem dX3_start_71 : decode cX3_start 71 = .ok (.getfield 85, 3) := dec_of (decode cX3_start) da_43 1 rfl
theorem dX3_start_74 : decode cX3_start 74 = .ok (.iastore, 1) := dec_of (decode cX3_start) da_43 2 rfl
theorem dX3_start_75 : decode cX3_start 75 = .ok (.aload_n 0, 1) := dec_of (decode cX3_start) da_43 3 rfl
theorem dX3_start_76 : decode cX3_start 76 = .ok (.getfield 24, 3) := dec_of (decode cX3_start) da_43 4 rfl
theorem dX3_start_79 : decode cX3_start 79 = .ok (.iload_n 2, 1) := dec_of (decode cX3_start) da_43 5 rfl
theorem dX3_start_80 : decode cX3_start 80 = .ok (.aload_n 1, 1) := dec_of (decode cX3_start) da_43 6 rfl
theorem dX3_start_81 : decode cX3_start 81 = .ok (.getfield 81, 3) := dec_of (decode cX3_start) da_43 7 rfl
theorem dX3_start_84 : decode cX3_start 84 = .ok (.iload_n 2, 1) := dec_of (decode cX3_start) da_43 8 rfl
theorem dX3_start_85 : decode cX3_start 85 = .ok (.aaload, 1) := dec_of (decode cX3_start) da_43 9 rfl
theorem dX3_start_86 : decode cX3_start 86 = .ok (.getfield 89, 3) := dec_of (decode cX3_start) da_43 10 rfl
theorem dX3_start_89 : decode cX3_start 89 = .ok (.iastore, 1) := dec_of (decode cX3_start) da_43 11 rfl
theorem dX3_start_90 : decode cX3_start 90 = .ok (.aload_n 0, 1) := dec_of (decode cX3_start) da_43 12 rfl
theorem dX3_start_91 : decode cX3_start 91 = .ok (.getfield 30, 3) := dec_of (decode cX3_start) da_43 13 rfl
theorem dX3_start_94 : decode cX3_start 94 = .ok (.iload_n 2, 1) := dec_of (decode cX3_start) da_43 14 rfl
theorem dX3_start_95 : decode cX3_start 95 = .ok (.aload_n 1, 1) := dec_of (decode cX3_start) da_43 15 rfl
theorem dX3_start_96 : decode cX3_start 96 = .ok (.getfield 81, 3) := dec_of (decode cX3_start) da_43 16 rfl
theorem dX3_start_99 : decode cX3_start 99 = .ok (.iload_n 2, 1) := dec_of (decode cX3_start) da_43 17 rfl
theorem dX3_start_100 : decode cX3_start 100 = .ok (.aaload, 1) := dec_of (decode cX3_start) da_43 18 rfl
theorem dX3_start_101 : decode cX3_start 101 = .ok (.getfield 91, 3) := dec_of (decode cX3_start) da_43 19 rfl
theorem dX3_start_104 : decode cX3_start 104 = .ok (.iastore, 1) := dec_of (decode cX3_start) da_43 20 rfl
theorem dX3_start_105 : decode cX3_start 105 = .ok (.iinc 2 1, 3) := dec_of (decode cX3_start) da_43 21 rfl
theorem dX3_start_108 : decode cX3_start 108 = .ok (.goto (-56), 3) := dec_of (decode cX3_start) da_43 22 rfl
theorem dX3_start_111 : decode cX3_start 111 = .ok (.aload_n 0, 1) := dec_of (decode cX3_start) da_43 23 rfl
theorem dX3_start_112 : decode cX3_start 112 = .ok (.getfield 18, 3) := dec_of (decode cX3_start) da_43 24 rfl
theorem dX3_start_115 : decode cX3_start 115 = .ok (.iconst 0, 1) := dec_of (decode cX3_start) da_43 25 rfl
theorem dX3_start_116 : decode cX3_start 116 = .ok (.invokestatic 93, 3) := dec_of (decode cX3_start) da_43 26 rfl
theorem dX3_start_119 : decode cX3_start 119 = .ok (.aload_n 0, 1) := dec_of (decode cX3_start) da_43 27 rfl
theorem dX3_start_120 : decode cX3_start 120 = .ok (.getfield 27, 3) := dec_of (decode cX3_start) da_43 28 rfl
theorem dX3_start_123 : decode cX3_start 123 = .ok (.iconst 0, 1) := dec_of (decode cX3_start) da_43 29 rfl
theorem dX3_start_124 : decode cX3_start 124 = .ok (.invokestatic 93, 3) := dec_of (decode cX3_start) da_43 30 rfl
theorem dX3_start_127 : decode cX3_start 127 = .ok (.aload_n 0, 1) := dec_of (decode cX3_start) da_43 31 rfl
theorem dX3_start_128 : decode cX3_start 128 = .ok (.getfield 39, 3) := dec_of (decode cX3_start) da_43 32 rfl
theorem dX3_start_131 : decode cX3_start 131 = .ok (.iconst 0, 1) := dec_of (decode cX3_start) da_43 33 rfl
theorem dX3_start_132 : decode cX3_start 132 = .ok (.invokestatic 93, 3) := dec_of (decode cX3_start) da_43 34 rfl
theorem dX3_start_135 : decode cX3_start 135 = .ok (.aload_n 0, 1) := dec_of (decode cX3_start) da_43 35 rfl
theorem dX3_start_136 : decode cX3_start 136 = .ok (.getfield 42, 3) := dec_of (decode cX3_start) da_43 36 rfl
theorem dX3_start_139 : decode cX3_start 139 = .ok (.iconst 0, 1) := dec_of (decode cX3_start) da_43 37 rfl
theorem dX3_start_140 : decode cX3_start 140 = .ok (.invokestatic 93, 3) := dec_of (decode cX3_start) da_43 38 rfl
theorem dX3_start_143 : decode cX3_start 143 = .ok (.return_, 1) := dec_of (decode cX3_start) da_43 39 rfl
abbrev dl_44 : List (Nat × Except DecodeError (Instr × Nat)) := [(0, .ok (.aload_n 0, 1)), (1, .ok (.aload_n 1, 1)), (2, .ok (.getfield 45, 3)), (5, .ok (.putfield 45, 3)), (8, .ok (.aload_n 0, 1)), (9, .ok (.aload_n 1, 1)), (10, .ok (.getfield 49, 3)), (13, .ok (.putfield 49, 3)), (16, .ok (.aload_n 0, 1)), (17, .ok (.aload_n 1, 1)), (18, .ok (.getfield 53, 3)), (21, .ok (.putfield 53, 3)), (24, .ok (.aload_n 0, 1)), (25, .ok (.aload_n 1, 1)), (26, .ok (.getfield 56, 3)), (29, .ok (.putfield 56, 3)), (32, .ok (.aload_n 0, 1)), (33, .ok (.aload_n 1, 1)), (34, .ok (.getfield 64, 3)), (37, .ok (.putfield 64, 3)), (40, .ok (.aload_n 0, 1)), (41, .ok (.aload_n 1, 1)), (42, .ok (.getfield 68, 3)), (45, .ok (.putfield 68, 3)), (48, .ok (.aload_n 1, 1)), (49, .ok (.getfield 9, 3)), (52, .ok (.iconst 0, 1)), (53, .ok (.aload_n 0, 1)), (54, .ok (.getfield 9, 3)), (57, .ok (.iconst 0, 1)), (58, .ok (.bipush 8, 2)), (60, .ok (.invokestatic 72, 3)), (63, .ok (.aload_n 1, 1)), (64, .ok (.getfield 15, 3)), (67, .ok (.iconst 0, 1)), (68, .ok (.aload_n 0, 1)), (69, .ok (.getfield 15, 3)), (72, .ok (.iconst 0, 1)), (73, .ok (.iconst 3, 1)), (74, .ok (.invokestatic 72, 3))]
theorem da_44 : dl_44.all (fun q => decide (decode cX3_copy q.1 = q.2)) = true := by decide +kernel
theorem dX3_copy_0 : decode cX3_copy 0 = .ok (.aload_n 0, 1) := dec_of (decode cX3_copy) da_44 0 rfl
theorem dX3_copy_1 : decode cX3_copy 1 = .ok (.aload_n 1, 1) := dec_of (decode cX3_copy) da_44 1 rfl
theorem dX3_copy_2 : decode cX3_copy 2 = .ok (.getfield 45, 3) := dec_of (decode cX3_copy) da_44 2 rfl
theorem dX3_copy_5 : decode cX3_copy 5 = .ok (.putfield 45, 3) := dec_of (decode cX3_copy) da_44 3 rfl
theorem dX3_copy_8 : decode cX3_copy 8 = .ok (.aload_n 0, 1) := dec_of (decode cX3_copy) da_44 4 rfl
theorem dX3_copy_9 : decode cX3_copy 9 = .ok (.aload_n 1, 1) := dec_of (decode cX3_copy) da_44 5 rfl
theorem dX3_copy_10 : decode cX3_copy 10 = .ok (.getfield 49, 3) := dec_of (decode cX3_copy) da_44 6 rfl
theorem dX3_copy_13 : decode cX3_copy 13 = .ok (.putfield 49, 3) := dec_of (decode cX3_copy) da_44 7 rfl
theorem dX3_copy_16 : decode cX3_copy 16 = .ok (.aload_n 0, 1) := dec_of (decode cX3_copy) da_44 8 rfl
theorem dX3_copy_17 : decode cX3_copy 17 = .ok (.aload_n 1, 1) := dec_of (decode cX3_copy) da_44 9 rfl
theorem dX3_copy_18 : decode cX3_copy 18 = .ok (.getfield 53, 3) := dec_of (decode cX3_copy) da_44 10 rfl
theorem dX3_copy_21 : decode cX3_copy 21 = .ok (.putfield 53, 3) := dec_of (decode cX3_copy) da_44 11 rfl
theorem dX3_copy_24 : decode cX3_copy 24 = .ok (.aload_n 0, 1) := dec_of (decode cX3_copy) da_44 12 rfl
theorem dX3_copy_25 : decode cX3_copy 25 = .ok (.aload_n 1, 1) := dec_of (decode cX3_copy) da_44 13 rfl
theorem dX3_copy_26 : decode cX3_copy 26 = .ok (.getfield 56, 3) := dec_of (decode cX3_copy) da_44 14 rfl
theorem dX3_copy_29 : decode cX3_copy 29 = .ok (.putfield 56, 3) := dec_of (decode cX3_copy) da_44 15 rfl
theorem dX3_copy_32 : decode cX3_copy 32 = .ok (.aload_n 0, 1) := dec_of (decode cX3_copy) da_44 16 rfl
theorem dX3_copy_33 : decode cX3_copy 33 = .ok (.aload_n 1, 1) := dec_of (decode cX3_copy) da_44 17 rfl
theorem dX3_copy_34 : decode cX3_copy 34 = .ok (.getfield 64, 3) := dec_of (decode cX3_copy) da_44 18 rfl
theorem dX3_copy_37 : decode cX3_copy 37 = .ok (.putfield 64, 3) := dec_of (decode cX3_copy) da_44 19 rfl
theorem dX3_copy_40 : decode cX3_copy 40 = .ok (.aload_n 0, 1) := dec_of (decode cX3_copy) da_44 20 rfl
theorem dX3_copy_41 : decode cX3_copy 41 = .ok (.aload_n 1, 1) := dec_of (decode cX3_copy) da_44 21 rfl
theorem dX3_copy_42 : decode cX3_copy 42 = .ok (.getfield 68, 3) := dec_of (decode cX3_copy) da_44 22 rfl
theorem dX3_copy_45 : decode cX3_copy 45 = .ok (.putfield 68, 3) := dec_of (decode cX3_copy) da_44 23 rfl
theorem dX3_copy_48 : decode cX3_copy 48 = .ok (.aload_n 1, 1) := dec_of (decode cX3_copy) da_44 24 rfl
theorem dX3_copy_49 : decode cX3_copy 49 = .ok (.getfield 9, 3) := dec_of (decode cX3_copy) da_44 25 rfl
theorem dX3_copy_52 : decode cX3_copy 52 = .ok (.iconst 0, 1) := dec_of (decode cX3_copy) da_44 26 rfl
theorem dX3_copy_53 : decode cX3_copy 53 = .ok (.aload_n 0, 1) := dec_of (decode cX3_copy) da_44 27 rfl
theorem dX3_copy_54 : decode cX3_copy 54 = .ok (.getfield 9, 3) := dec_of (decode cX3_copy) da_44 28 rfl
theorem dX3_copy_57 : decode cX3_copy 57 = .ok (.iconst 0, 1) := dec_of (decode cX3_copy) da_44 29 rfl
theorem dX3_copy_58 : decode cX3_copy 58 = .ok (.bipush 8, 2) := dec_of (decode cX3_copy) da_44 30 rfl
theorem dX3_copy_60 : decode cX3_copy 60 = .ok (.invokestatic 72, 3) := dec_of (decode cX3_copy) da_44 31 rfl
theorem dX3_copy_63 : decode cX3_copy 63 = .ok (.aload_n 1, 1) := dec_of (decode cX3_copy) da_44 32 rfl
theorem dX3_copy_64 : decode cX3_copy 64 = .ok (.getfield 15, 3) := dec_of (decode cX3_copy) da_44 33 rfl
theorem dX3_copy_67 : decode cX3_copy 67 = .ok (.iconst 0, 1) := dec_of (decode cX3_copy) da_44 34 rfl
theorem dX3_copy_68 : decode cX3_copy 68 = .ok (.aload_n 0, 1) := dec_of (decode cX3_copy) da_44 35 rfl
theorem dX3_copy_69 : decode cX3_copy 69 = .ok (.getfield 15, 3) := dec_of (decode cX3_copy) da_44 36 rfl
theorem dX3_copy_72 : decode cX3_copy 72 = .ok (.iconst 0, 1) := dec_of (decode cX3_copy) da_44 37 rfl
theorem dX3_copy_73 : decode cX3_copy 73 = .ok (.iconst 3, 1) := dec_of (decode cX3_copy) da_44 38 rfl
theorem dX3_copy_74 : decode cX3_copy 74 = .ok (.invokestatic 72, 3) := dec_of (decode cX3_copy) da_44 39 rfl
abbrev dl_45 : List (Nat × Except DecodeError (Instr × Nat)) := [(77, .ok (.aload_n 1, 1)), (78, .ok (.getfield 18, 3)), (81, .ok (.iconst 0, 1)), (82, .ok (.aload_n 0, 1)), (83, .ok (.getfield 18, 3)), (86, .ok (.iconst 0, 1)), (87, .ok (.bipush 8, 2)), (89, .ok (.invokestatic 72, 3)), (92, .ok (.aload_n 1, 1)), (93, .ok (.getfield 21, 3)), (96, .ok (.iconst 0, 1)), (97, .ok (.aload_n 0, 1)), (98, .ok (.getfield 21, 3)), (101, .ok (.iconst 0, 1)), (102, .ok (.bipush 8, 2)), (104, .ok (.invokestatic 72, 3)), (107, .ok (.aload_n 1, 1)), (108, .ok (.getfield 24, 3)), (111, .ok (.iconst 0, 1)), (112, .ok (.aload_n 0, 1)), (113, .ok (.getfield 24, 3)), (116, .ok (.iconst 0, 1)), (117, .ok (.bipush 8, 2)), (119, .ok (.invokestatic 72, 3)), (122, .ok (.aload_n 1, 1)), (123, .ok (.getfield 27, 3)), (126, .ok (.iconst 0, 1)), (127, .ok (.aload_n 0, 1)), (128, .ok (.getfield 27, 3)), (131, .ok (.iconst 0, 1)), (132, .ok (.bipush 8, 2)), (134, .ok (.invokestatic 72, 3)), (137, .ok (.aload_n 1, 1)), (138, .ok (.getfield 30, 3)), (141, .ok (.iconst 0, 1)), (142, .ok (.aload_n 0, 1)), (143, .ok (.getfield 30, 3)), (146, .ok (.iconst 0, 1)), (147, .ok (.bipush 8, 2)), (149, .ok (.invokestatic 72, 3))]
theorem da_45 : dl_45.all (fun q => decide (decode cX3_copy q.1 = q.2)) = true := by decide +kernel
theorem dX3_copy_77 : decode cX3_copy 77 = .ok (.aload_n 1, 1) := dec_of (decode cX3_copy) da_45 0 rfl
theorem dX3_copy_78 : decode cX3_copy 78 = .ok (.getfield 18, 3) := dec_of (decode cX3_copy) da_45 1 rfl
theorem dX3_copy_81 : decode cX3_copy 81 = .ok (.iconst 0, 1) := dec_of (decode cX3_copy) da_45 2 rfl
theorem dX3_copy_82 : decode cX3_copy 82 = .ok (.aload_n 0, 1) := dec_of (decode cX3_copy) da_45 3 rfl
theorem dX3_copy_83 : decode cX3_copy 83 = .ok (.getfield 18, 3) := dec_of (decode cX3_copy) da_45 4 rfl
theorem dX3_copy_86 : decode cX3_copy 86 = .ok (.iconst 0, 1) := dec_of (decode cX3_copy) da_45 5 rfl
theorem dX3_copy_87 : decode cX3_copy 87 = .ok (.bipush 8, 2) := dec_of (decode cX3_copy) da_45 6 rfl
theorem dX3_copy_89 : decode cX3_copy 89 = .ok (.invokestatic 72, 3) := dec_of (decode cX3_copy) da_45 7 rfl
theorem dX3_copy_92 : decode cX3_copy 92 = .ok (.aload_n 1, 1) := dec_of (decode cX3_copy) da_45 8 rfl
theorem dX3_copy_93 : decode cX3_copy 93 = .ok (.getfield 21, 3) := dec_of (decode cX3_copy) da_45 9 rfl
theorem dX3_copy_96 : decode cX3_copy 96 = .ok (.iconst 0, 1) := dec_of (decode cX3_copy) da_45 10 rfl
theorem dX3_copy_97 : decode cX3_copy 97 = .ok (.aload_n 0, 1) := dec_of (decode cX3_copy) da_45 11 rfl
theorem dX3_copy_98 : decode cX3_copy 98 = .ok (.getfield 21, 3) := dec_of (decode cX3_copy) da_45 12 rfl
theorem dX3_copy_101 : decode cX3_copy 101 = .ok (.iconst 0, 1) := dec_of (decode cX3_copy) da_45 13 rfl
theorem dX3_copy_102 : decode cX3_copy 102 = .ok (.bipush 8, 2) := dec_of (decode cX3_copy) da_45 14 rfl
theorem dX3_copy_104 : decode cX3_copy 104 = .ok (.invokestatic 72, 3) := dec_of (decode cX3_copy) da_45 15 rfl
theorem dX3_copy_107 : decode cX3_copy 107 = .ok (.aload_n 1, 1) := dec_of (decode cX3_copy) da_45 16 rfl
theorem dX3_copy_108 : decode cX3_copy 108 = .ok (.getfield 24, 3) := dec_of (decode cX3_copy) da_45 17 rfl
theorem dX3_copy_111 : decode cX3_copy 111 = .ok (.iconst 0, 1) := dec_of (decode cX3_copy) da_45 18 rfl
theorem dX3_copy_112 : decode cX3_copy 112 = .ok (.aload_n 0, 1) := dec_of (decode cX3_copy) da_45 19 rfl
theorem dX3_copy_113 : decode cX3_copy 113 = .ok (.getfield 24, 3) := dec_of (decode cX3_copy) da_45 20 rfl
theorem dX3_copy_116 : decode cX3_copy 116 = .ok (.iconst 0, 1) := dec_of (decode cX3_copy) da_45 21 rfl
theorem dX3_copy_117 : decode cX3_copy 117 = .ok (.bipush 8, 2) := dec_of (decode cX3_copy) da_45 22 rfl
theorem dX3_copy_119 : decode cX3_copy 119 = .ok (.invokestatic 72, 3) := dec_of (decode cX3_copy) da_45 23 rfl
theorem dX3_copy_122 : decode cX3_copy 122 = .ok (.aload_n 1, 1) := dec_of (decode cX3_copy) da_45 24 rfl
theorem dX3_copy_123 : decode cX3_copy 123 = .ok (.getfield 27, 3) := dec_of (decode cX3_copy) da_45 25 rfl
theorem dX3_copy_126 : decode cX3_copy 126 = .ok (.iconst 0, 1) := dec_of (decode cX3_copy) da_45 26 rfl
theorem dX3_copy_127 : decode cX3_copy 127 = .ok (.aload_n 0, 1) := dec_of (decode cX3_copy) da_45 27 rfl
theorem dX3_copy_128 : decode cX3_copy 128 = .ok (.getfield 27, 3) := dec_of (decode cX3_copy) da_45 28 rfl
theorem dX3_copy_131 : decode cX3_copy 131 = .ok (.iconst 0, 1) := dec_of (decode cX3_copy) da_45 29 rfl
theorem dX3_copy_132 : decode cX3_copy 132 = .ok (.bipush 8, 2) := dec_of (decode cX3_copy) da_45 30 rfl
theorem dX3_copy_134 : decode cX3_copy 134 = .ok (.invokestatic 72, 3) := dec_of (decode cX3_copy) da_45 31 rfl
theorem dX3_copy_137 : decode cX3_copy 137 = .ok (.aload_n 1, 1) := dec_of (decode cX3_copy) da_45 32 rfl
theorem dX3_copy_138 : decode cX3_copy 138 = .ok (.getfield 30, 3) := dec_of (decode cX3_copy) da_45 33 rfl
theorem dX3_copy_141 : decode cX3_copy 141 = .ok (.iconst 0, 1) := dec_of (decode cX3_copy) da_45 34 rfl
theorem dX3_copy_142 : decode cX3_copy 142 = .ok (.aload_n 0, 1) := dec_of (decode cX3_copy) da_45 35 rfl
theorem dX3_copy_143 : decode cX3_copy 143 = .ok (.getfield 30, 3) := dec_of (decode cX3_copy) da_45 36 rfl
theorem dX3_copy_146 : decode cX3_copy 146 = .ok (.iconst 0, 1) := dec_of (decode cX3_copy) da_45 37 rfl
theorem dX3_copy_147 : decode cX3_copy 147 = .ok (.bipush 8, 2) := dec_of (decode cX3_copy) da_45 38 rfl
theorem dX3_copy_149 : decode cX3_copy 149 = .ok (.invokestatic 72, 3) := dec_of (decode cX3_copy) da_45 39 rfl
abbrev dl_46 : List (Nat × Except DecodeError (Instr × Nat)) := [(152, .ok (.aload_n 1, 1)), (153, .ok (.getfield 33, 3)), (156, .ok (.iconst 0, 1)), (157, .ok (.aload_n 0, 1)), (158, .ok (.getfield 33, 3)), (161, .ok (.iconst 0, 1)), (162, .ok (.bipush 8, 2)), (164, .ok (.invokestatic 72, 3)), (167, .ok (.aload_n 1, 1)), (168, .ok (.getfield 36, 3)), (171, .ok (.iconst 0, 1)), (172, .ok (.aload_n 0, 1)), (173, .ok (.getfield 36, 3)), (176, .ok (.iconst 0, 1)), (177, .ok (.bipush 8, 2)), (179, .ok (.invokestatic 72, 3)), (182, .ok (.aload_n 1, 1)), (183, .ok (.getfield 39, 3)), (186, .ok (.iconst 0, 1)), (187, .ok (.aload_n 0, 1)), (188, .ok (.getfield 39, 3)), (191, .ok (.iconst 0, 1)), (192, .ok (.bipush 8, 2)), (194, .ok (.invokestatic 72, 3)), (197, .ok (.aload_n 1, 1)), (198, .ok (.getfield 42, 3)), (201, .ok (.iconst 0, 1)), (202, .ok (.aload_n 0, 1)), (203, .ok (.getfield 42, 3)), (206, .ok (.iconst 0, 1)), (207, .ok (.bipush 8, 2)), (209, .ok (.invokestatic 72, 3)), (212, .ok (.return_, 1))]
theorem da_46 : dl_46.all (fun q => decide (decode cX3_copy q.1 = q.2)) = true := by decide +kernel
theorem dX3_copy_152 : decode cX3_copy 152 = .ok (.aload_n 1, 1) := dec_of (decode cX3_copy) da_46 0 rfl
theorem dX3_copy_153 : decode cX3_copy 153 = .ok (.getfield 33, 3) := dec_of (decode cX3_copy) da_46 1 rfl
theorem dX3_copy_156 : decode cX3_copy 156 = .ok (.iconst 0, 1) := dec_of (decode cX3_copy) da_46 2 rfl
theorem dX3_copy_157 : decode cX3_copy 157 = .ok (.aload_n 0, 1) := dec_of (decode cX3_copy) da_46 3 rfl
theorem dX3_copy_158 : decode cX3_copy 158 = .ok (.getfield 33, 3) := dec_of (decode cX3_copy) da_46 4 rfl
theorem dX3_copy_161 : decode cX3_copy 161 = .ok (.iconst 0, 1) := dec_of (decode cX3_copy) da_46 5 rfl
theorem dX3_copy_162 : decode cX3_copy 162 = .ok (.bipush 8, 2) := dec_of (decode cX3_copy) da_46 6 rfl
theorem dX3_copy_164 : decode cX3_copy 164 = .ok (.invokestatic 72, 3) := dec_of (decode cX3_copy) da_46 7 rfl
theorem dX3_copy_167 : decode cX3_copy 167 = .ok (.aload_n 1, 1) := dec_of (decode cX3_copy) da_46 8 rfl
theorem dX3_copy_168 : decode cX3_copy 168 = .ok (.getfield 36, 3) := dec_of (decode cX3_copy) da_46 9 rfl
theorem dX3_copy_171 : decode cX3_copy 171 = .ok (.iconst 0, 1) := dec_of (decode cX3_copy) da_46 10 rfl
theorem dX3_copy_172 : decode cX3_copy 172 = .ok (.aload_n 0, 1) := dec_of (decode cX3_copy) da_46 11 rfl
theorem dX3_copy_173 : decode cX3_copy 173 = .ok (.getfield 36, 3) := dec_of (decode cX3_copy) da_46 12 rfl
theorem dX3_copy_176 : decode cX3_copy 176 = .ok (.iconst 0, 1) := dec_of (decode cX3_copy) da_46 13 rfl
theorem dX3_copy_177 : decode cX3_copy 177 = .ok (.bipush 8, 2) := dec_of (decode cX3_copy) da_46 14 rfl
theorem dX3_copy_179 : decode cX3_copy 179 = .ok (.invokestatic 72, 3) := dec_of (decode cX3_copy) da_46 15 rfl
theorem dX3_copy_182 : decode cX3_copy 182 = .ok (.aload_n 1, 1) := dec_of (decode cX3_copy) da_46 16 rfl
theorem dX3_copy_183 : decode cX3_copy 183 = .ok (.getfield 39, 3) := dec_of (decode cX3_copy) da_46 17 rfl
theorem dX3_copy_186 : decode cX3_copy 186 = .ok (.iconst 0, 1) := dec_of (decode cX3_copy) da_46 18 rfl
theorem dX3_copy_187 : decode cX3_copy 187 = .ok (.aload_n 0, 1) := dec_of (decode cX3_copy) da_46 19 rfl
theorem dX3_copy_188 : decode cX3_copy 188 = .ok (.getfield 39, 3) := dec_of (decode cX3_copy) da_46 20 rfl
theorem dX3_copy_191 : decode cX3_copy 191 = .ok (.iconst 0, 1) := dec_of (decode cX3_copy) da_46 21 rfl
theorem dX3_copy_192 : decode cX3_copy 192 = .ok (.bipush 8, 2) := dec_of (decode cX3_copy) da_46 22 rfl
theorem dX3_copy_194 : decode cX3_copy 194 = .ok (.invokestatic 72, 3) := dec_of (decode cX3_copy) da_46 23 rfl
theorem dX3_copy_197 : decode cX3_copy 197 = .ok (.aload_n 1, 1) := dec_of (decode cX3_copy) da_46 24 rfl
theorem dX3_copy_198 : decode cX3_copy 198 = .ok (.getfield 42, 3) := dec_of (decode cX3_copy) da_46 25 rfl
theorem dX3_copy_201 : decode cX3_copy 201 = .ok (.iconst 0, 1) := dec_of (decode cX3_copy) da_46 26 rfl
theorem dX3_copy_202 : decode cX3_copy 202 = .ok (.aload_n 0, 1) := dec_of (decode cX3_copy) da_46 27 rfl
theorem dX3_copy_203 : decode cX3_copy 203 = .ok (.getfield 42, 3) := dec_of (decode cX3_copy) da_46 28 rfl
theorem dX3_copy_206 : decode cX3_copy 206 = .ok (.iconst 0, 1) := dec_of (decode cX3_copy) da_46 29 rfl
theorem dX3_copy_207 : decode cX3_copy 207 = .ok (.bipush 8, 2) := dec_of (decode cX3_copy) da_46 30 rfl
theorem dX3_copy_209 : decode cX3_copy 209 = .ok (.invokestatic 72, 3) := dec_of (decode cX3_copy) da_46 31 rfl
theorem dX3_copy_212 : decode cX3_copy 212 = .ok (.return_, 1) := dec_of (decode cX3_copy) da_46 32 rfl
abbrev dl_47 : List (Nat × Except DecodeError (Instr × Nat)) := [(0, .ok (.iload_n 1, 1)), (1, .ok (.ifCond .lt 20, 3)), (4, .ok (.iload_n 1, 1)), (5, .ok (.aload_n 0, 1)), (6, .ok (.getfield 56, 3)), (9, .ok (.if_icmp .ge 12, 3)), (12, .ok (.aload_n 0, 1)), (13, .ok (.getfield 9, 3)), (16, .ok (.iload_n 1, 1)), (17, .ok (.iaload, 1)), (18, .ok (.goto 5, 3)), (21, .ok (.bipush (-2), 2)), (23, .ok (.ireturn, 1))]
theorem da_47 : dl_47.all (fun q => decide (decode cX3_manAt q.1 = q.2)) = true := by decide +kernel
theorem dX3_manAt_0 : decode cX3_manAt 0 = .ok (.iload_n 1, 1) := dec_of (decode cX3_manAt) da_47 0 rfl
theorem dX3_manAt_1 : decode cX3_manAt 1 = .ok (.ifCond .lt 20, 3) := dec_of (decode cX3_manAt) da_47 1 rfl
theorem dX3_manAt_4 : decode cX3_manAt 4 = .ok (.iload_n 1, 1) := dec_of (decode cX3_manAt) da_47 2 rfl
theorem dX3_manAt_5 : decode cX3_manAt 5 = .ok (.aload_n 0, 1) := dec_of (decode cX3_manAt) da_47 3 rfl
theorem dX3_manAt_6 : decode cX3_manAt 6 = .ok (.getfield 56, 3) := dec_of (decode cX3_manAt) da_47 4 rfl
theorem dX3_manAt_9 : decode cX3_manAt 9 = .ok (.if_icmp .ge 12, 3) := dec_of (decode cX3_manAt) da_47 5 rfl
theorem dX3_manAt_12 : decode cX3_manAt 12 = .ok (.aload_n 0, 1) := dec_of (decode cX3_manAt) da_47 6 rfl
theorem dX3_manAt_13 : decode cX3_manAt 13 = .ok (.getfield 9, 3) := dec_of (decode cX3_manAt) da_47 7 rfl
theorem dX3_manAt_16 : decode cX3_manAt 16 = .ok (.iload_n 1, 1) := dec_of (decode cX3_manAt) da_47 8 rfl
theorem dX3_manAt_17 : decode cX3_manAt 17 = .ok (.iaload, 1) := dec_of (decode cX3_manAt) da_47 9 rfl
theorem dX3_manAt_18 : decode cX3_manAt 18 = .ok (.goto 5, 3) := dec_of (decode cX3_manAt) da_47 10 rfl
theorem dX3_manAt_21 : decode cX3_manAt 21 = .ok (.bipush (-2), 2) := dec_of (decode cX3_manAt) da_47 11 rfl
theorem dX3_manAt_23 : decode cX3_manAt 23 = .ok (.ireturn, 1) := dec_of (decode cX3_manAt) da_47 12 rfl
abbrev dl_48 : List (Nat × Except DecodeError (Instr × Nat)) := [(0, .ok (.iconst 0, 1)), (1, .ok (.istore_n 2, 1)), (2, .ok (.iload_n 2, 1)), (3, .ok (.aload_n 0, 1)), (4, .ok (.getfield 56, 3)), (7, .ok (.if_icmp .ge 21, 3)), (10, .ok (.aload_n 0, 1)), (11, .ok (.getfield 9, 3)), (14, .ok (.iload_n 2, 1)), (15, .ok (.iaload, 1)), (16, .ok (.iload_n 1, 1)), (17, .ok (.if_icmp .ne 5, 3)), (20, .ok (.iload_n 2, 1)), (21, .ok (.ireturn, 1)), (22, .ok (.iinc 2 1, 3)), (25, .ok (.goto (-23), 3)), (28, .ok (.iconst (-1), 1)), (29, .ok (.ireturn, 1))]
theorem da_48 : dl_48.all (fun q => decide (decode cX3_placeOf q.1 = q.2)) = true := by decide +kernel
theorem dX3_placeOf_0 : decode cX3_placeOf 0 = .ok (.iconst 0, 1) := dec_of (decode cX3_placeOf) da_48 0 rfl
theorem dX3_placeOf_1 : decode cX3_placeOf 1 = .ok (.istore_n 2, 1) := dec_of (decode cX3_placeOf) da_48 1 rfl
theorem dX3_placeOf_2 : decode cX3_placeOf 2 = .ok (.iload_n 2, 1) := dec_of (decode cX3_placeOf) da_48 2 rfl
theorem dX3_placeOf_3 : decode cX3_placeOf 3 = .ok (.aload_n 0, 1) := dec_of (decode cX3_placeOf) da_48 3 rfl
theorem dX3_placeOf_4 : decode cX3_placeOf 4 = .ok (.getfield 56, 3) := dec_of (decode cX3_placeOf) da_48 4 rfl
theorem dX3_placeOf_7 : decode cX3_placeOf 7 = .ok (.if_icmp .ge 21, 3) := dec_of (decode cX3_placeOf) da_48 5 rfl
theorem dX3_placeOf_10 : decode cX3_placeOf 10 = .ok (.aload_n 0, 1) := dec_of (decode cX3_placeOf) da_48 6 rfl
theorem dX3_placeOf_11 : decode cX3_placeOf 11 = .ok (.getfield 9, 3) := dec_of (decode cX3_placeOf) da_48 7 rfl
theorem dX3_placeOf_14 : decode cX3_placeOf 14 = .ok (.iload_n 2, 1) := dec_of (decode cX3_placeOf) da_48 8 rfl
theorem dX3_placeOf_15 : decode cX3_placeOf 15 = .ok (.iaload, 1) := dec_of (decode cX3_placeOf) da_48 9 rfl
theorem dX3_placeOf_16 : decode cX3_placeOf 16 = .ok (.iload_n 1, 1) := dec_of (decode cX3_placeOf) da_48 10 rfl
theorem dX3_placeOf_17 : decode cX3_placeOf 17 = .ok (.if_icmp .ne 5, 3) := dec_of (decode cX3_placeOf) da_48 11 rfl
theorem dX3_placeOf_20 : decode cX3_placeOf 20 = .ok (.iload_n 2, 1) := dec_of (decode cX3_placeOf) da_48 12 rfl
theorem dX3_placeOf_21 : decode cX3_placeOf 21 = .ok (.ireturn, 1) := dec_of (decode cX3_placeOf) da_48 13 rfl
theorem dX3_placeOf_22 : decode cX3_placeOf 22 = .ok (.iinc 2 1, 3) := dec_of (decode cX3_placeOf) da_48 14 rfl
theorem dX3_placeOf_25 : decode cX3_placeOf 25 = .ok (.goto (-23), 3) := dec_of (decode cX3_placeOf) da_48 15 rfl
theorem dX3_placeOf_28 : decode cX3_placeOf 28 = .ok (.iconst (-1), 1) := dec_of (decode cX3_placeOf) da_48 16 rfl
theorem dX3_placeOf_29 : decode cX3_placeOf 29 = .ok (.ireturn, 1) := dec_of (decode cX3_placeOf) da_48 17 rfl
abbrev dl_49 : List (Nat × Except DecodeError (Instr × Nat)) := [(0, .ok (.aload_n 0, 1)), (1, .ok (.getfield 18, 3)), (4, .ok (.iload_n 1, 1)), (5, .ok (.iaload, 1)), (6, .ok (.lookupswitch 40 #[(0, 26), (1, 28)], 26)), (32, .ok (.iconst 0, 1)), (33, .ok (.ireturn, 1)), (34, .ok (.aload_n 0, 1)), (35, .ok (.getfield 53, 3)), (38, .ok (.aload_n 0, 1)), (39, .ok (.getfield 33, 3)), (42, .ok (.iload_n 1, 1)), (43, .ok (.iaload, 1)), (44, .ok (.isub, 1)), (45, .ok (.ireturn, 1)), (46, .ok (.aload_n 0, 1)), (47, .ok (.getfield 36, 3)), (50, .ok (.iload_n 1, 1)), (51, .ok (.iaload, 1)), (52, .ok (.aload_n 0, 1)), (53, .ok (.getfield 33, 3)), (56, .ok (.iload_n 1, 1)), (57, .ok (.iaload, 1)), (58, .ok (.isub, 1)), (59, .ok (.ireturn, 1))]
theorem da_49 : dl_49.all (fun q => decide (decode cX3_waited q.1 = q.2)) = true := by decide +kernel
theorem dX3_waited_0 : decode cX3_waited 0 = .ok (.aload_n 0, 1) := dec_of (decode cX3_waited) da_49 0 rfl
theorem dX3_waited_1 : decode cX3_waited 1 = .ok (.getfield 18, 3) := dec_of (decode cX3_waited) da_49 1 rfl
theorem dX3_waited_4 : decode cX3_waited 4 = .ok (.iload_n 1, 1) := dec_of (decode cX3_waited) da_49 2 rfl
theorem dX3_waited_5 : decode cX3_waited 5 = .ok (.iaload, 1) := dec_of (decode cX3_waited) da_49 3 rfl
theorem dX3_waited_6 : decode cX3_waited 6 = .ok (.lookupswitch 40 #[(0, 26), (1, 28)], 26) := dec_of (decode cX3_waited) da_49 4 rfl
theorem dX3_waited_32 : decode cX3_waited 32 = .ok (.iconst 0, 1) := dec_of (decode cX3_waited) da_49 5 rfl
theorem dX3_waited_33 : decode cX3_waited 33 = .ok (.ireturn, 1) := dec_of (decode cX3_waited) da_49 6 rfl
theorem dX3_waited_34 : decode cX3_waited 34 = .ok (.aload_n 0, 1) := dec_of (decode cX3_waited) da_49 7 rfl
theorem dX3_waited_35 : decode cX3_waited 35 = .ok (.getfield 53, 3) := dec_of (decode cX3_waited) da_49 8 rfl
theorem dX3_waited_38 : decode cX3_waited 38 = .ok (.aload_n 0, 1) := dec_of (decode cX3_waited) da_49 9 rfl
theorem dX3_waited_39 : decode cX3_waited 39 = .ok (.getfield 33, 3) := dec_of (decode cX3_waited) da_49 10 rfl
theorem dX3_waited_42 : decode cX3_waited 42 = .ok (.iload_n 1, 1) := dec_of (decode cX3_waited) da_49 11 rfl
theorem dX3_waited_43 : decode cX3_waited 43 = .ok (.iaload, 1) := dec_of (decode cX3_waited) da_49 12 rfl
theorem dX3_waited_44 : decode cX3_waited 44 = .ok (.isub, 1) := dec_of (decode cX3_waited) da_49 13 rfl
theorem dX3_waited_45 : decode cX3_waited 45 = .ok (.ireturn, 1) := dec_of (decode cX3_waited) da_49 14 rfl
theorem dX3_waited_46 : decode cX3_waited 46 = .ok (.aload_n 0, 1) := dec_of (decode cX3_waited) da_49 15 rfl
theorem dX3_waited_47 : decode cX3_waited 47 = .ok (.getfield 36, 3) := dec_of (decode cX3_waited) da_49 16 rfl
theorem dX3_waited_50 : decode cX3_waited 50 = .ok (.iload_n 1, 1) := dec_of (decode cX3_waited) da_49 17 rfl
theorem dX3_waited_51 : decode cX3_waited 51 = .ok (.iaload, 1) := dec_of (decode cX3_waited) da_49 18 rfl
theorem dX3_waited_52 : decode cX3_waited 52 = .ok (.aload_n 0, 1) := dec_of (decode cX3_waited) da_49 19 rfl
theorem dX3_waited_53 : decode cX3_waited 53 = .ok (.getfield 33, 3) := dec_of (decode cX3_waited) da_49 20 rfl
theorem dX3_waited_56 : decode cX3_waited 56 = .ok (.iload_n 1, 1) := dec_of (decode cX3_waited) da_49 21 rfl
theorem dX3_waited_57 : decode cX3_waited 57 = .ok (.iaload, 1) := dec_of (decode cX3_waited) da_49 22 rfl
theorem dX3_waited_58 : decode cX3_waited 58 = .ok (.isub, 1) := dec_of (decode cX3_waited) da_49 23 rfl
theorem dX3_waited_59 : decode cX3_waited 59 = .ok (.ireturn, 1) := dec_of (decode cX3_waited) da_49 24 rfl
abbrev dl_50 : List (Nat × Except DecodeError (Instr × Nat)) := [(0, .ok (.iconst 0, 1)), (1, .ok (.istore_n 2, 1)), (2, .ok (.iconst 0, 1)), (3, .ok (.istore_n 3, 1)), (4, .ok (.iload_n 3, 1)), (5, .ok (.aload_n 0, 1)), (6, .ok (.getfield 45, 3)), (9, .ok (.getfield 78, 3)), (12, .ok (.if_icmp .ge 22, 3)), (15, .ok (.aload_n 0, 1)), (16, .ok (.getfield 18, 3)), (19, .ok (.iload_n 3, 1)), (20, .ok (.iaload, 1)), (21, .ok (.iload_n 1, 1)), (22, .ok (.if_icmp .ne 6, 3)), (25, .ok (.iinc 2 1, 3)), (28, .ok (.iinc 3 1, 3)), (31, .ok (.goto (-27), 3)), (34, .ok (.iload_n 2, 1)), (35, .ok (.ireturn, 1))]
theorem da_50 : dl_50.all (fun q => decide (decode cX3_howMany q.1 = q.2)) = true := by decide +kernel
theorem dX3_howMany_0 : decode cX3_howMany 0 = .ok (.iconst 0, 1) := dec_of (decode cX3_howMany) da_50 0 rfl
theorem dX3_howMany_1 : decode cX3_howMany 1 = .ok (.istore_n 2, 1) := dec_of (decode cX3_howMany) da_50 1 rfl
theorem dX3_howMany_2 : decode cX3_howMany 2 = .ok (.iconst 0, 1) := dec_of (decode cX3_howMany) da_50 2 rfl
theorem dX3_howMany_3 : decode cX3_howMany 3 = .ok (.istore_n 3, 1) := dec_of (decode cX3_howMany) da_50 3 rfl
theorem dX3_howMany_4 : decode cX3_howMany 4 = .ok (.iload_n 3, 1) := dec_of (decode cX3_howMany) da_50 4 rfl
theorem dX3_howMany_5 : decode cX3_howMany 5 = .ok (.aload_n 0, 1) := dec_of (decode cX3_howMany) da_50 5 rfl
theorem dX3_howMany_6 : decode cX3_howMany 6 = .ok (.getfield 45, 3) := dec_of (decode cX3_howMany) da_50 6 rfl
theorem dX3_howMany_9 : decode cX3_howMany 9 = .ok (.getfield 78, 3) := dec_of (decode cX3_howMany) da_50 7 rfl
theorem dX3_howMany_12 : decode cX3_howMany 12 = .ok (.if_icmp .ge 22, 3) := dec_of (decode cX3_howMany) da_50 8 rfl
theorem dX3_howMany_15 : decode cX3_howMany 15 = .ok (.aload_n 0, 1) := dec_of (decode cX3_howMany) da_50 9 rfl
theorem dX3_howMany_16 : decode cX3_howMany 16 = .ok (.getfield 18, 3) := dec_of (decode cX3_howMany) da_50 10 rfl
theorem dX3_howMany_19 : decode cX3_howMany 19 = .ok (.iload_n 3, 1) := dec_of (decode cX3_howMany) da_50 11 rfl
theorem dX3_howMany_20 : decode cX3_howMany 20 = .ok (.iaload, 1) := dec_of (decode cX3_howMany) da_50 12 rfl
theorem dX3_howMany_21 : decode cX3_howMany 21 = .ok (.iload_n 1, 1) := dec_of (decode cX3_howMany) da_50 13 rfl
theorem dX3_howMany_22 : decode cX3_howMany 22 = .ok (.if_icmp .ne 6, 3) := dec_of (decode cX3_howMany) da_50 14 rfl
theorem dX3_howMany_25 : decode cX3_howMany 25 = .ok (.iinc 2 1, 3) := dec_of (decode cX3_howMany) da_50 15 rfl
theorem dX3_howMany_28 : decode cX3_howMany 28 = .ok (.iinc 3 1, 3) := dec_of (decode cX3_howMany) da_50 16 rfl
theorem dX3_howMany_31 : decode cX3_howMany 31 = .ok (.goto (-27), 3) := dec_of (decode cX3_howMany) da_50 17 rfl
theorem dX3_howMany_34 : decode cX3_howMany 34 = .ok (.iload_n 2, 1) := dec_of (decode cX3_howMany) da_50 18 rfl
theorem dX3_howMany_35 : decode cX3_howMany 35 = .ok (.ireturn, 1) := dec_of (decode cX3_howMany) da_50 19 rfl
abbrev dl_51 : List (Nat × Except DecodeError (Instr × Nat)) := [(0, .ok (.iconst 0, 1)), (1, .ok (.istore_n 1, 1)), (2, .ok (.iconst 0, 1)), (3, .ok (.istore_n 2, 1)), (4, .ok (.iload_n 2, 1)), (5, .ok (.aload_n 0, 1)), (6, .ok (.getfield 45, 3)), (9, .ok (.getfield 78, 3)), (12, .ok (.if_icmp .ge 18, 3)), (15, .ok (.iload_n 1, 1)), (16, .ok (.aload_n 0, 1)), (17, .ok (.getfield 30, 3)), (20, .ok (.iload_n 2, 1)), (21, .ok (.iaload, 1)), (22, .ok (.iadd, 1)), (23, .ok (.istore_n 1, 1)), (24, .ok (.iinc 2 1, 3)), (27, .ok (.goto (-23), 3)), (30, .ok (.iload_n 1, 1)), (31, .ok (.ireturn, 1))]
theorem da_51 : dl_51.all (fun q => decide (decode cX3_allCoin q.1 = q.2)) = true := by decide +kernel
theorem dX3_allCoin_0 : decode cX3_allCoin 0 = .ok (.iconst 0, 1) := dec_of (decode cX3_allCoin) da_51 0 rfl
theorem dX3_allCoin_1 : decode cX3_allCoin 1 = .ok (.istore_n 1, 1) := dec_of (decode cX3_allCoin) da_51 1 rfl
theorem dX3_allCoin_2 : decode cX3_allCoin 2 = .ok (.iconst 0, 1) := dec_of (decode cX3_allCoin) da_51 2 rfl
theorem dX3_allCoin_3 : decode cX3_allCoin 3 = .ok (.istore_n 2, 1) := dec_of (decode cX3_allCoin) da_51 3 rfl
theorem dX3_allCoin_4 : decode cX3_allCoin 4 = .ok (.iload_n 2, 1) := dec_of (decode cX3_allCoin) da_51 4 rfl
theorem dX3_allCoin_5 : decode cX3_allCoin 5 = .ok (.aload_n 0, 1) := dec_of (decode cX3_allCoin) da_51 5 rfl
theorem dX3_allCoin_6 : decode cX3_allCoin 6 = .ok (.getfield 45, 3) := dec_of (decode cX3_allCoin) da_51 6 rfl
theorem dX3_allCoin_9 : decode cX3_allCoin 9 = .ok (.getfield 78, 3) := dec_of (decode cX3_allCoin) da_51 7 rfl
theorem dX3_allCoin_12 : decode cX3_allCoin 12 = .ok (.if_icmp .ge 18, 3) := dec_of (decode cX3_allCoin) da_51 8 rfl
theorem dX3_allCoin_15 : decode cX3_allCoin 15 = .ok (.iload_n 1, 1) := dec_of (decode cX3_allCoin) da_51 9 rfl
theorem dX3_allCoin_16 : decode cX3_allCoin 16 = .ok (.aload_n 0, 1) := dec_of (decode cX3_allCoin) da_51 10 rfl
theorem dX3_allCoin_17 : decode cX3_allCoin 17 = .ok (.getfield 30, 3) := dec_of (decode cX3_allCoin) da_51 11 rfl
theorem dX3_allCoin_20 : decode cX3_allCoin 20 = .ok (.iload_n 2, 1) := dec_of (decode cX3_allCoin) da_51 12 rfl
theorem dX3_allCoin_21 : decode cX3_allCoin 21 = .ok (.iaload, 1) := dec_of (decode cX3_allCoin) da_51 13 rfl
theorem dX3_allCoin_22 : decode cX3_allCoin 22 = .ok (.iadd, 1) := dec_of (decode cX3_allCoin) da_51 14 rfl
theorem dX3_allCoin_23 : decode cX3_allCoin 23 = .ok (.istore_n 1, 1) := dec_of (decode cX3_allCoin) da_51 15 rfl
theorem dX3_allCoin_24 : decode cX3_allCoin 24 = .ok (.iinc 2 1, 3) := dec_of (decode cX3_allCoin) da_51 16 rfl
theorem dX3_allCoin_27 : decode cX3_allCoin 27 = .ok (.goto (-23), 3) := dec_of (decode cX3_allCoin) da_51 17 rfl
theorem dX3_allCoin_30 : decode cX3_allCoin 30 = .ok (.iload_n 1, 1) := dec_of (decode cX3_allCoin) da_51 18 rfl
theorem dX3_allCoin_31 : decode cX3_allCoin 31 = .ok (.ireturn, 1) := dec_of (decode cX3_allCoin) da_51 19 rfl
abbrev dl_52 : List (Nat × Except DecodeError (Instr × Nat)) := [(0, .ok (.iconst 0, 1)), (1, .ok (.istore_n 1, 1)), (2, .ok (.iconst 0, 1)), (3, .ok (.istore_n 2, 1)), (4, .ok (.iload_n 2, 1)), (5, .ok (.aload_n 0, 1)), (6, .ok (.getfield 45, 3)), (9, .ok (.getfield 78, 3)), (12, .ok (.if_icmp .ge 18, 3)), (15, .ok (.iload_n 1, 1)), (16, .ok (.aload_n 0, 1)), (17, .ok (.getfield 42, 3)), (20, .ok (.iload_n 2, 1)), (21, .ok (.iaload, 1)), (22, .ok (.iadd, 1)), (23, .ok (.istore_n 1, 1)), (24, .ok (.iinc 2 1, 3)), (27, .ok (.goto (-23), 3)), (30, .ok (.iload_n 1, 1)), (31, .ok (.ireturn, 1))]
theorem da_52 : dl_52.all (fun q => decide (decode cX3_allCoughs q.1 = q.2)) = true := by decide +kernel
theorem dX3_allCoughs_0 : decode cX3_allCoughs 0 = .ok (.iconst 0, 1) := dec_of (decode cX3_allCoughs) da_52 0 rfl
theorem dX3_allCoughs_1 : decode cX3_allCoughs 1 = .ok (.istore_n 1, 1) := dec_of (decode cX3_allCoughs) da_52 1 rfl
theorem dX3_allCoughs_2 : decode cX3_allCoughs 2 = .ok (.iconst 0, 1) := dec_of (decode cX3_allCoughs) da_52 2 rfl
theorem dX3_allCoughs_3 : decode cX3_allCoughs 3 = .ok (.istore_n 2, 1) := dec_of (decode cX3_allCoughs) da_52 3 rfl
theorem dX3_allCoughs_4 : decode cX3_allCoughs 4 = .ok (.iload_n 2, 1) := dec_of (decode cX3_allCoughs) da_52 4 rfl
theorem dX3_allCoughs_5 : decode cX3_allCoughs 5 = .ok (.aload_n 0, 1) := dec_of (decode cX3_allCoughs) da_52 5 rfl
theorem dX3_allCoughs_6 : decode cX3_allCoughs 6 = .ok (.getfield 45, 3) := dec_of (decode cX3_allCoughs) da_52 6 rfl
theorem dX3_allCoughs_9 : decode cX3_allCoughs 9 = .ok (.getfield 78, 3) := dec_of (decode cX3_allCoughs) da_52 7 rfl
theorem dX3_allCoughs_12 : decode cX3_allCoughs 12 = .ok (.if_icmp .ge 18, 3) := dec_of (decode cX3_allCoughs) da_52 8 rfl
theorem dX3_allCoughs_15 : decode cX3_allCoughs 15 = .ok (.iload_n 1, 1) := dec_of (decode cX3_allCoughs) da_52 9 rfl
theorem dX3_allCoughs_16 : decode cX3_allCoughs 16 = .ok (.aload_n 0, 1) := dec_of (decode cX3_allCoughs) da_52 10 rfl
theorem dX3_allCoughs_17 : decode cX3_allCoughs 17 = .ok (.getfield 42, 3) := dec_of (decode cX3_allCoughs) da_52 11 rfl
theorem dX3_allCoughs_20 : decode cX3_allCoughs 20 = .ok (.iload_n 2, 1) := dec_of (decode cX3_allCoughs) da_52 12 rfl
theorem dX3_allCoughs_21 : decode cX3_allCoughs 21 = .ok (.iaload, 1) := dec_of (decode cX3_allCoughs) da_52 13 rfl
theorem dX3_allCoughs_22 : decode cX3_allCoughs 22 = .ok (.iadd, 1) := dec_of (decode cX3_allCoughs) da_52 14 rfl
theorem dX3_allCoughs_23 : decode cX3_allCoughs 23 = .ok (.istore_n 1, 1) := dec_of (decode cX3_allCoughs) da_52 15 rfl
theorem dX3_allCoughs_24 : decode cX3_allCoughs 24 = .ok (.iinc 2 1, 3) := dec_of (decode cX3_allCoughs) da_52 16 rfl
theorem dX3_allCoughs_27 : decode cX3_allCoughs 27 = .ok (.goto (-23), 3) := dec_of (decode cX3_allCoughs) da_52 17 rfl
theorem dX3_allCoughs_30 : decode cX3_allCoughs 30 = .ok (.iload_n 1, 1) := dec_of (decode cX3_allCoughs) da_52 18 rfl
theorem dX3_allCoughs_31 : decode cX3_allCoughs 31 = .ok (.ireturn, 1) := dec_of (decode cX3_allCoughs) da_52 19 rfl
abbrev dl_53 : List (Nat × Except DecodeError (Instr × Nat)) := [(0, .ok (.aload_n 0, 1)), (1, .ok (.getfield 56, 3)), (4, .ok (.bipush 8, 2)), (6, .ok (.if_icmp .ge 40, 3)), (9, .ok (.aload_n 0, 1)), (10, .ok (.getfield 9, 3)), (13, .ok (.aload_n 0, 1)), (14, .ok (.getfield 56, 3)), (17, .ok (.iload_n 1, 1)), (18, .ok (.iastore, 1)), (19, .ok (.aload_n 0, 1)), (20, .ok (.dup, 1)), (21, .ok (.getfield 56, 3)), (24, .ok (.iconst 1, 1)), (25, .ok (.iadd, 1)), (26, .ok (.putfield 56, 3)), (29, .ok (.aload_n 0, 1)), (30, .ok (.getfield 18, 3)), (33, .ok (.iload_n 1, 1)), (34, .ok (.iconst 1, 1)), (35, .ok (.iastore, 1)), (36, .ok (.aload_n 0, 1)), (37, .ok (.getfield 33, 3)), (40, .ok (.iload_n 1, 1)), (41, .ok (.aload_n 0, 1)), (42, .ok (.getfield 53, 3)), (45, .ok (.iastore, 1)), (46, .ok (.return_, 1))]
theorem da_53 : dl_53.all (fun q => decide (decode cX3_append q.1 = q.2)) = true := by decide +kernel
theorem dX3_append_0 : decode cX3_append 0 = .ok (.aload_n 0, 1) := dec_of (decode cX3_append) da_53 0 rfl
theorem dX3_append_1 : decode cX3_append 1 = .ok (.getfield 56, 3) := dec_of (decode cX3_append) da_53 1 rfl
theorem dX3_append_4 : decode cX3_append 4 = .ok (.bipush 8, 2) := dec_of (decode cX3_append) da_53 2 rfl
theorem dX3_append_6 : decode cX3_append 6 = .ok (.if_icmp .ge 40, 3) := dec_of (decode cX3_append) da_53 3 rfl
theorem dX3_append_9 : decode cX3_append 9 = .ok (.aload_n 0, 1) := dec_of (decode cX3_append) da_53 4 rfl
theorem dX3_append_10 : decode cX3_append 10 = .ok (.getfield 9, 3) := dec_of (decode cX3_append) da_53 5 rfl
theorem dX3_append_13 : decode cX3_append 13 = .ok (.aload_n 0, 1) := dec_of (decode cX3_append) da_53 6 rfl
theorem dX3_append_14 : decode cX3_append 14 = .ok (.getfield 56, 3) := dec_of (decode cX3_append) da_53 7 rfl
theorem dX3_append_17 : decode cX3_append 17 = .ok (.iload_n 1, 1) := dec_of (decode cX3_append) da_53 8 rfl
theorem dX3_append_18 : decode cX3_append 18 = .ok (.iastore, 1) := dec_of (decode cX3_append) da_53 9 rfl
theorem dX3_append_19 : decode cX3_append 19 = .ok (.aload_n 0, 1) := dec_of (decode cX3_append) da_53 10 rfl
theorem dX3_append_20 : decode cX3_append 20 = .ok (.dup, 1) := dec_of (decode cX3_append) da_53 11 rfl
theorem dX3_append_21 : decode cX3_append 21 = .ok (.getfield 56, 3) := dec_of (decode cX3_append) da_53 12 rfl
theorem dX3_append_24 : decode cX3_append 24 = .ok (.iconst 1, 1) := dec_of (decode cX3_append) da_53 13 rfl
theorem dX3_append_25 : decode cX3_append 25 = .ok (.iadd, 1) := dec_of (decode cX3_append) da_53 14 rfl
theorem dX3_append_26 : decode cX3_append 26 = .ok (.putfield 56, 3) := dec_of (decode cX3_append) da_53 15 rfl
theorem dX3_append_29 : decode cX3_append 29 = .ok (.aload_n 0, 1) := dec_of (decode cX3_append) da_53 16 rfl
theorem dX3_append_30 : decode cX3_append 30 = .ok (.getfield 18, 3) := dec_of (decode cX3_append) da_53 17 rfl
theorem dX3_append_33 : decode cX3_append 33 = .ok (.iload_n 1, 1) := dec_of (decode cX3_append) da_53 18 rfl
theorem dX3_append_34 : decode cX3_append 34 = .ok (.iconst 1, 1) := dec_of (decode cX3_append) da_53 19 rfl
theorem dX3_append_35 : decode cX3_append 35 = .ok (.iastore, 1) := dec_of (decode cX3_append) da_53 20 rfl
theorem dX3_append_36 : decode cX3_append 36 = .ok (.aload_n 0, 1) := dec_of (decode cX3_append) da_53 21 rfl
theorem dX3_append_37 : decode cX3_append 37 = .ok (.getfield 33, 3) := dec_of (decode cX3_append) da_53 22 rfl
theorem dX3_append_40 : decode cX3_append 40 = .ok (.iload_n 1, 1) := dec_of (decode cX3_append) da_53 23 rfl
theorem dX3_append_41 : decode cX3_append 41 = .ok (.aload_n 0, 1) := dec_of (decode cX3_append) da_53 24 rfl
theorem dX3_append_42 : decode cX3_append 42 = .ok (.getfield 53, 3) := dec_of (decode cX3_append) da_53 25 rfl
theorem dX3_append_45 : decode cX3_append 45 = .ok (.iastore, 1) := dec_of (decode cX3_append) da_53 26 rfl
theorem dX3_append_46 : decode cX3_append 46 = .ok (.return_, 1) := dec_of (decode cX3_append) da_53 27 rfl
abbrev dl_54 : List (Nat × Except DecodeError (Instr × Nat)) := [(0, .ok (.aload_n 0, 1)), (1, .ok (.iload_n 1, 1)), (2, .ok (.invokevirtual 99, 3)), (5, .ok (.istore_n 3, 1)), (6, .ok (.iload_n 3, 1)), (7, .ok (.ifCond .ge 4, 3)), (10, .ok (.return_, 1)), (11, .ok (.aload_n 0, 1)), (12, .ok (.dup, 1)), (13, .ok (.getfield 56, 3)), (16, .ok (.iconst 1, 1)), (17, .ok (.isub, 1)), (18, .ok (.putfield 56, 3)), (21, .ok (.iload_n 1, 1)), (22, .ok (.istore 4, 2)), (24, .ok (.iload 4, 2)), (26, .ok (.aload_n 0, 1)), (27, .ok (.getfield 56, 3)), (30, .ok (.if_icmp .ge 25, 3)), (33, .ok (.aload_n 0, 1)), (34, .ok (.getfield 9, 3)), (37, .ok (.iload 4, 2)), (39, .ok (.aload_n 0, 1)), (40, .ok (.getfield 9, 3)), (43, .ok (.iload 4, 2)), (45, .ok (.iconst 1, 1)), (46, .ok (.iadd, 1)), (47, .ok (.iaload, 1)), (48, .ok (.iastore, 1)), (49, .ok (.iinc 4 1, 3)), (52, .ok (.goto (-28), 3)), (55, .ok (.aload_n 0, 1)), (56, .ok (.getfield 18, 3)), (59, .ok (.iload_n 3, 1)), (60, .ok (.iload_n 2, 1)), (61, .ok (.iastore, 1)), (62, .ok (.aload_n 0, 1)), (63, .ok (.getfield 36, 3)), (66, .ok (.iload_n 3, 1)), (67, .ok (.aload_n 0, 1))]
theorem da_54 : dl_54.all (fun q => decide (decode cX3_remove q.1 = q.2)) = true := by decide +kernel
theorem dX3_remove_0 : decode cX3_remove 0 = .ok (.aload_n 0, 1) := dec_of (decode cX3_remove) da_54 0 rfl
theorem dX3_remove_1 : decode cX3_remove 1 = .ok (.iload_n 1, 1) := dec_of (decode cX3_remove) da_54 1 rfl
theorem dX3_remove_2 : decode cX3_remove 2 = .ok (.invokevirtual 99, 3) := dec_of (decode cX3_remove) da_54 2 rfl
theorem dX3_remove_5 : decode cX3_remove 5 = .ok (.istore_n 3, 1) := dec_of (decode cX3_remove) da_54 3 rfl
theorem dX3_remove_6 : decode cX3_remove 6 = .ok (.iload_n 3, 1) := dec_of (decode cX3_remove) da_54 4 rfl
theorem dX3_remove_7 : decode cX3_remove 7 = .ok (.ifCond .ge 4, 3) := dec_of (decode cX3_remove) da_54 5 rfl
theorem dX3_remove_10 : decode cX3_remove 10 = .ok (.return_, 1) := dec_of (decode cX3_remove) da_54 6 rfl
theorem dX3_remove_11 : decode cX3_remove 11 = .ok (.aload_n 0, 1) := dec_of (decode cX3_remove) da_54 7 rfl
theorem dX3_remove_12 : decode cX3_remove 12 = .ok (.dup, 1) := dec_of (decode cX3_remove) da_54 8 rfl
theorem dX3_remove_13 : decode cX3_remove 13 = .ok (.getfield 56, 3) := dec_of (decode cX3_remove) da_54 9 rfl
theorem dX3_remove_16 : decode cX3_remove 16 = .ok (.iconst 1, 1) := dec_of (decode cX3_remove) da_54 10 rfl
theorem dX3_remove_17 : decode cX3_remove 17 = .ok (.isub, 1) := dec_of (decode cX3_remove) da_54 11 rfl
theorem dX3_remove_18 : decode cX3_remove 18 = .ok (.putfield 56, 3) := dec_of (decode cX3_remove) da_54 12 rfl
theorem dX3_remove_21 : decode cX3_remove 21 = .ok (.iload_n 1, 1) := dec_of (decode cX3_remove) da_54 13 rfl
theorem dX3_remove_22 : decode cX3_remove 22 = .ok (.istore 4, 2) := dec_of (decode cX3_remove) da_54 14 rfl
theorem dX3_remove_24 : decode cX3_remove 24 = .ok (.iload 4, 2) := dec_of (decode cX3_remove) da_54 15 rfl
theorem dX3_remove_26 : decode cX3_remove 26 = .ok (.aload_n 0, 1) := dec_of (decode cX3_remove) da_54 16 rfl
theorem dX3_remove_27 : decode cX3_remove 27 = .ok (.getfield 56, 3) := dec_of (decode cX3_remove) da_54 17 rfl
theorem dX3_remove_30 : decode cX3_remove 30 = .ok (.if_icmp .ge 25, 3) := dec_of (decode cX3_remove) da_54 18 rfl
theorem dX3_remove_33 : decode cX3_remove 33 = .ok (.aload_n 0, 1) := dec_of (decode cX3_remove) da_54 19 rfl
theorem dX3_remove_34 : decode cX3_remove 34 = .ok (.getfield 9, 3) := dec_of (decode cX3_remove) da_54 20 rfl
theorem dX3_remove_37 : decode cX3_remove 37 = .ok (.iload 4, 2) := dec_of (decode cX3_remove) da_54 21 rfl
theorem dX3_remove_39 : decode cX3_remove 39 = .ok (.aload_n 0, 1) := dec_of (decode cX3_remove) da_54 22 rfl
theorem dX3_remove_40 : decode cX3_remove 40 = .ok (.getfield 9, 3) := dec_of (decode cX3_remove) da_54 23 rfl
theorem dX3_remove_43 : decode cX3_remove 43 = .ok (.iload 4, 2) := dec_of (decode cX3_remove) da_54 24 rfl
theorem dX3_remove_45 : decode cX3_remove 45 = .ok (.iconst 1, 1) := dec_of (decode cX3_remove) da_54 25 rfl
theorem dX3_remove_46 : decode cX3_remove 46 = .ok (.iadd, 1) := dec_of (decode cX3_remove) da_54 26 rfl
theorem dX3_remove_47 : decode cX3_remove 47 = .ok (.iaload, 1) := dec_of (decode cX3_remove) da_54 27 rfl
theorem dX3_remove_48 : decode cX3_remove 48 = .ok (.iastore, 1) := dec_of (decode cX3_remove) da_54 28 rfl
theorem dX3_remove_49 : decode cX3_remove 49 = .ok (.iinc 4 1, 3) := dec_of (decode cX3_remove) da_54 29 rfl
theorem dX3_remove_52 : decode cX3_remove 52 = .ok (.goto (-28), 3) := dec_of (decode cX3_remove) da_54 30 rfl
theorem dX3_remove_55 : decode cX3_remove 55 = .ok (.aload_n 0, 1) := dec_of (decode cX3_remove) da_54 31 rfl
theorem dX3_remove_56 : decode cX3_remove 56 = .ok (.getfield 18, 3) := dec_of (decode cX3_remove) da_54 32 rfl
theorem dX3_remove_59 : decode cX3_remove 59 = .ok (.iload_n 3, 1) := dec_of (decode cX3_remove) da_54 33 rfl
theorem dX3_remove_60 : decode cX3_remove 60 = .ok (.iload_n 2, 1) := dec_of (decode cX3_remove) da_54 34 rfl
theorem dX3_remove_61 : decode cX3_remove 61 = .ok (.iastore, 1) := dec_of (decode cX3_remove) da_54 35 rfl
theorem dX3_remove_62 : decode cX3_remove 62 = .ok (.aload_n 0, 1) := dec_of (decode cX3_remove) da_54 36 rfl
theorem dX3_remove_63 : decode cX3_remove 63 = .ok (.getfield 36, 3) := dec_of (decode cX3_remove) da_54 37 rfl
theorem dX3_remove_66 : decode cX3_remove 66 = .ok (.iload_n 3, 1) := dec_of (decode cX3_remove) da_54 38 rfl
theorem dX3_remove_67 : decode cX3_remove 67 = .ok (.aload_n 0, 1) := dec_of (decode cX3_remove) da_54 39 rfl
abbrev dl_55 : List (Nat × Except DecodeError (Instr × Nat)) := [(68, .ok (.getfield 53, 3)), (71, .ok (.iastore, 1)), (72, .ok (.aload_n 0, 1)), (73, .ok (.getfield 39, 3)), (76, .ok (.iload_n 3, 1)), (77, .ok (.iconst 0, 1)), (78, .ok (.iastore, 1)), (79, .ok (.aload_n 0, 1)), (80, .ok (.getfield 42, 3)), (83, .ok (.iload_n 3, 1)), (84, .ok (.iconst 0, 1)), (85, .ok (.iastore, 1)), (86, .ok (.return_, 1))]
theorem da_55 : dl_55.all (fun q => decide (decode cX3_remove q.1 = q.2)) = true := by decide +kernel
theorem dX3_remove_68 : decode cX3_remove 68 = .ok (.getfield 53, 3) := dec_of (decode cX3_remove) da_55 0 rfl
theorem dX3_remove_71 : decode cX3_remove 71 = .ok (.iastore, 1) := dec_of (decode cX3_remove) da_55 1 rfl
theorem dX3_remove_72 : decode cX3_remove 72 = .ok (.aload_n 0, 1) := dec_of (decode cX3_remove) da_55 2 rfl
theorem dX3_remove_73 : decode cX3_remove 73 = .ok (.getfield 39, 3) := dec_of (decode cX3_remove) da_55 3 rfl
theorem dX3_remove_76 : decode cX3_remove 76 = .ok (.iload_n 3, 1) := dec_of (decode cX3_remove) da_55 4 rfl
theorem dX3_remove_77 : decode cX3_remove 77 = .ok (.iconst 0, 1) := dec_of (decode cX3_remove) da_55 5 rfl
theorem dX3_remove_78 : decode cX3_remove 78 = .ok (.iastore, 1) := dec_of (decode cX3_remove) da_55 6 rfl
theorem dX3_remove_79 : decode cX3_remove 79 = .ok (.aload_n 0, 1) := dec_of (decode cX3_remove) da_55 7 rfl
theorem dX3_remove_80 : decode cX3_remove 80 = .ok (.getfield 42, 3) := dec_of (decode cX3_remove) da_55 8 rfl
theorem dX3_remove_83 : decode cX3_remove 83 = .ok (.iload_n 3, 1) := dec_of (decode cX3_remove) da_55 9 rfl
theorem dX3_remove_84 : decode cX3_remove 84 = .ok (.iconst 0, 1) := dec_of (decode cX3_remove) da_55 10 rfl
theorem dX3_remove_85 : decode cX3_remove 85 = .ok (.iastore, 1) := dec_of (decode cX3_remove) da_55 11 rfl
theorem dX3_remove_86 : decode cX3_remove 86 = .ok (.return_, 1) := dec_of (decode cX3_remove) da_55 12 rfl
abbrev dl_56 : List (Nat × Except DecodeError (Instr × Nat)) := [(0, .ok (.aload_n 0, 1)), (1, .ok (.iload_n 1, 1)), (2, .ok (.invokevirtual 103, 3)), (5, .ok (.istore_n 3, 1)), (6, .ok (.aload_n 0, 1)), (7, .ok (.iload_n 2, 1)), (8, .ok (.invokevirtual 103, 3)), (11, .ok (.istore 4, 2)), (13, .ok (.iload_n 3, 1)), (14, .ok (.ifCond .lt 23, 3)), (17, .ok (.iload 4, 2)), (19, .ok (.ifCond .lt 18, 3)), (22, .ok (.aload_n 0, 1)), (23, .ok (.getfield 9, 3)), (26, .ok (.iload_n 3, 1)), (27, .ok (.iload_n 2, 1)), (28, .ok (.iastore, 1)), (29, .ok (.aload_n 0, 1)), (30, .ok (.getfield 9, 3)), (33, .ok (.iload 4, 2)), (35, .ok (.iload_n 1, 1)), (36, .ok (.iastore, 1)), (37, .ok (.return_, 1))]
theorem da_56 : dl_56.all (fun q => decide (decode cX3_exchange q.1 = q.2)) = true := by decide +kernel
theorem dX3_exchange_0 : decode cX3_exchange 0 = .ok (.aload_n 0, 1) := dec_of (decode cX3_exchange) da_56 0 rfl
theorem dX3_exchange_1 : decode cX3_exchange 1 = .ok (.iload_n 1, 1) := dec_of (decode cX3_exchange) da_56 1 rfl
theorem dX3_exchange_2 : decode cX3_exchange 2 = .ok (.invokevirtual 103, 3) := dec_of (decode cX3_exchange) da_56 2 rfl
theorem dX3_exchange_5 : decode cX3_exchange 5 = .ok (.istore_n 3, 1) := dec_of (decode cX3_exchange) da_56 3 rfl
theorem dX3_exchange_6 : decode cX3_exchange 6 = .ok (.aload_n 0, 1) := dec_of (decode cX3_exchange) da_56 4 rfl
theorem dX3_exchange_7 : decode cX3_exchange 7 = .ok (.iload_n 2, 1) := dec_of (decode cX3_exchange) da_56 5 rfl
theorem dX3_exchange_8 : decode cX3_exchange 8 = .ok (.invokevirtual 103, 3) := dec_of (decode cX3_exchange) da_56 6 rfl
theorem dX3_exchange_11 : decode cX3_exchange 11 = .ok (.istore 4, 2) := dec_of (decode cX3_exchange) da_56 7 rfl
theorem dX3_exchange_13 : decode cX3_exchange 13 = .ok (.iload_n 3, 1) := dec_of (decode cX3_exchange) da_56 8 rfl
theorem dX3_exchange_14 : decode cX3_exchange 14 = .ok (.ifCond .lt 23, 3) := dec_of (decode cX3_exchange) da_56 9 rfl
theorem dX3_exchange_17 : decode cX3_exchange 17 = .ok (.iload 4, 2) := dec_of (decode cX3_exchange) da_56 10 rfl
theorem dX3_exchange_19 : decode cX3_exchange 19 = .ok (.ifCond .lt 18, 3) := dec_of (decode cX3_exchange) da_56 11 rfl
theorem dX3_exchange_22 : decode cX3_exchange 22 = .ok (.aload_n 0, 1) := dec_of (decode cX3_exchange) da_56 12 rfl
theorem dX3_exchange_23 : decode cX3_exchange 23 = .ok (.getfield 9, 3) := dec_of (decode cX3_exchange) da_56 13 rfl
theorem dX3_exchange_26 : decode cX3_exchange 26 = .ok (.iload_n 3, 1) := dec_of (decode cX3_exchange) da_56 14 rfl
theorem dX3_exchange_27 : decode cX3_exchange 27 = .ok (.iload_n 2, 1) := dec_of (decode cX3_exchange) da_56 15 rfl
theorem dX3_exchange_28 : decode cX3_exchange 28 = .ok (.iastore, 1) := dec_of (decode cX3_exchange) da_56 16 rfl
theorem dX3_exchange_29 : decode cX3_exchange 29 = .ok (.aload_n 0, 1) := dec_of (decode cX3_exchange) da_56 17 rfl
theorem dX3_exchange_30 : decode cX3_exchange 30 = .ok (.getfield 9, 3) := dec_of (decode cX3_exchange) da_56 18 rfl
theorem dX3_exchange_33 : decode cX3_exchange 33 = .ok (.iload 4, 2) := dec_of (decode cX3_exchange) da_56 19 rfl
theorem dX3_exchange_35 : decode cX3_exchange 35 = .ok (.iload_n 1, 1) := dec_of (decode cX3_exchange) da_56 20 rfl
theorem dX3_exchange_36 : decode cX3_exchange 36 = .ok (.iastore, 1) := dec_of (decode cX3_exchange) da_56 21 rfl
theorem dX3_exchange_37 : decode cX3_exchange 37 = .ok (.return_, 1) := dec_of (decode cX3_exchange) da_56 22 rfl
abbrev dl_57 : List (Nat × Except DecodeError (Instr × Nat)) := [(0, .ok (.lload_n 0, 1)), (1, .ok (.ldc2_w 108, 3)), (4, .ok (.lcmp, 1)), (5, .ok (.ifCond .ne 6, 3)), (8, .ok (.iload 4, 2)), (10, .ok (.ireturn, 1)), (11, .ok (.iload_n 2, 1)), (12, .ok (.i2l, 1)), (13, .ok (.iload_n 3, 1)), (14, .ok (.i2l, 1)), (15, .ok (.lload_n 0, 1)), (16, .ok (.invokestatic 110, 3)), (19, .ok (.invokestatic 116, 3)), (22, .ok (.l2i, 1)), (23, .ok (.ireturn, 1))]
theorem da_57 : dl_57.all (fun q => decide (decode cX3_put q.1 = q.2)) = true := by decide +kernel
theorem dX3_put_0 : decode cX3_put 0 = .ok (.lload_n 0, 1) := dec_of (decode cX3_put) da_57 0 rfl
theorem dX3_put_1 : decode cX3_put 1 = .ok (.ldc2_w 108, 3) := dec_of (decode cX3_put) da_57 1 rfl
theorem dX3_put_4 : decode cX3_put 4 = .ok (.lcmp, 1) := dec_of (decode cX3_put) da_57 2 rfl
theorem dX3_put_5 : decode cX3_put 5 = .ok (.ifCond .ne 6, 3) := dec_of (decode cX3_put) da_57 3 rfl
theorem dX3_put_8 : decode cX3_put 8 = .ok (.iload 4, 2) := dec_of (decode cX3_put) da_57 4 rfl
theorem dX3_put_10 : decode cX3_put 10 = .ok (.ireturn, 1) := dec_of (decode cX3_put) da_57 5 rfl
theorem dX3_put_11 : decode cX3_put 11 = .ok (.iload_n 2, 1) := dec_of (decode cX3_put) da_57 6 rfl
theorem dX3_put_12 : decode cX3_put 12 = .ok (.i2l, 1) := dec_of (decode cX3_put) da_57 7 rfl
theorem dX3_put_13 : decode cX3_put 13 = .ok (.iload_n 3, 1) := dec_of (decode cX3_put) da_57 8 rfl
theorem dX3_put_14 : decode cX3_put 14 = .ok (.i2l, 1) := dec_of (decode cX3_put) da_57 9 rfl
theorem dX3_put_15 : decode cX3_put 15 = .ok (.lload_n 0, 1) := dec_of (decode cX3_put) da_57 10 rfl
theorem dX3_put_16 : decode cX3_put 16 = .ok (.invokestatic 110, 3) := dec_of (decode cX3_put) da_57 11 rfl
theorem dX3_put_19 : decode cX3_put 19 = .ok (.invokestatic 116, 3) := dec_of (decode cX3_put) da_57 12 rfl
theorem dX3_put_22 : decode cX3_put 22 = .ok (.l2i, 1) := dec_of (decode cX3_put) da_57 13 rfl
theorem dX3_put_23 : decode cX3_put 23 = .ok (.ireturn, 1) := dec_of (decode cX3_put) da_57 14 rfl
abbrev dl_58 : List (Nat × Except DecodeError (Instr × Nat)) := [(0, .ok (.aload_n 0, 1)), (1, .ok (.getfield 45, 3)), (4, .ok (.getfield 119, 3)), (7, .ok (.iconst 2, 1)), (8, .ok (.aaload, 1)), (9, .ok (.aload_n 0, 1)), (10, .ok (.iconst 0, 1)), (11, .ok (.aload_n 0, 1)), (12, .ok (.getfield 56, 3)), (15, .ok (.invokevirtual 123, 3)), (18, .ok (.iconst 1, 1)), (19, .ok (.bipush 9, 2)), (21, .ok (.aload_n 0, 1)), (22, .ok (.getfield 56, 3)), (25, .ok (.iconst 1, 1)), (26, .ok (.iadd, 1)), (27, .ok (.iconst 2, 1)), (28, .ok (.idiv, 1)), (29, .ok (.invokestatic 127, 3)), (32, .ok (.ireturn, 1))]
theorem da_58 : dl_58.all (fun q => decide (decode cX3_need q.1 = q.2)) = true := by decide +kernel
theorem dX3_need_0 : decode cX3_need 0 = .ok (.aload_n 0, 1) := dec_of (decode cX3_need) da_58 0 rfl
theorem dX3_need_1 : decode cX3_need 1 = .ok (.getfield 45, 3) := dec_of (decode cX3_need) da_58 1 rfl
theorem dX3_need_4 : decode cX3_need 4 = .ok (.getfield 119, 3) := dec_of (decode cX3_need) da_58 2 rfl
theorem dX3_need_7 : decode cX3_need 7 = .ok (.iconst 2, 1) := dec_of (decode cX3_need) da_58 3 rfl
theorem dX3_need_8 : decode cX3_need 8 = .ok (.aaload, 1) := dec_of (decode cX3_need) da_58 4 rfl
theorem dX3_need_9 : decode cX3_need 9 = .ok (.aload_n 0, 1) := dec_of (decode cX3_need) da_58 5 rfl
theorem dX3_need_10 : decode cX3_need 10 = .ok (.iconst 0, 1) := dec_of (decode cX3_need) da_58 6 rfl
theorem dX3_need_11 : decode cX3_need 11 = .ok (.aload_n 0, 1) := dec_of (decode cX3_need) da_58 7 rfl
theorem dX3_need_12 : decode cX3_need 12 = .ok (.getfield 56, 3) := dec_of (decode cX3_need) da_58 8 rfl
theorem dX3_need_15 : decode cX3_need 15 = .ok (.invokevirtual 123, 3) := dec_of (decode cX3_need) da_58 9 rfl
theorem dX3_need_18 : decode cX3_need 18 = .ok (.iconst 1, 1) := dec_of (decode cX3_need) da_58 10 rfl
theorem dX3_need_19 : decode cX3_need 19 = .ok (.bipush 9, 2) := dec_of (decode cX3_need) da_58 11 rfl
theorem dX3_need_21 : decode cX3_need 21 = .ok (.aload_n 0, 1) := dec_of (decode cX3_need) da_58 12 rfl
theorem dX3_need_22 : decode cX3_need 22 = .ok (.getfield 56, 3) := dec_of (decode cX3_need) da_58 13 rfl
theorem dX3_need_25 : decode cX3_need 25 = .ok (.iconst 1, 1) := dec_of (decode cX3_need) da_58 14 rfl
theorem dX3_need_26 : decode cX3_need 26 = .ok (.iadd, 1) := dec_of (decode cX3_need) da_58 15 rfl
theorem dX3_need_27 : decode cX3_need 27 = .ok (.iconst 2, 1) := dec_of (decode cX3_need) da_58 16 rfl
theorem dX3_need_28 : decode cX3_need 28 = .ok (.idiv, 1) := dec_of (decode cX3_need) da_58 17 rfl
theorem dX3_need_29 : decode cX3_need 29 = .ok (.invokestatic 127, 3) := dec_of (decode cX3_need) da_58 18 rfl
theorem dX3_need_32 : decode cX3_need 32 = .ok (.ireturn, 1) := dec_of (decode cX3_need) da_58 19 rfl
abbrev dl_59 : List (Nat × Except DecodeError (Instr × Nat)) := [(0, .ok (.aload_n 0, 1)), (1, .ok (.getfield 56, 3)), (4, .ok (.iconst 1, 1)), (5, .ok (.if_icmp .le 33, 3)), (8, .ok (.aload_n 0, 1)), (9, .ok (.getfield 45, 3)), (12, .ok (.getfield 81, 3)), (15, .ok (.aload_n 0, 1)), (16, .ok (.getfield 9, 3)), (19, .ok (.iconst 1, 1)), (20, .ok (.iaload, 1)), (21, .ok (.aaload, 1)), (22, .ok (.getfield 131, 3)), (25, .ok (.aload_n 0, 1)), (26, .ok (.getfield 9, 3)), (29, .ok (.iconst 0, 1)), (30, .ok (.iaload, 1)), (31, .ok (.if_icmp .ne 7, 3)), (34, .ok (.iconst 1, 1)), (35, .ok (.goto 4, 3)), (38, .ok (.iconst 0, 1)), (39, .ok (.ireturn, 1))]
theorem da_59 : dl_59.all (fun q => decide (decode cX3_isGuarded q.1 = q.2)) = true := by decide +kernel
theorem dX3_isGuarded_0 : decode cX3_isGuarded 0 = .ok (.aload_n 0, 1) := dec_of (decode cX3_isGuarded) da_59 0 rfl
theorem dX3_isGuarded_1 : decode cX3_isGuarded 1 = .ok (.getfield 56, 3) := dec_of (decode cX3_isGuarded) da_59 1 rfl
theorem dX3_isGuarded_4 : decode cX3_isGuarded 4 = .ok (.iconst 1, 1) := dec_of (decode cX3_isGuarded) da_59 2 rfl
theorem dX3_isGuarded_5 : decode cX3_isGuarded 5 = .ok (.if_icmp .le 33, 3) := dec_of (decode cX3_isGuarded) da_59 3 rfl
theorem dX3_isGuarded_8 : decode cX3_isGuarded 8 = .ok (.aload_n 0, 1) := dec_of (decode cX3_isGuarded) da_59 4 rfl
theorem dX3_isGuarded_9 : decode cX3_isGuarded 9 = .ok (.getfield 45, 3) := dec_of (decode cX3_isGuarded) da_59 5 rfl
theorem dX3_isGuarded_12 : decode cX3_isGuarded 12 = .ok (.getfield 81, 3) := dec_of (decode cX3_isGuarded) da_59 6 rfl
theorem dX3_isGuarded_15 : decode cX3_isGuarded 15 = .ok (.aload_n 0, 1) := dec_of (decode cX3_isGuarded) da_59 7 rfl
theorem dX3_isGuarded_16 : decode cX3_isGuarded 16 = .ok (.getfield 9, 3) := dec_of (decode cX3_isGuarded) da_59 8 rfl
theorem dX3_isGuarded_19 : decode cX3_isGuarded 19 = .ok (.iconst 1, 1) := dec_of (decode cX3_isGuarded) da_59 9 rfl
theorem dX3_isGuarded_20 : decode cX3_isGuarded 20 = .ok (.iaload, 1) := dec_of (decode cX3_isGuarded) da_59 10 rfl
theorem dX3_isGuarded_21 : decode cX3_isGuarded 21 = .ok (.aaload, 1) := dec_of (decode cX3_isGuarded) da_59 11 rfl
theorem dX3_isGuarded_22 : decode cX3_isGuarded 22 = .ok (.getfield 131, 3) := dec_of (decode cX3_isGuarded) da_59 12 rfl
theorem dX3_isGuarded_25 : decode cX3_isGuarded 25 = .ok (.aload_n 0, 1) := dec_of (decode cX3_isGuarded) da_59 13 rfl
theorem dX3_isGuarded_26 : decode cX3_isGuarded 26 = .ok (.getfield 9, 3) := dec_of (decode cX3_isGuarded) da_59 14 rfl
theorem dX3_isGuarded_29 : decode cX3_isGuarded 29 = .ok (.iconst 0, 1) := dec_of (decode cX3_isGuarded) da_59 15 rfl
theorem dX3_isGuarded_30 : decode cX3_isGuarded 30 = .ok (.iaload, 1) := dec_of (decode cX3_isGuarded) da_59 16 rfl
theorem dX3_isGuarded_31 : decode cX3_isGuarded 31 = .ok (.if_icmp .ne 7, 3) := dec_of (decode cX3_isGuarded) da_59 17 rfl
theorem dX3_isGuarded_34 : decode cX3_isGuarded 34 = .ok (.iconst 1, 1) := dec_of (decode cX3_isGuarded) da_59 18 rfl
theorem dX3_isGuarded_35 : decode cX3_isGuarded 35 = .ok (.goto 4, 3) := dec_of (decode cX3_isGuarded) da_59 19 rfl
theorem dX3_isGuarded_38 : decode cX3_isGuarded 38 = .ok (.iconst 0, 1) := dec_of (decode cX3_isGuarded) da_59 20 rfl
theorem dX3_isGuarded_39 : decode cX3_isGuarded 39 = .ok (.ireturn, 1) := dec_of (decode cX3_isGuarded) da_59 21 rfl
abbrev dl_60 : List (Nat × Except DecodeError (Instr × Nat)) := [(0, .ok (.aload_n 0, 1)), (1, .ok (.getfield 45, 3)), (4, .ok (.getfield 134, 3)), (7, .ok (.aload_n 0, 1)), (8, .ok (.getfield 56, 3)), (11, .ok (.iconst 1, 1)), (12, .ok (.isub, 1)), (13, .ok (.invokestatic 137, 3)), (16, .ok (.ireturn, 1))]
theorem da_60 : dl_60.all (fun q => decide (decode cX3_lastHeard q.1 = q.2)) = true := by decide +kernel
theorem dX3_lastHeard_0 : decode cX3_lastHeard 0 = .ok (.aload_n 0, 1) := dec_of (decode cX3_lastHeard) da_60 0 rfl
theorem dX3_lastHeard_1 : decode cX3_lastHeard 1 = .ok (.getfield 45, 3) := dec_of (decode cX3_lastHeard) da_60 1 rfl
theorem dX3_lastHeard_4 : decode cX3_lastHeard 4 = .ok (.getfield 134, 3) := dec_of (decode cX3_lastHeard) da_60 2 rfl
theorem dX3_lastHeard_7 : decode cX3_lastHeard 7 = .ok (.aload_n 0, 1) := dec_of (decode cX3_lastHeard) da_60 3 rfl
theorem dX3_lastHeard_8 : decode cX3_lastHeard 8 = .ok (.getfield 56, 3) := dec_of (decode cX3_lastHeard) da_60 4 rfl
theorem dX3_lastHeard_11 : decode cX3_lastHeard 11 = .ok (.iconst 1, 1) := dec_of (decode cX3_lastHeard) da_60 5 rfl
theorem dX3_lastHeard_12 : decode cX3_lastHeard 12 = .ok (.isub, 1) := dec_of (decode cX3_lastHeard) da_60 6 rfl
theorem dX3_lastHeard_13 : decode cX3_lastHeard 13 = .ok (.invokestatic 137, 3) := dec_of (decode cX3_lastHeard) da_60 7 rfl
theorem dX3_lastHeard_16 : decode cX3_lastHeard 16 = .ok (.ireturn, 1) := dec_of (decode cX3_lastHeard) da_60 8 rfl
abbrev dl_61 : List (Nat × Except DecodeError (Instr × Nat)) := [(0, .ok (.aload_n 0, 1)), (1, .ok (.getfield 49, 3)), (4, .ok (.iload_n 1, 1)), (5, .ok (.iand, 1)), (6, .ok (.ifCond .eq 7, 3)), (9, .ok (.iconst 1, 1)), (10, .ok (.goto 4, 3)), (13, .ok (.iconst 0, 1)), (14, .ok (.ireturn, 1))]
theorem da_61 : dl_61.all (fun q => decide (decode cX3_is q.1 = q.2)) = true := by decide +kernel
theorem dX3_is_0 : decode cX3_is 0 = .ok (.aload_n 0, 1) := dec_of (decode cX3_is) da_61 0 rfl
theorem dX3_is_1 : decode cX3_is 1 = .ok (.getfield 49, 3) := dec_of (decode cX3_is) da_61 1 rfl
theorem dX3_is_4 : decode cX3_is 4 = .ok (.iload_n 1, 1) := dec_of (decode cX3_is) da_61 2 rfl
theorem dX3_is_5 : decode cX3_is 5 = .ok (.iand, 1) := dec_of (decode cX3_is) da_61 3 rfl
theorem dX3_is_6 : decode cX3_is 6 = .ok (.ifCond .eq 7, 3) := dec_of (decode cX3_is) da_61 4 rfl
theorem dX3_is_9 : decode cX3_is 9 = .ok (.iconst 1, 1) := dec_of (decode cX3_is) da_61 5 rfl
theorem dX3_is_10 : decode cX3_is 10 = .ok (.goto 4, 3) := dec_of (decode cX3_is) da_61 6 rfl
theorem dX3_is_13 : decode cX3_is 13 = .ok (.iconst 0, 1) := dec_of (decode cX3_is) da_61 7 rfl
theorem dX3_is_14 : decode cX3_is 14 = .ok (.ireturn, 1) := dec_of (decode cX3_is) da_61 8 rfl
abbrev dl_62 : List (Nat × Except DecodeError (Instr × Nat)) := [(0, .ok (.aload_n 0, 1)), (1, .ok (.getfield 53, 3)), (4, .ok (.istore_n 2, 1)), (5, .ok (.iload_n 2, 1)), (6, .ok (.iload_n 1, 1)), (7, .ok (.if_icmp .ge 13, 3)), (10, .ok (.aload_n 0, 1)), (11, .ok (.invokevirtual 140, 3)), (14, .ok (.iinc 2 1, 3)), (17, .ok (.goto (-12), 3)), (20, .ok (.return_, 1))]
theorem da_62 : dl_62.all (fun q => decide (decode cX3_passTo q.1 = q.2)) = true := by decide +kernel
theorem dX3_passTo_0 : decode cX3_passTo 0 = .ok (.aload_n 0, 1) := dec_of (decode cX3_passTo) da_62 0 rfl
theorem dX3_passTo_1 : decode cX3_passTo 1 = .ok (.getfield 53, 3) := dec_of (decode cX3_passTo) da_62 1 rfl
theorem dX3_passTo_4 : decode cX3_passTo 4 = .ok (.istore_n 2, 1) := dec_of (decode cX3_passTo) da_62 2 rfl
theorem dX3_passTo_5 : decode cX3_passTo 5 = .ok (.iload_n 2, 1) := dec_of (decode cX3_passTo) da_62 3 rfl
theorem dX3_passTo_6 : decode cX3_passTo 6 = .ok (.iload_n 1, 1) := dec_of (decode cX3_passTo) da_62 4 rfl
theorem dX3_passTo_7 : decode cX3_passTo 7 = .ok (.if_icmp .ge 13, 3) := dec_of (decode cX3_passTo) da_62 5 rfl
theorem dX3_passTo_10 : decode cX3_passTo 10 = .ok (.aload_n 0, 1) := dec_of (decode cX3_passTo) da_62 6 rfl
theorem dX3_passTo_11 : decode cX3_passTo 11 = .ok (.invokevirtual 140, 3) := dec_of (decode cX3_passTo) da_62 7 rfl
theorem dX3_passTo_14 : decode cX3_passTo 14 = .ok (.iinc 2 1, 3) := dec_of (decode cX3_passTo) da_62 8 rfl
theorem dX3_passTo_17 : decode cX3_passTo 17 = .ok (.goto (-12), 3) := dec_of (decode cX3_passTo) da_62 9 rfl
theorem dX3_passTo_20 : decode cX3_passTo 20 = .ok (.return_, 1) := dec_of (decode cX3_passTo) da_62 10 rfl
abbrev dl_63 : List (Nat × Except DecodeError (Instr × Nat)) := [(0, .ok (.aload_n 0, 1)), (1, .ok (.invokevirtual 143, 3)), (4, .ok (.aload_n 0, 1)), (5, .ok (.invokevirtual 146, 3)), (8, .ok (.aload_n 0, 1)), (9, .ok (.invokevirtual 149, 3)), (12, .ok (.aload_n 0, 1)), (13, .ok (.invokevirtual 152, 3)), (16, .ok (.aload_n 0, 1)), (17, .ok (.invokevirtual 155, 3)), (20, .ok (.aload_n 0, 1)), (21, .ok (.invokevirtual 158, 3)), (24, .ok (.aload_n 0, 1)), (25, .ok (.invokevirtual 161, 3)), (28, .ok (.aload_n 0, 1)), (29, .ok (.dup, 1)), (30, .ok (.getfield 53, 3)), (33, .ok (.iconst 1, 1)), (34, .ok (.iadd, 1)), (35, .ok (.putfield 53, 3)), (38, .ok (.return_, 1))]
theorem da_63 : dl_63.all (fun q => decide (decode cX3_pass q.1 = q.2)) = true := by decide +kernel
theorem dX3_pass_0 : decode cX3_pass 0 = .ok (.aload_n 0, 1) := dec_of (decode cX3_pass) da_63 0 rfl
theorem dX3_pass_1 : decode cX3_pass 1 = .ok (.invokevirtual 143, 3) := dec_of (decode cX3_pass) da_63 1 rfl
theorem dX3_pass_4 : decode cX3_pass 4 = .ok (.aload_n 0, 1) := dec_of (decode cX3_pass) da_63 2 rfl
theorem dX3_pass_5 : decode cX3_pass 5 = .ok (.invokevirtual 146, 3) := dec_of (decode cX3_pass) da_63 3 rfl
theorem dX3_pass_8 : decode cX3_pass 8 = .ok (.aload_n 0, 1) := dec_of (decode cX3_pass) da_63 4 rfl
theorem dX3_pass_9 : decode cX3_pass 9 = .ok (.invokevirtual 149, 3) := dec_of (decode cX3_pass) da_63 5 rfl
theorem dX3_pass_12 : decode cX3_pass 12 = .ok (.aload_n 0, 1) := dec_of (decode cX3_pass) da_63 6 rfl
theorem dX3_pass_13 : decode cX3_pass 13 = .ok (.invokevirtual 152, 3) := dec_of (decode cX3_pass) da_63 7 rfl
theorem dX3_pass_16 : decode cX3_pass 16 = .ok (.aload_n 0, 1) := dec_of (decode cX3_pass) da_63 8 rfl
theorem dX3_pass_17 : decode cX3_pass 17 = .ok (.invokevirtual 155, 3) := dec_of (decode cX3_pass) da_63 9 rfl
theorem dX3_pass_20 : decode cX3_pass 20 = .ok (.aload_n 0, 1) := dec_of (decode cX3_pass) da_63 10 rfl
theorem dX3_pass_21 : decode cX3_pass 21 = .ok (.invokevirtual 158, 3) := dec_of (decode cX3_pass) da_63 11 rfl
theorem dX3_pass_24 : decode cX3_pass 24 = .ok (.aload_n 0, 1) := dec_of (decode cX3_pass) da_63 12 rfl
theorem dX3_pass_25 : decode cX3_pass 25 = .ok (.invokevirtual 161, 3) := dec_of (decode cX3_pass) da_63 13 rfl
theorem dX3_pass_28 : decode cX3_pass 28 = .ok (.aload_n 0, 1) := dec_of (decode cX3_pass) da_63 14 rfl
theorem dX3_pass_29 : decode cX3_pass 29 = .ok (.dup, 1) := dec_of (decode cX3_pass) da_63 15 rfl
theorem dX3_pass_30 : decode cX3_pass 30 = .ok (.getfield 53, 3) := dec_of (decode cX3_pass) da_63 16 rfl
theorem dX3_pass_33 : decode cX3_pass 33 = .ok (.iconst 1, 1) := dec_of (decode cX3_pass) da_63 17 rfl
theorem dX3_pass_34 : decode cX3_pass 34 = .ok (.iadd, 1) := dec_of (decode cX3_pass) da_63 18 rfl
theorem dX3_pass_35 : decode cX3_pass 35 = .ok (.putfield 53, 3) := dec_of (decode cX3_pass) da_63 19 rfl
theorem dX3_pass_38 : decode cX3_pass 38 = .ok (.return_, 1) := dec_of (decode cX3_pass) da_63 20 rfl
abbrev dl_64 : List (Nat × Except DecodeError (Instr × Nat)) := [(0, .ok (.iconst 0, 1)), (1, .ok (.istore_n 1, 1)), (2, .ok (.iload_n 1, 1)), (3, .ok (.aload_n 0, 1)), (4, .ok (.getfield 45, 3)), (7, .ok (.getfield 78, 3)), (10, .ok (.if_icmp .ge 25, 3)), (13, .ok (.aload_n 0, 1)), (14, .ok (.invokevirtual 164, 3)), (17, .ok (.istore_n 2, 1)), (18, .ok (.iload_n 2, 1)), (19, .ok (.iconst (-1), 1)), (20, .ok (.if_icmp .ne 4, 3)), (23, .ok (.return_, 1)), (24, .ok (.aload_n 0, 1)), (25, .ok (.iload_n 2, 1)), (26, .ok (.invokevirtual 168, 3)), (29, .ok (.iinc 1 1, 3)), (32, .ok (.goto (-30), 3)), (35, .ok (.return_, 1))]
theorem da_64 : dl_64.all (fun q => decide (decode cX3_welcome q.1 = q.2)) = true := by decide +kernel
theorem dX3_welcome_0 : decode cX3_welcome 0 = .ok (.iconst 0, 1) := dec_of (decode cX3_welcome) da_64 0 rfl
theorem dX3_welcome_1 : decode cX3_welcome 1 = .ok (.istore_n 1, 1) := dec_of (decode cX3_welcome) da_64 1 rfl
theorem dX3_welcome_2 : decode cX3_welcome 2 = .ok (.iload_n 1, 1) := dec_of (decode cX3_welcome) da_64 2 rfl
theorem dX3_welcome_3 : decode cX3_welcome 3 = .ok (.aload_n 0, 1) := dec_of (decode cX3_welcome) da_64 3 rfl
theorem dX3_welcome_4 : decode cX3_welcome 4 = .ok (.getfield 45, 3) := dec_of (decode cX3_welcome) da_64 4 rfl
theorem dX3_welcome_7 : decode cX3_welcome 7 = .ok (.getfield 78, 3) := dec_of (decode cX3_welcome) da_64 5 rfl
theorem dX3_welcome_10 : decode cX3_welcome 10 = .ok (.if_icmp .ge 25, 3) := dec_of (decode cX3_welcome) da_64 6 rfl
theorem dX3_welcome_13 : decode cX3_welcome 13 = .ok (.aload_n 0, 1) := dec_of (decode cX3_welcome) da_64 7 rfl
theorem dX3_welcome_14 : decode cX3_welcome 14 = .ok (.invokevirtual 164, 3) := dec_of (decode cX3_welcome) da_64 8 rfl
theorem dX3_welcome_17 : decode cX3_welcome 17 = .ok (.istore_n 2, 1) := dec_of (decode cX3_welcome) da_64 9 rfl
theorem dX3_welcome_18 : decode cX3_welcome 18 = .ok (.iload_n 2, 1) := dec_of (decode cX3_welcome) da_64 10 rfl
theorem dX3_welcome_19 : decode cX3_welcome 19 = .ok (.iconst (-1), 1) := dec_of (decode cX3_welcome) da_64 11 rfl
theorem dX3_welcome_20 : decode cX3_welcome 20 = .ok (.if_icmp .ne 4, 3) := dec_of (decode cX3_welcome) da_64 12 rfl
theorem dX3_welcome_23 : decode cX3_welcome 23 = .ok (.return_, 1) := dec_of (decode cX3_welcome) da_64 13 rfl
theorem dX3_welcome_24 : decode cX3_welcome 24 = .ok (.aload_n 0, 1) := dec_of (decode cX3_welcome) da_64 14 rfl
theorem dX3_welcome_25 : decode cX3_welcome 25 = .ok (.iload_n 2, 1) := dec_of (decode cX3_welcome) da_64 15 rfl
theorem dX3_welcome_26 : decode cX3_welcome 26 = .ok (.invokevirtual 168, 3) := dec_of (decode cX3_welcome) da_64 16 rfl
theorem dX3_welcome_29 : decode cX3_welcome 29 = .ok (.iinc 1 1, 3) := dec_of (decode cX3_welcome) da_64 17 rfl
theorem dX3_welcome_32 : decode cX3_welcome 32 = .ok (.goto (-30), 3) := dec_of (decode cX3_welcome) da_64 18 rfl
theorem dX3_welcome_35 : decode cX3_welcome 35 = .ok (.return_, 1) := dec_of (decode cX3_welcome) da_64 19 rfl
abbrev dl_65 : List (Nat × Except DecodeError (Instr × Nat)) := [(0, .ok (.iconst (-1), 1)), (1, .ok (.istore_n 1, 1)), (2, .ok (.iconst 0, 1)), (3, .ok (.istore_n 2, 1)), (4, .ok (.iload_n 2, 1)), (5, .ok (.aload_n 0, 1)), (6, .ok (.getfield 45, 3)), (9, .ok (.getfield 78, 3)), (12, .ok (.if_icmp .ge 62, 3)), (15, .ok (.aload_n 0, 1)), (16, .ok (.getfield 18, 3)), (19, .ok (.iload_n 2, 1)), (20, .ok (.iaload, 1)), (21, .ok (.ifCond .ne 47, 3)), (24, .ok (.aload_n 0, 1)), (25, .ok (.getfield 21, 3)), (28, .ok (.iload_n 2, 1)), (29, .ok (.iaload, 1)), (30, .ok (.aload_n 0, 1)), (31, .ok (.getfield 53, 3)), (34, .ok (.if_icmp .ne 34, 3)), (37, .ok (.iload_n 1, 1)), (38, .ok (.iconst (-1), 1)), (39, .ok (.if_icmp .eq 27, 3)), (42, .ok (.aload_n 0, 1)), (43, .ok (.getfield 45, 3)), (46, .ok (.getfield 81, 3)), (49, .ok (.iload_n 2, 1)), (50, .ok (.aaload, 1)), (51, .ok (.aload_n 0, 1)), (52, .ok (.getfield 45, 3)), (55, .ok (.getfield 81, 3)), (58, .ok (.iload_n 1, 1)), (59, .ok (.aaload, 1)), (60, .ok (.invokestatic 172, 3)), (63, .ok (.ifCond .eq 5, 3)), (66, .ok (.iload_n 2, 1)), (67, .ok (.istore_n 1, 1)), (68, .ok (.iinc 2 1, 3)), (71, .ok (.goto (-67), 3))]
theorem da_65 : dl_65.all (fun q => decide (decode cX3_nextToJoin q.1 = q.2)) = true := by decide +kernel
theorem dX3_nextToJoin_0 : decode cX3_nextToJoin 0 = .ok (.iconst (-1), 1) := dec_of (decode cX3_nextToJoin) da_65 0 rfl
theorem dX3_nextToJoin_1 : decode cX3_nextToJoin 1 = .ok (.istore_n 1, 1) := dec_of (decode cX3_nextToJoin) da_65 1 rfl
theorem dX3_nextToJoin_2 : decode cX3_nextToJoin 2 = .ok (.iconst 0, 1) := dec_of (decode cX3_nextToJoin) da_65 2 rfl
theorem dX3_nextToJoin_3 : decode cX3_nextToJoin 3 = .ok (.istore_n 2, 1) := dec_of (decode cX3_nextToJoin) da_65 3 rfl
theorem dX3_nextToJoin_4 : decode cX3_nextToJoin 4 = .ok (.iload_n 2, 1) := dec_of (decode cX3_nextToJoin) da_65 4 rfl
theorem dX3_nextToJoin_5 : decode cX3_nextToJoin 5 = .ok (.aload_n 0, 1) := dec_of (decode cX3_nextToJoin) da_65 5 rfl
theorem dX3_nextToJoin_6 : decode cX3_nextToJoin 6 = .ok (.getfield 45, 3) := dec_of (decode cX3_nextToJoin) da_65 6 rfl
theorem dX3_nextToJoin_9 : decode cX3_nextToJoin 9 = .ok (.getfield 78, 3) := dec_of (decode cX3_nextToJoin) da_65 7 rfl
theorem dX3_nextToJoin_12 : decode cX3_nextToJoin 12 = .ok (.if_icmp .ge 62, 3) := dec_of (decode cX3_nextToJoin) da_65 8 rfl
theorem dX3_nextToJoin_15 : decode cX3_nextToJoin 15 = .ok (.aload_n 0, 1) := dec_of (decode cX3_nextToJoin) da_65 9 rfl
theorem dX3_nextToJoin_16 : decode cX3_nextToJoin 16 = .ok (.getfield 18, 3) := dec_of (decode cX3_nextToJoin) da_65 10 rfl
theorem dX3_nextToJoin_19 : decode cX3_nextToJoin 19 = .ok (.iload_n 2, 1) := dec_of (decode cX3_nextToJoin) da_65 11 rfl
theorem dX3_nextToJoin_20 : decode cX3_nextToJoin 20 = .ok (.iaload, 1) := dec_of (decode cX3_nextToJoin) da_65 12 rfl
theorem dX3_nextToJoin_21 : decode cX3_nextToJoin 21 = .ok (.ifCond .ne 47, 3) := dec_of (decode cX3_nextToJoin) da_65 13 rfl
theorem dX3_nextToJoin_24 : decode cX3_nextToJoin 24 = .ok (.aload_n 0, 1) := dec_of (decode cX3_nextToJoin) da_65 14 rfl
theorem dX3_nextToJoin_25 : decode cX3_nextToJoin 25 = .ok (.getfield 21, 3) := dec_of (decode cX3_nextToJoin) da_65 15 rfl
theorem dX3_nextToJoin_28 : decode cX3_nextToJoin 28 = .ok (.iload_n 2, 1) := dec_of (decode cX3_nextToJoin) da_65 16 rfl
theorem dX3_nextToJoin_29 : decode cX3_nextToJoin 29 = .ok (.iaload, 1) := dec_of (decode cX3_nextToJoin) da_65 17 rfl
theorem dX3_nextToJoin_30 : decode cX3_nextToJoin 30 = .ok (.aload_n 0, 1) := dec_of (decode cX3_nextToJoin) da_65 18 rfl
theorem dX3_nextToJoin_31 : decode cX3_nextToJoin 31 = .ok (.getfield 53, 3) := dec_of (decode cX3_nextToJoin) da_65 19 rfl
theorem dX3_nextToJoin_34 : decode cX3_nextToJoin 34 = .ok (.if_icmp .ne 34, 3) := dec_of (decode cX3_nextToJoin) da_65 20 rfl
theorem dX3_nextToJoin_37 : decode cX3_nextToJoin 37 = .ok (.iload_n 1, 1) := dec_of (decode cX3_nextToJoin) da_65 21 rfl
theorem dX3_nextToJoin_38 : decode cX3_nextToJoin 38 = .ok (.iconst (-1), 1) := dec_of (decode cX3_nextToJoin) da_65 22 rfl
theorem dX3_nextToJoin_39 : decode cX3_nextToJoin 39 = .ok (.if_icmp .eq 27, 3) := dec_of (decode cX3_nextToJoin) da_65 23 rfl
theorem dX3_nextToJoin_42 : decode cX3_nextToJoin 42 = .ok (.aload_n 0, 1) := dec_of (decode cX3_nextToJoin) da_65 24 rfl
theorem dX3_nextToJoin_43 : decode cX3_nextToJoin 43 = .ok (.getfield 45, 3) := dec_of (decode cX3_nextToJoin) da_65 25 rfl
theorem dX3_nextToJoin_46 : decode cX3_nextToJoin 46 = .ok (.getfield 81, 3) := dec_of (decode cX3_nextToJoin) da_65 26 rfl
theorem dX3_nextToJoin_49 : decode cX3_nextToJoin 49 = .ok (.iload_n 2, 1) := dec_of (decode cX3_nextToJoin) da_65 27 rfl
theorem dX3_nextToJoin_50 : decode cX3_nextToJoin 50 = .ok (.aaload, 1) := dec_of (decode cX3_nextToJoin) da_65 28 rfl
theorem dX3_nextToJoin_51 : decode cX3_nextToJoin 51 = .ok (.aload_n 0, 1) := dec_of (decode cX3_nextToJoin) da_65 29 rfl
theorem dX3_nextToJoin_52 : decode cX3_nextToJoin 52 = .ok (.getfield 45, 3) := dec_of (decode cX3_nextToJoin) da_65 30 rfl
theorem dX3_nextToJoin_55 : decode cX3_nextToJoin 55 = .ok (.getfield 81, 3) := dec_of (decode cX3_nextToJoin) da_65 31 rfl
theorem dX3_nextToJoin_58 : decode cX3_nextToJoin 58 = .ok (.iload_n 1, 1) := dec_of (decode cX3_nextToJoin) da_65 32 rfl
theorem dX3_nextToJoin_59 : decode cX3_nextToJoin 59 = .ok (.aaload, 1) := dec_of (decode cX3_nextToJoin) da_65 33 rfl
theorem dX3_nextToJoin_60 : decode cX3_nextToJoin 60 = .ok (.invokestatic 172, 3) := dec_of (decode cX3_nextToJoin) da_65 34 rfl
theorem dX3_nextToJoin_63 : decode cX3_nextToJoin 63 = .ok (.ifCond .eq 5, 3) := dec_of (decode cX3_nextToJoin) da_65 35 rfl
theorem dX3_nextToJoin_66 : decode cX3_nextToJoin 66 = .ok (.iload_n 2, 1) := dec_of (decode cX3_nextToJoin) da_65 36 rfl
theorem dX3_nextToJoin_67 : decode cX3_nextToJoin 67 = .ok (.istore_n 1, 1) := dec_of (decode cX3_nextToJoin) da_65 37 rfl
theorem dX3_nextToJoin_68 : decode cX3_nextToJoin 68 = .ok (.iinc 2 1, 3) := dec_of (decode cX3_nextToJoin) da_65 38 rfl
theorem dX3_nextToJoin_71 : decode cX3_nextToJoin 71 = .ok (.goto (-67), 3) := dec_of (decode cX3_nextToJoin) da_65 39 rfl
abbrev dl_66 : List (Nat × Except DecodeError (Instr × Nat)) := [(74, .ok (.iload_n 1, 1)), (75, .ok (.ireturn, 1))]
theorem da_66 : dl_66.all (fun q => decide (decode cX3_nextToJoin q.1 = q.2)) = true := by decide +kernel
theorem dX3_nextToJoin_74 : decode cX3_nextToJoin 74 = .ok (.iload_n 1, 1) := dec_of (decode cX3_nextToJoin) da_66 0 rfl
theorem dX3_nextToJoin_75 : decode cX3_nextToJoin 75 = .ok (.ireturn, 1) := dec_of (decode cX3_nextToJoin) da_66 1 rfl
abbrev dl_67 : List (Nat × Except DecodeError (Instr × Nat)) := [(0, .ok (.aload_n 0, 1)), (1, .ok (.getfield 176, 3)), (4, .ok (.aload_n 1, 1)), (5, .ok (.getfield 176, 3)), (8, .ok (.if_icmp .lt 25, 3)), (11, .ok (.aload_n 0, 1)), (12, .ok (.getfield 176, 3)), (15, .ok (.aload_n 1, 1)), (16, .ok (.getfield 176, 3)), (19, .ok (.if_icmp .ne 18, 3)), (22, .ok (.aload_n 0, 1)), (23, .ok (.getfield 179, 3)), (26, .ok (.aload_n 1, 1)), (27, .ok (.getfield 179, 3)), (30, .ok (.if_icmp .le 7, 3)), (33, .ok (.iconst 1, 1)), (34, .ok (.goto 4, 3)), (37, .ok (.iconst 0, 1)), (38, .ok (.ireturn, 1))]
theorem da_67 : dl_67.all (fun q => decide (decode cX3_joinsAhead q.1 = q.2)) = true := by decide +kernel
theorem dX3_joinsAhead_0 : decode cX3_joinsAhead 0 = .ok (.aload_n 0, 1) := dec_of (decode cX3_joinsAhead) da_67 0 rfl
theorem dX3_joinsAhead_1 : decode cX3_joinsAhead 1 = .ok (.getfield 176, 3) := dec_of (decode cX3_joinsAhead) da_67 1 rfl
theorem dX3_joinsAhead_4 : decode cX3_joinsAhead 4 = .ok (.aload_n 1, 1) := dec_of (decode cX3_joinsAhead) da_67 2 rfl
theorem dX3_joinsAhead_5 : decode cX3_joinsAhead 5 = .ok (.getfield 176, 3) := dec_of (decode cX3_joinsAhead) da_67 3 rfl
theorem dX3_joinsAhead_8 : decode cX3_joinsAhead 8 = .ok (.if_icmp .lt 25, 3) := dec_of (decode cX3_joinsAhead) da_67 4 rfl
theorem dX3_joinsAhead_11 : decode cX3_joinsAhead 11 = .ok (.aload_n 0, 1) := dec_of (decode cX3_joinsAhead) da_67 5 rfl
theorem dX3_joinsAhead_12 : decode cX3_joinsAhead 12 = .ok (.getfield 176, 3) := dec_of (decode cX3_joinsAhead) da_67 6 rfl
theorem dX3_joinsAhead_15 : decode cX3_joinsAhead 15 = .ok (.aload_n 1, 1) := dec_of (decode cX3_joinsAhead) da_67 7 rfl
theorem dX3_joinsAhead_16 : decode cX3_joinsAhead 16 = .ok (.getfield 176, 3) := dec_of (decode cX3_joinsAhead) da_67 8 rfl
theorem dX3_joinsAhead_19 : decode cX3_joinsAhead 19 = .ok (.if_icmp .ne 18, 3) := dec_of (decode cX3_joinsAhead) da_67 9 rfl
theorem dX3_joinsAhead_22 : decode cX3_joinsAhead 22 = .ok (.aload_n 0, 1) := dec_of (decode cX3_joinsAhead) da_67 10 rfl
theorem dX3_joinsAhead_23 : decode cX3_joinsAhead 23 = .ok (.getfield 179, 3) := dec_of (decode cX3_joinsAhead) da_67 11 rfl
theorem dX3_joinsAhead_26 : decode cX3_joinsAhead 26 = .ok (.aload_n 1, 1) := dec_of (decode cX3_joinsAhead) da_67 12 rfl
theorem dX3_joinsAhead_27 : decode cX3_joinsAhead 27 = .ok (.getfield 179, 3) := dec_of (decode cX3_joinsAhead) da_67 13 rfl
theorem dX3_joinsAhead_30 : decode cX3_joinsAhead 30 = .ok (.if_icmp .le 7, 3) := dec_of (decode cX3_joinsAhead) da_67 14 rfl
theorem dX3_joinsAhead_33 : decode cX3_joinsAhead 33 = .ok (.iconst 1, 1) := dec_of (decode cX3_joinsAhead) da_67 15 rfl
theorem dX3_joinsAhead_34 : decode cX3_joinsAhead 34 = .ok (.goto 4, 3) := dec_of (decode cX3_joinsAhead) da_67 16 rfl
theorem dX3_joinsAhead_37 : decode cX3_joinsAhead 37 = .ok (.iconst 0, 1) := dec_of (decode cX3_joinsAhead) da_67 17 rfl
theorem dX3_joinsAhead_38 : decode cX3_joinsAhead 38 = .ok (.ireturn, 1) := dec_of (decode cX3_joinsAhead) da_67 18 rfl
abbrev dl_68 : List (Nat × Except DecodeError (Instr × Nat)) := [(0, .ok (.aload_n 0, 1)), (1, .ok (.iconst 1, 1)), (2, .ok (.invokevirtual 182, 3)), (5, .ok (.ifCond .eq 4, 3)), (8, .ok (.return_, 1)), (9, .ok (.iconst 0, 1)), (10, .ok (.istore_n 1, 1)), (11, .ok (.aload_n 0, 1)), (12, .ok (.invokevirtual 186, 3)), (15, .ok (.istore_n 2, 1)), (16, .ok (.iconst 1, 1)), (17, .ok (.istore_n 3, 1)), (18, .ok (.iload_n 3, 1)), (19, .ok (.iload_n 2, 1)), (20, .ok (.if_icmp .gt 23, 3)), (23, .ok (.iload_n 1, 1)), (24, .ok (.aload_n 0, 1)), (25, .ok (.getfield 42, 3)), (28, .ok (.aload_n 0, 1)), (29, .ok (.getfield 9, 3)), (32, .ok (.iload_n 3, 1)), (33, .ok (.iaload, 1)), (34, .ok (.iaload, 1)), (35, .ok (.iadd, 1)), (36, .ok (.istore_n 1, 1)), (37, .ok (.iinc 3 1, 3)), (40, .ok (.goto (-22), 3)), (43, .ok (.iload_n 1, 1)), (44, .ok (.ifCond .le 24, 3)), (47, .ok (.iload_n 1, 1)), (48, .ok (.aload_n 0, 1)), (49, .ok (.invokevirtual 189, 3)), (52, .ok (.if_icmp .lt 16, 3)), (55, .ok (.aload_n 0, 1)), (56, .ok (.invokevirtual 192, 3)), (59, .ok (.ifCond .ne 9, 3)), (62, .ok (.aload_n 0, 1)), (63, .ok (.iconst 0, 1)), (64, .ok (.iconst 3, 1)), (65, .ok (.invokevirtual 196, 3))]
theorem da_68 : dl_68.all (fun q => decide (decode cX3_hearCoughs q.1 = q.2)) = true := by decide +kernel
theorem dX3_hearCoughs_0 : decode cX3_hearCoughs 0 = .ok (.aload_n 0, 1) := dec_of (decode cX3_hearCoughs) da_68 0 rfl
theorem dX3_hearCoughs_1 : decode cX3_hearCoughs 1 = .ok (.iconst 1, 1) := dec_of (decode cX3_hearCoughs) da_68 1 rfl
theorem dX3_hearCoughs_2 : decode cX3_hearCoughs 2 = .ok (.invokevirtual 182, 3) := dec_of (decode cX3_hearCoughs) da_68 2 rfl
theorem dX3_hearCoughs_5 : decode cX3_hearCoughs 5 = .ok (.ifCond .eq 4, 3) := dec_of (decode cX3_hearCoughs) da_68 3 rfl
theorem dX3_hearCoughs_8 : decode cX3_hearCoughs 8 = .ok (.return_, 1) := dec_of (decode cX3_hearCoughs) da_68 4 rfl
theorem dX3_hearCoughs_9 : decode cX3_hearCoughs 9 = .ok (.iconst 0, 1) := dec_of (decode cX3_hearCoughs) da_68 5 rfl
theorem dX3_hearCoughs_10 : decode cX3_hearCoughs 10 = .ok (.istore_n 1, 1) := dec_of (decode cX3_hearCoughs) da_68 6 rfl
theorem dX3_hearCoughs_11 : decode cX3_hearCoughs 11 = .ok (.aload_n 0, 1) := dec_of (decode cX3_hearCoughs) da_68 7 rfl
theorem dX3_hearCoughs_12 : decode cX3_hearCoughs 12 = .ok (.invokevirtual 186, 3) := dec_of (decode cX3_hearCoughs) da_68 8 rfl
theorem dX3_hearCoughs_15 : decode cX3_hearCoughs 15 = .ok (.istore_n 2, 1) := dec_of (decode cX3_hearCoughs) da_68 9 rfl
theorem dX3_hearCoughs_16 : decode cX3_hearCoughs 16 = .ok (.iconst 1, 1) := dec_of (decode cX3_hearCoughs) da_68 10 rfl
theorem dX3_hearCoughs_17 : decode cX3_hearCoughs 17 = .ok (.istore_n 3, 1) := dec_of (decode cX3_hearCoughs) da_68 11 rfl
theorem dX3_hearCoughs_18 : decode cX3_hearCoughs 18 = .ok (.iload_n 3, 1) := dec_of (decode cX3_hearCoughs) da_68 12 rfl
theorem dX3_hearCoughs_19 : decode cX3_hearCoughs 19 = .ok (.iload_n 2, 1) := dec_of (decode cX3_hearCoughs) da_68 13 rfl
theorem dX3_hearCoughs_20 : decode cX3_hearCoughs 20 = .ok (.if_icmp .gt 23, 3) := dec_of (decode cX3_hearCoughs) da_68 14 rfl
theorem dX3_hearCoughs_23 : decode cX3_hearCoughs 23 = .ok (.iload_n 1, 1) := dec_of (decode cX3_hearCoughs) da_68 15 rfl
theorem dX3_hearCoughs_24 : decode cX3_hearCoughs 24 = .ok (.aload_n 0, 1) := dec_of (decode cX3_hearCoughs) da_68 16 rfl
theorem dX3_hearCoughs_25 : decode cX3_hearCoughs 25 = .ok (.getfield 42, 3) := dec_of (decode cX3_hearCoughs) da_68 17 rfl
theorem dX3_hearCoughs_28 : decode cX3_hearCoughs 28 = .ok (.aload_n 0, 1) := dec_of (decode cX3_hearCoughs) da_68 18 rfl
theorem dX3_hearCoughs_29 : decode cX3_hearCoughs 29 = .ok (.getfield 9, 3) := dec_of (decode cX3_hearCoughs) da_68 19 rfl
theorem dX3_hearCoughs_32 : decode cX3_hearCoughs 32 = .ok (.iload_n 3, 1) := dec_of (decode cX3_hearCoughs) da_68 20 rfl
theorem dX3_hearCoughs_33 : decode cX3_hearCoughs 33 = .ok (.iaload, 1) := dec_of (decode cX3_hearCoughs) da_68 21 rfl
theorem dX3_hearCoughs_34 : decode cX3_hearCoughs 34 = .ok (.iaload, 1) := dec_of (decode cX3_hearCoughs) da_68 22 rfl
theorem dX3_hearCoughs_35 : decode cX3_hearCoughs 35 = .ok (.iadd, 1) := dec_of (decode cX3_hearCoughs) da_68 23 rfl
theorem dX3_hearCoughs_36 : decode cX3_hearCoughs 36 = .ok (.istore_n 1, 1) := dec_of (decode cX3_hearCoughs) da_68 24 rfl
theorem dX3_hearCoughs_37 : decode cX3_hearCoughs 37 = .ok (.iinc 3 1, 3) := dec_of (decode cX3_hearCoughs) da_68 25 rfl
theorem dX3_hearCoughs_40 : decode cX3_hearCoughs 40 = .ok (.goto (-22), 3) := dec_of (decode cX3_hearCoughs) da_68 26 rfl
theorem dX3_hearCoughs_43 : decode cX3_hearCoughs 43 = .ok (.iload_n 1, 1) := dec_of (decode cX3_hearCoughs) da_68 27 rfl
theorem dX3_hearCoughs_44 : decode cX3_hearCoughs 44 = .ok (.ifCond .le 24, 3) := dec_of (decode cX3_hearCoughs) da_68 28 rfl
theorem dX3_hearCoughs_47 : decode cX3_hearCoughs 47 = .ok (.iload_n 1, 1) := dec_of (decode cX3_hearCoughs) da_68 29 rfl
theorem dX3_hearCoughs_48 : decode cX3_hearCoughs 48 = .ok (.aload_n 0, 1) := dec_of (decode cX3_hearCoughs) da_68 30 rfl
theorem dX3_hearCoughs_49 : decode cX3_hearCoughs 49 = .ok (.invokevirtual 189, 3) := dec_of (decode cX3_hearCoughs) da_68 31 rfl
theorem dX3_hearCoughs_52 : decode cX3_hearCoughs 52 = .ok (.if_icmp .lt 16, 3) := dec_of (decode cX3_hearCoughs) da_68 32 rfl
theorem dX3_hearCoughs_55 : decode cX3_hearCoughs 55 = .ok (.aload_n 0, 1) := dec_of (decode cX3_hearCoughs) da_68 33 rfl
theorem dX3_hearCoughs_56 : decode cX3_hearCoughs 56 = .ok (.invokevirtual 192, 3) := dec_of (decode cX3_hearCoughs) da_68 34 rfl
theorem dX3_hearCoughs_59 : decode cX3_hearCoughs 59 = .ok (.ifCond .ne 9, 3) := dec_of (decode cX3_hearCoughs) da_68 35 rfl
theorem dX3_hearCoughs_62 : decode cX3_hearCoughs 62 = .ok (.aload_n 0, 1) := dec_of (decode cX3_hearCoughs) da_68 36 rfl
theorem dX3_hearCoughs_63 : decode cX3_hearCoughs 63 = .ok (.iconst 0, 1) := dec_of (decode cX3_hearCoughs) da_68 37 rfl
theorem dX3_hearCoughs_64 : decode cX3_hearCoughs 64 = .ok (.iconst 3, 1) := dec_of (decode cX3_hearCoughs) da_68 38 rfl
theorem dX3_hearCoughs_65 : decode cX3_hearCoughs 65 = .ok (.invokevirtual 196, 3) := dec_of (decode cX3_hearCoughs) da_68 39 rfl
abbrev dl_69 : List (Nat × Except DecodeError (Instr × Nat)) := [(68, .ok (.aload_n 0, 1)), (69, .ok (.getfield 42, 3)), (72, .ok (.iconst 0, 1)), (73, .ok (.invokestatic 93, 3)), (76, .ok (.return_, 1))]
theorem da_69 : dl_69.all (fun q => decide (decode cX3_hearCoughs q.1 = q.2)) = true := by decide +kernel
theorem dX3_hearCoughs_68 : decode cX3_hearCoughs 68 = .ok (.aload_n 0, 1) := dec_of (decode cX3_hearCoughs) da_69 0 rfl
theorem dX3_hearCoughs_69 : decode cX3_hearCoughs 69 = .ok (.getfield 42, 3) := dec_of (decode cX3_hearCoughs) da_69 1 rfl
theorem dX3_hearCoughs_72 : decode cX3_hearCoughs 72 = .ok (.iconst 0, 1) := dec_of (decode cX3_hearCoughs) da_69 2 rfl
theorem dX3_hearCoughs_73 : decode cX3_hearCoughs 73 = .ok (.invokestatic 93, 3) := dec_of (decode cX3_hearCoughs) da_69 3 rfl
theorem dX3_hearCoughs_76 : decode cX3_hearCoughs 76 = .ok (.return_, 1) := dec_of (decode cX3_hearCoughs) da_69 4 rfl
abbrev dl_70 : List (Nat × Except DecodeError (Instr × Nat)) := [(0, .ok (.aload_n 0, 1)), (1, .ok (.getfield 56, 3)), (4, .ok (.ifCond .ne 4, 3)), (7, .ok (.return_, 1)), (8, .ok (.aload_n 0, 1)), (9, .ok (.getfield 9, 3)), (12, .ok (.iconst 0, 1)), (13, .ok (.iaload, 1)), (14, .ok (.istore_n 1, 1)), (15, .ok (.aload_n 0, 1)), (16, .ok (.bipush 32, 2)), (18, .ok (.invokevirtual 182, 3)), (21, .ok (.ifCond .eq 15, 3)), (24, .ok (.aload_n 0, 1)), (25, .ok (.getfield 45, 3)), (28, .ok (.getfield 200, 3)), (31, .ok (.iconst 1, 1)), (32, .ok (.iadd, 1)), (33, .ok (.goto 10, 3)), (36, .ok (.aload_n 0, 1)), (37, .ok (.getfield 45, 3)), (40, .ok (.getfield 200, 3)), (43, .ok (.istore_n 2, 1)), (44, .ok (.iload_n 2, 1)), (45, .ok (.aload_n 0, 1)), (46, .ok (.getfield 45, 3)), (49, .ok (.getfield 81, 3)), (52, .ok (.iload_n 1, 1)), (53, .ok (.aaload, 1)), (54, .ok (.getfield 203, 3)), (57, .ok (.aload_n 0, 1)), (58, .ok (.getfield 27, 3)), (61, .ok (.iload_n 1, 1)), (62, .ok (.iaload, 1)), (63, .ok (.isub, 1)), (64, .ok (.invokestatic 137, 3)), (67, .ok (.istore_n 3, 1)), (68, .ok (.aload_n 0, 1)), (69, .ok (.bipush 16, 2)), (71, .ok (.invokevirtual 182, 3))]
theorem da_70 : dl_70.all (fun q => decide (decode cX3_pour q.1 = q.2)) = true := by decide +kernel
theorem dX3_pour_0 : decode cX3_pour 0 = .ok (.aload_n 0, 1) := dec_of (decode cX3_pour) da_70 0 rfl
theorem dX3_pour_1 : decode cX3_pour 1 = .ok (.getfield 56, 3) := dec_of (decode cX3_pour) da_70 1 rfl
theorem dX3_pour_4 : decode cX3_pour 4 = .ok (.ifCond .ne 4, 3) := dec_of (decode cX3_pour) da_70 2 rfl
theorem dX3_pour_7 : decode cX3_pour 7 = .ok (.return_, 1) := dec_of (decode cX3_pour) da_70 3 rfl
theorem dX3_pour_8 : decode cX3_pour 8 = .ok (.aload_n 0, 1) := dec_of (decode cX3_pour) da_70 4 rfl
theorem dX3_pour_9 : decode cX3_pour 9 = .ok (.getfield 9, 3) := dec_of (decode cX3_pour) da_70 5 rfl
theorem dX3_pour_12 : decode cX3_pour 12 = .ok (.iconst 0, 1) := dec_of (decode cX3_pour) da_70 6 rfl
theorem dX3_pour_13 : decode cX3_pour 13 = .ok (.iaload, 1) := dec_of (decode cX3_pour) da_70 7 rfl
theorem dX3_pour_14 : decode cX3_pour 14 = .ok (.istore_n 1, 1) := dec_of (decode cX3_pour) da_70 8 rfl
theorem dX3_pour_15 : decode cX3_pour 15 = .ok (.aload_n 0, 1) := dec_of (decode cX3_pour) da_70 9 rfl
theorem dX3_pour_16 : decode cX3_pour 16 = .ok (.bipush 32, 2) := dec_of (decode cX3_pour) da_70 10 rfl
theorem dX3_pour_18 : decode cX3_pour 18 = .ok (.invokevirtual 182, 3) := dec_of (decode cX3_pour) da_70 11 rfl
theorem dX3_pour_21 : decode cX3_pour 21 = .ok (.ifCond .eq 15, 3) := dec_of (decode cX3_pour) da_70 12 rfl
theorem dX3_pour_24 : decode cX3_pour 24 = .ok (.aload_n 0, 1) := dec_of (decode cX3_pour) da_70 13 rfl
theorem dX3_pour_25 : decode cX3_pour 25 = .ok (.getfield 45, 3) := dec_of (decode cX3_pour) da_70 14 rfl
theorem dX3_pour_28 : decode cX3_pour 28 = .ok (.getfield 200, 3) := dec_of (decode cX3_pour) da_70 15 rfl
theorem dX3_pour_31 : decode cX3_pour 31 = .ok (.iconst 1, 1) := dec_of (decode cX3_pour) da_70 16 rfl
theorem dX3_pour_32 : decode cX3_pour 32 = .ok (.iadd, 1) := dec_of (decode cX3_pour) da_70 17 rfl
theorem dX3_pour_33 : decode cX3_pour 33 = .ok (.goto 10, 3) := dec_of (decode cX3_pour) da_70 18 rfl
theorem dX3_pour_36 : decode cX3_pour 36 = .ok (.aload_n 0, 1) := dec_of (decode cX3_pour) da_70 19 rfl
theorem dX3_pour_37 : decode cX3_pour 37 = .ok (.getfield 45, 3) := dec_of (decode cX3_pour) da_70 20 rfl
theorem dX3_pour_40 : decode cX3_pour 40 = .ok (.getfield 200, 3) := dec_of (decode cX3_pour) da_70 21 rfl
theorem dX3_pour_43 : decode cX3_pour 43 = .ok (.istore_n 2, 1) := dec_of (decode cX3_pour) da_70 22 rfl
theorem dX3_pour_44 : decode cX3_pour 44 = .ok (.iload_n 2, 1) := dec_of (decode cX3_pour) da_70 23 rfl
theorem dX3_pour_45 : decode cX3_pour 45 = .ok (.aload_n 0, 1) := dec_of (decode cX3_pour) da_70 24 rfl
theorem dX3_pour_46 : decode cX3_pour 46 = .ok (.getfield 45, 3) := dec_of (decode cX3_pour) da_70 25 rfl
theorem dX3_pour_49 : decode cX3_pour 49 = .ok (.getfield 81, 3) := dec_of (decode cX3_pour) da_70 26 rfl
theorem dX3_pour_52 : decode cX3_pour 52 = .ok (.iload_n 1, 1) := dec_of (decode cX3_pour) da_70 27 rfl
theorem dX3_pour_53 : decode cX3_pour 53 = .ok (.aaload, 1) := dec_of (decode cX3_pour) da_70 28 rfl
theorem dX3_pour_54 : decode cX3_pour 54 = .ok (.getfield 203, 3) := dec_of (decode cX3_pour) da_70 29 rfl
theorem dX3_pour_57 : decode cX3_pour 57 = .ok (.aload_n 0, 1) := dec_of (decode cX3_pour) da_70 30 rfl
theorem dX3_pour_58 : decode cX3_pour 58 = .ok (.getfield 27, 3) := dec_of (decode cX3_pour) da_70 31 rfl
theorem dX3_pour_61 : decode cX3_pour 61 = .ok (.iload_n 1, 1) := dec_of (decode cX3_pour) da_70 32 rfl
theorem dX3_pour_62 : decode cX3_pour 62 = .ok (.iaload, 1) := dec_of (decode cX3_pour) da_70 33 rfl
theorem dX3_pour_63 : decode cX3_pour 63 = .ok (.isub, 1) := dec_of (decode cX3_pour) da_70 34 rfl
theorem dX3_pour_64 : decode cX3_pour 64 = .ok (.invokestatic 137, 3) := dec_of (decode cX3_pour) da_70 35 rfl
theorem dX3_pour_67 : decode cX3_pour 67 = .ok (.istore_n 3, 1) := dec_of (decode cX3_pour) da_70 36 rfl
theorem dX3_pour_68 : decode cX3_pour 68 = .ok (.aload_n 0, 1) := dec_of (decode cX3_pour) da_70 37 rfl
theorem dX3_pour_69 : decode cX3_pour 69 = .ok (.bipush 16, 2) := dec_of (decode cX3_pour) da_70 38 rfl
theorem dX3_pour_71 : decode cX3_pour 71 = .ok (.invokevirtual 182, 3) := dec_of (decode cX3_pour) da_70 39 rfl
abbrev dl_71 : List (Nat × Except DecodeError (Instr × Nat)) := [(74, .ok (.ifCond .ne 22, 3)), (77, .ok (.iload_n 3, 1)), (78, .ok (.aload_n 0, 1)), (79, .ok (.getfield 64, 3)), (82, .ok (.invokestatic 137, 3)), (85, .ok (.istore_n 3, 1)), (86, .ok (.aload_n 0, 1)), (87, .ok (.dup, 1)), (88, .ok (.getfield 64, 3)), (91, .ok (.iload_n 3, 1)), (92, .ok (.isub, 1)), (93, .ok (.putfield 64, 3)), (96, .ok (.aload_n 0, 1)), (97, .ok (.getfield 27, 3)), (100, .ok (.iload_n 1, 1)), (101, .ok (.dup2, 1)), (102, .ok (.iaload, 1)), (103, .ok (.iload_n 3, 1)), (104, .ok (.iadd, 1)), (105, .ok (.iastore, 1)), (106, .ok (.return_, 1))]
theorem da_71 : dl_71.all (fun q => decide (decode cX3_pour q.1 = q.2)) = true := by decide +kernel
theorem dX3_pour_74 : decode cX3_pour 74 = .ok (.ifCond .ne 22, 3) := dec_of (decode cX3_pour) da_71 0 rfl
theorem dX3_pour_77 : decode cX3_pour 77 = .ok (.iload_n 3, 1) := dec_of (decode cX3_pour) da_71 1 rfl
theorem dX3_pour_78 : decode cX3_pour 78 = .ok (.aload_n 0, 1) := dec_of (decode cX3_pour) da_71 2 rfl
theorem dX3_pour_79 : decode cX3_pour 79 = .ok (.getfield 64, 3) := dec_of (decode cX3_pour) da_71 3 rfl
theorem dX3_pour_82 : decode cX3_pour 82 = .ok (.invokestatic 137, 3) := dec_of (decode cX3_pour) da_71 4 rfl
theorem dX3_pour_85 : decode cX3_pour 85 = .ok (.istore_n 3, 1) := dec_of (decode cX3_pour) da_71 5 rfl
theorem dX3_pour_86 : decode cX3_pour 86 = .ok (.aload_n 0, 1) := dec_of (decode cX3_pour) da_71 6 rfl
theorem dX3_pour_87 : decode cX3_pour 87 = .ok (.dup, 1) := dec_of (decode cX3_pour) da_71 7 rfl
theorem dX3_pour_88 : decode cX3_pour 88 = .ok (.getfield 64, 3) := dec_of (decode cX3_pour) da_71 8 rfl
theorem dX3_pour_91 : decode cX3_pour 91 = .ok (.iload_n 3, 1) := dec_of (decode cX3_pour) da_71 9 rfl
theorem dX3_pour_92 : decode cX3_pour 92 = .ok (.isub, 1) := dec_of (decode cX3_pour) da_71 10 rfl
theorem dX3_pour_93 : decode cX3_pour 93 = .ok (.putfield 64, 3) := dec_of (decode cX3_pour) da_71 11 rfl
theorem dX3_pour_96 : decode cX3_pour 96 = .ok (.aload_n 0, 1) := dec_of (decode cX3_pour) da_71 12 rfl
theorem dX3_pour_97 : decode cX3_pour 97 = .ok (.getfield 27, 3) := dec_of (decode cX3_pour) da_71 13 rfl
theorem dX3_pour_100 : decode cX3_pour 100 = .ok (.iload_n 1, 1) := dec_of (decode cX3_pour) da_71 14 rfl
theorem dX3_pour_101 : decode cX3_pour 101 = .ok (.dup2, 1) := dec_of (decode cX3_pour) da_71 15 rfl
theorem dX3_pour_102 : decode cX3_pour 102 = .ok (.iaload, 1) := dec_of (decode cX3_pour) da_71 16 rfl
theorem dX3_pour_103 : decode cX3_pour 103 = .ok (.iload_n 3, 1) := dec_of (decode cX3_pour) da_71 17 rfl
theorem dX3_pour_104 : decode cX3_pour 104 = .ok (.iadd, 1) := dec_of (decode cX3_pour) da_71 18 rfl
theorem dX3_pour_105 : decode cX3_pour 105 = .ok (.iastore, 1) := dec_of (decode cX3_pour) da_71 19 rfl
theorem dX3_pour_106 : decode cX3_pour 106 = .ok (.return_, 1) := dec_of (decode cX3_pour) da_71 20 rfl
abbrev dl_72 : List (Nat × Except DecodeError (Instr × Nat)) := [(0, .ok (.aload_n 0, 1)), (1, .ok (.aload_n 0, 1)), (2, .ok (.getfield 15, 3)), (5, .ok (.iconst 2, 1)), (6, .ok (.iaload, 1)), (7, .ok (.invokevirtual 99, 3)), (10, .ok (.istore_n 1, 1)), (11, .ok (.aload_n 0, 1)), (12, .ok (.iconst 4, 1)), (13, .ok (.invokevirtual 182, 3)), (16, .ok (.ifCond .ne 33, 3)), (19, .ok (.iload_n 1, 1)), (20, .ok (.ifCond .lt 29, 3)), (23, .ok (.aload_n 0, 1)), (24, .ok (.getfield 45, 3)), (27, .ok (.getfield 206, 3)), (30, .ok (.iconst 1, 1)), (31, .ok (.if_icmp .lt 18, 3)), (34, .ok (.aload_n 0, 1)), (35, .ok (.getfield 53, 3)), (38, .ok (.aload_n 0, 1)), (39, .ok (.getfield 45, 3)), (42, .ok (.getfield 206, 3)), (45, .ok (.irem, 1)), (46, .ok (.ifCond .eq 4, 3)), (49, .ok (.return_, 1)), (50, .ok (.iconst 0, 1)), (51, .ok (.istore_n 2, 1)), (52, .ok (.iload_n 2, 1)), (53, .ok (.aload_n 0, 1)), (54, .ok (.getfield 56, 3)), (57, .ok (.if_icmp .ge 80, 3)), (60, .ok (.aload_n 0, 1)), (61, .ok (.getfield 9, 3)), (64, .ok (.iload_n 2, 1)), (65, .ok (.iaload, 1)), (66, .ok (.istore_n 3, 1)), (67, .ok (.iload_n 3, 1)), (68, .ok (.iload_n 1, 1)), (69, .ok (.if_icmp .eq 62, 3))]
theorem da_72 : dl_72.all (fun q => decide (decode cX3_levy q.1 = q.2)) = true := by decide +kernel
theorem dX3_levy_0 : decode cX3_levy 0 = .ok (.aload_n 0, 1) := dec_of (decode cX3_levy) da_72 0 rfl
theorem dX3_levy_1 : decode cX3_levy 1 = .ok (.aload_n 0, 1) := dec_of (decode cX3_levy) da_72 1 rfl
theorem dX3_levy_2 : decode cX3_levy 2 = .ok (.getfield 15, 3) := dec_of (decode cX3_levy) da_72 2 rfl
theorem dX3_levy_5 : decode cX3_levy 5 = .ok (.iconst 2, 1) := dec_of (decode cX3_levy) da_72 3 rfl
theorem dX3_levy_6 : decode cX3_levy 6 = .ok (.iaload, 1) := dec_of (decode cX3_levy) da_72 4 rfl
theorem dX3_levy_7 : decode cX3_levy 7 = .ok (.invokevirtual 99, 3) := dec_of (decode cX3_levy) da_72 5 rfl
theorem dX3_levy_10 : decode cX3_levy 10 = .ok (.istore_n 1, 1) := dec_of (decode cX3_levy) da_72 6 rfl
theorem dX3_levy_11 : decode cX3_levy 11 = .ok (.aload_n 0, 1) := dec_of (decode cX3_levy) da_72 7 rfl
theorem dX3_levy_12 : decode cX3_levy 12 = .ok (.iconst 4, 1) := dec_of (decode cX3_levy) da_72 8 rfl
theorem dX3_levy_13 : decode cX3_levy 13 = .ok (.invokevirtual 182, 3) := dec_of (decode cX3_levy) da_72 9 rfl
theorem dX3_levy_16 : decode cX3_levy 16 = .ok (.ifCond .ne 33, 3) := dec_of (decode cX3_levy) da_72 10 rfl
theorem dX3_levy_19 : decode cX3_levy 19 = .ok (.iload_n 1, 1) := dec_of (decode cX3_levy) da_72 11 rfl
theorem dX3_levy_20 : decode cX3_levy 20 = .ok (.ifCond .lt 29, 3) := dec_of (decode cX3_levy) da_72 12 rfl
theorem dX3_levy_23 : decode cX3_levy 23 = .ok (.aload_n 0, 1) := dec_of (decode cX3_levy) da_72 13 rfl
theorem dX3_levy_24 : decode cX3_levy 24 = .ok (.getfield 45, 3) := dec_of (decode cX3_levy) da_72 14 rfl
theorem dX3_levy_27 : decode cX3_levy 27 = .ok (.getfield 206, 3) := dec_of (decode cX3_levy) da_72 15 rfl
theorem dX3_levy_30 : decode cX3_levy 30 = .ok (.iconst 1, 1) := dec_of (decode cX3_levy) da_72 16 rfl
theorem dX3_levy_31 : decode cX3_levy 31 = .ok (.if_icmp .lt 18, 3) := dec_of (decode cX3_levy) da_72 17 rfl
theorem dX3_levy_34 : decode cX3_levy 34 = .ok (.aload_n 0, 1) := dec_of (decode cX3_levy) da_72 18 rfl
theorem dX3_levy_35 : decode cX3_levy 35 = .ok (.getfield 53, 3) := dec_of (decode cX3_levy) da_72 19 rfl
theorem dX3_levy_38 : decode cX3_levy 38 = .ok (.aload_n 0, 1) := dec_of (decode cX3_levy) da_72 20 rfl
theorem dX3_levy_39 : decode cX3_levy 39 = .ok (.getfield 45, 3) := dec_of (decode cX3_levy) da_72 21 rfl
theorem dX3_levy_42 : decode cX3_levy 42 = .ok (.getfield 206, 3) := dec_of (decode cX3_levy) da_72 22 rfl
theorem dX3_levy_45 : decode cX3_levy 45 = .ok (.irem, 1) := dec_of (decode cX3_levy) da_72 23 rfl
theorem dX3_levy_46 : decode cX3_levy 46 = .ok (.ifCond .eq 4, 3) := dec_of (decode cX3_levy) da_72 24 rfl
theorem dX3_levy_49 : decode cX3_levy 49 = .ok (.return_, 1) := dec_of (decode cX3_levy) da_72 25 rfl
theorem dX3_levy_50 : decode cX3_levy 50 = .ok (.iconst 0, 1) := dec_of (decode cX3_levy) da_72 26 rfl
theorem dX3_levy_51 : decode cX3_levy 51 = .ok (.istore_n 2, 1) := dec_of (decode cX3_levy) da_72 27 rfl
theorem dX3_levy_52 : decode cX3_levy 52 = .ok (.iload_n 2, 1) := dec_of (decode cX3_levy) da_72 28 rfl
theorem dX3_levy_53 : decode cX3_levy 53 = .ok (.aload_n 0, 1) := dec_of (decode cX3_levy) da_72 29 rfl
theorem dX3_levy_54 : decode cX3_levy 54 = .ok (.getfield 56, 3) := dec_of (decode cX3_levy) da_72 30 rfl
theorem dX3_levy_57 : decode cX3_levy 57 = .ok (.if_icmp .ge 80, 3) := dec_of (decode cX3_levy) da_72 31 rfl
theorem dX3_levy_60 : decode cX3_levy 60 = .ok (.aload_n 0, 1) := dec_of (decode cX3_levy) da_72 32 rfl
theorem dX3_levy_61 : decode cX3_levy 61 = .ok (.getfield 9, 3) := dec_of (decode cX3_levy) da_72 33 rfl
theorem dX3_levy_64 : decode cX3_levy 64 = .ok (.iload_n 2, 1) := dec_of (decode cX3_levy) da_72 34 rfl
theorem dX3_levy_65 : decode cX3_levy 65 = .ok (.iaload, 1) := dec_of (decode cX3_levy) da_72 35 rfl
theorem dX3_levy_66 : decode cX3_levy 66 = .ok (.istore_n 3, 1) := dec_of (decode cX3_levy) da_72 36 rfl
theorem dX3_levy_67 : decode cX3_levy 67 = .ok (.iload_n 3, 1) := dec_of (decode cX3_levy) da_72 37 rfl
theorem dX3_levy_68 : decode cX3_levy 68 = .ok (.iload_n 1, 1) := dec_of (decode cX3_levy) da_72 38 rfl
theorem dX3_levy_69 : decode cX3_levy 69 = .ok (.if_icmp .eq 62, 3) := dec_of (decode cX3_levy) da_72 39 rfl
abbrev dl_73 : List (Nat × Except DecodeError (Instr × Nat)) := [(72, .ok (.aload_n 0, 1)), (73, .ok (.getfield 45, 3)), (76, .ok (.getfield 119, 3)), (79, .ok (.iconst 0, 1)), (80, .ok (.aaload, 1)), (81, .ok (.aload_n 0, 1)), (82, .ok (.iload_n 2, 1)), (83, .ok (.iload_n 2, 1)), (84, .ok (.invokevirtual 123, 3)), (87, .ok (.iconst 0, 1)), (88, .ok (.bipush 99, 2)), (90, .ok (.iconst 1, 1)), (91, .ok (.invokestatic 127, 3)), (94, .ok (.istore 4, 2)), (96, .ok (.iload 4, 2)), (98, .ok (.aload_n 0, 1)), (99, .ok (.getfield 30, 3)), (102, .ok (.iload_n 3, 1)), (103, .ok (.iaload, 1)), (104, .ok (.invokestatic 137, 3)), (107, .ok (.istore 5, 2)), (109, .ok (.aload_n 0, 1)), (110, .ok (.getfield 30, 3)), (113, .ok (.iload_n 3, 1)), (114, .ok (.dup2, 1)), (115, .ok (.iaload, 1)), (116, .ok (.iload 5, 2)), (118, .ok (.isub, 1)), (119, .ok (.iastore, 1)), (120, .ok (.aload_n 0, 1)), (121, .ok (.getfield 30, 3)), (124, .ok (.iload_n 1, 1)), (125, .ok (.dup2, 1)), (126, .ok (.iaload, 1)), (127, .ok (.iload 5, 2)), (129, .ok (.iadd, 1)), (130, .ok (.iastore, 1)), (131, .ok (.iinc 2 1, 3)), (134, .ok (.goto (-82), 3)), (137, .ok (.return_, 1))]
theorem da_73 : dl_73.all (fun q => decide (decode cX3_levy q.1 = q.2)) = true := by decide +kernel
theorem dX3_levy_72 : decode cX3_levy 72 = .ok (.aload_n 0, 1) := dec_of (decode cX3_levy) da_73 0 rfl
theorem dX3_levy_73 : decode cX3_levy 73 = .ok (.getfield 45, 3) := dec_of (decode cX3_levy) da_73 1 rfl
theorem dX3_levy_76 : decode cX3_levy 76 = .ok (.getfield 119, 3) := dec_of (decode cX3_levy) da_73 2 rfl
theorem dX3_levy_79 : decode cX3_levy 79 = .ok (.iconst 0, 1) := dec_of (decode cX3_levy) da_73 3 rfl
theorem dX3_levy_80 : decode cX3_levy 80 = .ok (.aaload, 1) := dec_of (decode cX3_levy) da_73 4 rfl
theorem dX3_levy_81 : decode cX3_levy 81 = .ok (.aload_n 0, 1) := dec_of (decode cX3_levy) da_73 5 rfl
theorem dX3_levy_82 : decode cX3_levy 82 = .ok (.iload_n 2, 1) := dec_of (decode cX3_levy) da_73 6 rfl
theorem dX3_levy_83 : decode cX3_levy 83 = .ok (.iload_n 2, 1) := dec_of (decode cX3_levy) da_73 7 rfl
theorem dX3_levy_84 : decode cX3_levy 84 = .ok (.invokevirtual 123, 3) := dec_of (decode cX3_levy) da_73 8 rfl
theorem dX3_levy_87 : decode cX3_levy 87 = .ok (.iconst 0, 1) := dec_of (decode cX3_levy) da_73 9 rfl
theorem dX3_levy_88 : decode cX3_levy 88 = .ok (.bipush 99, 2) := dec_of (decode cX3_levy) da_73 10 rfl
theorem dX3_levy_90 : decode cX3_levy 90 = .ok (.iconst 1, 1) := dec_of (decode cX3_levy) da_73 11 rfl
theorem dX3_levy_91 : decode cX3_levy 91 = .ok (.invokestatic 127, 3) := dec_of (decode cX3_levy) da_73 12 rfl
theorem dX3_levy_94 : decode cX3_levy 94 = .ok (.istore 4, 2) := dec_of (decode cX3_levy) da_73 13 rfl
theorem dX3_levy_96 : decode cX3_levy 96 = .ok (.iload 4, 2) := dec_of (decode cX3_levy) da_73 14 rfl
theorem dX3_levy_98 : decode cX3_levy 98 = .ok (.aload_n 0, 1) := dec_of (decode cX3_levy) da_73 15 rfl
theorem dX3_levy_99 : decode cX3_levy 99 = .ok (.getfield 30, 3) := dec_of (decode cX3_levy) da_73 16 rfl
theorem dX3_levy_102 : decode cX3_levy 102 = .ok (.iload_n 3, 1) := dec_of (decode cX3_levy) da_73 17 rfl
theorem dX3_levy_103 : decode cX3_levy 103 = .ok (.iaload, 1) := dec_of (decode cX3_levy) da_73 18 rfl
theorem dX3_levy_104 : decode cX3_levy 104 = .ok (.invokestatic 137, 3) := dec_of (decode cX3_levy) da_73 19 rfl
theorem dX3_levy_107 : decode cX3_levy 107 = .ok (.istore 5, 2) := dec_of (decode cX3_levy) da_73 20 rfl
theorem dX3_levy_109 : decode cX3_levy 109 = .ok (.aload_n 0, 1) := dec_of (decode cX3_levy) da_73 21 rfl
theorem dX3_levy_110 : decode cX3_levy 110 = .ok (.getfield 30, 3) := dec_of (decode cX3_levy) da_73 22 rfl
theorem dX3_levy_113 : decode cX3_levy 113 = .ok (.iload_n 3, 1) := dec_of (decode cX3_levy) da_73 23 rfl
theorem dX3_levy_114 : decode cX3_levy 114 = .ok (.dup2, 1) := dec_of (decode cX3_levy) da_73 24 rfl
theorem dX3_levy_115 : decode cX3_levy 115 = .ok (.iaload, 1) := dec_of (decode cX3_levy) da_73 25 rfl
theorem dX3_levy_116 : decode cX3_levy 116 = .ok (.iload 5, 2) := dec_of (decode cX3_levy) da_73 26 rfl
theorem dX3_levy_118 : decode cX3_levy 118 = .ok (.isub, 1) := dec_of (decode cX3_levy) da_73 27 rfl
theorem dX3_levy_119 : decode cX3_levy 119 = .ok (.iastore, 1) := dec_of (decode cX3_levy) da_73 28 rfl
theorem dX3_levy_120 : decode cX3_levy 120 = .ok (.aload_n 0, 1) := dec_of (decode cX3_levy) da_73 29 rfl
theorem dX3_levy_121 : decode cX3_levy 121 = .ok (.getfield 30, 3) := dec_of (decode cX3_levy) da_73 30 rfl
theorem dX3_levy_124 : decode cX3_levy 124 = .ok (.iload_n 1, 1) := dec_of (decode cX3_levy) da_73 31 rfl
theorem dX3_levy_125 : decode cX3_levy 125 = .ok (.dup2, 1) := dec_of (decode cX3_levy) da_73 32 rfl
theorem dX3_levy_126 : decode cX3_levy 126 = .ok (.iaload, 1) := dec_of (decode cX3_levy) da_73 33 rfl
theorem dX3_levy_127 : decode cX3_levy 127 = .ok (.iload 5, 2) := dec_of (decode cX3_levy) da_73 34 rfl
theorem dX3_levy_129 : decode cX3_levy 129 = .ok (.iadd, 1) := dec_of (decode cX3_levy) da_73 35 rfl
theorem dX3_levy_130 : decode cX3_levy 130 = .ok (.iastore, 1) := dec_of (decode cX3_levy) da_73 36 rfl
theorem dX3_levy_131 : decode cX3_levy 131 = .ok (.iinc 2 1, 3) := dec_of (decode cX3_levy) da_73 37 rfl
theorem dX3_levy_134 : decode cX3_levy 134 = .ok (.goto (-82), 3) := dec_of (decode cX3_levy) da_73 38 rfl
theorem dX3_levy_137 : decode cX3_levy 137 = .ok (.return_, 1) := dec_of (decode cX3_levy) da_73 39 rfl
abbrev dl_74 : List (Nat × Except DecodeError (Instr × Nat)) := [(0, .ok (.iconst 0, 1)), (1, .ok (.istore_n 1, 1)), (2, .ok (.iload_n 1, 1)), (3, .ok (.aload_n 0, 1)), (4, .ok (.getfield 56, 3)), (7, .ok (.if_icmp .ge 73, 3)), (10, .ok (.aload_n 0, 1)), (11, .ok (.getfield 9, 3)), (14, .ok (.iload_n 1, 1)), (15, .ok (.iaload, 1)), (16, .ok (.istore_n 2, 1)), (17, .ok (.aload_n 0, 1)), (18, .ok (.getfield 39, 3)), (21, .ok (.iload_n 2, 1)), (22, .ok (.iaload, 1)), (23, .ok (.ifCond .le 16, 3)), (26, .ok (.aload_n 0, 1)), (27, .ok (.getfield 39, 3)), (30, .ok (.iload_n 2, 1)), (31, .ok (.dup2, 1)), (32, .ok (.iaload, 1)), (33, .ok (.iconst 1, 1)), (34, .ok (.isub, 1)), (35, .ok (.iastore, 1)), (36, .ok (.goto 38, 3)), (39, .ok (.iload_n 1, 1)), (40, .ok (.ifCond .le 34, 3)), (43, .ok (.aload_n 0, 1)), (44, .ok (.getfield 24, 3)), (47, .ok (.iload_n 2, 1)), (48, .ok (.dup2, 1)), (49, .ok (.iaload, 1)), (50, .ok (.aload_n 0, 1)), (51, .ok (.getfield 45, 3)), (54, .ok (.getfield 119, 3)), (57, .ok (.iconst 1, 1)), (58, .ok (.aaload, 1)), (59, .ok (.aload_n 0, 1)), (60, .ok (.iload_n 1, 1)), (61, .ok (.iload_n 1, 1))]
theorem da_74 : dl_74.all (fun q => decide (decode cX3_wear q.1 = q.2)) = true := by decide +kernel
theorem dX3_wear_0 : decode cX3_wear 0 = .ok (.iconst 0, 1) := dec_of (decode cX3_wear) da_74 0 rfl
theorem dX3_wear_1 : decode cX3_wear 1 = .ok (.istore_n 1, 1) := dec_of (decode cX3_wear) da_74 1 rfl
theorem dX3_wear_2 : decode cX3_wear 2 = .ok (.iload_n 1, 1) := dec_of (decode cX3_wear) da_74 2 rfl
theorem dX3_wear_3 : decode cX3_wear 3 = .ok (.aload_n 0, 1) := dec_of (decode cX3_wear) da_74 3 rfl
theorem dX3_wear_4 : decode cX3_wear 4 = .ok (.getfield 56, 3) := dec_of (decode cX3_wear) da_74 4 rfl
theorem dX3_wear_7 : decode cX3_wear 7 = .ok (.if_icmp .ge 73, 3) := dec_of (decode cX3_wear) da_74 5 rfl
theorem dX3_wear_10 : decode cX3_wear 10 = .ok (.aload_n 0, 1) := dec_of (decode cX3_wear) da_74 6 rfl
theorem dX3_wear_11 : decode cX3_wear 11 = .ok (.getfield 9, 3) := dec_of (decode cX3_wear) da_74 7 rfl
theorem dX3_wear_14 : decode cX3_wear 14 = .ok (.iload_n 1, 1) := dec_of (decode cX3_wear) da_74 8 rfl
theorem dX3_wear_15 : decode cX3_wear 15 = .ok (.iaload, 1) := dec_of (decode cX3_wear) da_74 9 rfl
theorem dX3_wear_16 : decode cX3_wear 16 = .ok (.istore_n 2, 1) := dec_of (decode cX3_wear) da_74 10 rfl
theorem dX3_wear_17 : decode cX3_wear 17 = .ok (.aload_n 0, 1) := dec_of (decode cX3_wear) da_74 11 rfl
theorem dX3_wear_18 : decode cX3_wear 18 = .ok (.getfield 39, 3) := dec_of (decode cX3_wear) da_74 12 rfl
theorem dX3_wear_21 : decode cX3_wear 21 = .ok (.iload_n 2, 1) := dec_of (decode cX3_wear) da_74 13 rfl
theorem dX3_wear_22 : decode cX3_wear 22 = .ok (.iaload, 1) := dec_of (decode cX3_wear) da_74 14 rfl
theorem dX3_wear_23 : decode cX3_wear 23 = .ok (.ifCond .le 16, 3) := dec_of (decode cX3_wear) da_74 15 rfl
theorem dX3_wear_26 : decode cX3_wear 26 = .ok (.aload_n 0, 1) := dec_of (decode cX3_wear) da_74 16 rfl
theorem dX3_wear_27 : decode cX3_wear 27 = .ok (.getfield 39, 3) := dec_of (decode cX3_wear) da_74 17 rfl
theorem dX3_wear_30 : decode cX3_wear 30 = .ok (.iload_n 2, 1) := dec_of (decode cX3_wear) da_74 18 rfl
theorem dX3_wear_31 : decode cX3_wear 31 = .ok (.dup2, 1) := dec_of (decode cX3_wear) da_74 19 rfl
theorem dX3_wear_32 : decode cX3_wear 32 = .ok (.iaload, 1) := dec_of (decode cX3_wear) da_74 20 rfl
theorem dX3_wear_33 : decode cX3_wear 33 = .ok (.iconst 1, 1) := dec_of (decode cX3_wear) da_74 21 rfl
theorem dX3_wear_34 : decode cX3_wear 34 = .ok (.isub, 1) := dec_of (decode cX3_wear) da_74 22 rfl
theorem dX3_wear_35 : decode cX3_wear 35 = .ok (.iastore, 1) := dec_of (decode cX3_wear) da_74 23 rfl
theorem dX3_wear_36 : decode cX3_wear 36 = .ok (.goto 38, 3) := dec_of (decode cX3_wear) da_74 24 rfl
theorem dX3_wear_39 : decode cX3_wear 39 = .ok (.iload_n 1, 1) := dec_of (decode cX3_wear) da_74 25 rfl
theorem dX3_wear_40 : decode cX3_wear 40 = .ok (.ifCond .le 34, 3) := dec_of (decode cX3_wear) da_74 26 rfl
theorem dX3_wear_43 : decode cX3_wear 43 = .ok (.aload_n 0, 1) := dec_of (decode cX3_wear) da_74 27 rfl
theorem dX3_wear_44 : decode cX3_wear 44 = .ok (.getfield 24, 3) := dec_of (decode cX3_wear) da_74 28 rfl
theorem dX3_wear_47 : decode cX3_wear 47 = .ok (.iload_n 2, 1) := dec_of (decode cX3_wear) da_74 29 rfl
theorem dX3_wear_48 : decode cX3_wear 48 = .ok (.dup2, 1) := dec_of (decode cX3_wear) da_74 30 rfl
theorem dX3_wear_49 : decode cX3_wear 49 = .ok (.iaload, 1) := dec_of (decode cX3_wear) da_74 31 rfl
theorem dX3_wear_50 : decode cX3_wear 50 = .ok (.aload_n 0, 1) := dec_of (decode cX3_wear) da_74 32 rfl
theorem dX3_wear_51 : decode cX3_wear 51 = .ok (.getfield 45, 3) := dec_of (decode cX3_wear) da_74 33 rfl
theorem dX3_wear_54 : decode cX3_wear 54 = .ok (.getfield 119, 3) := dec_of (decode cX3_wear) da_74 34 rfl
theorem dX3_wear_57 : decode cX3_wear 57 = .ok (.iconst 1, 1) := dec_of (decode cX3_wear) da_74 35 rfl
theorem dX3_wear_58 : decode cX3_wear 58 = .ok (.aaload, 1) := dec_of (decode cX3_wear) da_74 36 rfl
theorem dX3_wear_59 : decode cX3_wear 59 = .ok (.aload_n 0, 1) := dec_of (decode cX3_wear) da_74 37 rfl
theorem dX3_wear_60 : decode cX3_wear 60 = .ok (.iload_n 1, 1) := dec_of (decode cX3_wear) da_74 38 rfl
theorem dX3_wear_61 : decode cX3_wear 61 = .ok (.iload_n 1, 1) := dec_of (decode cX3_wear) da_74 39 rfl
abbrev dl_75 : List (Nat × Except DecodeError (Instr × Nat)) := [(62, .ok (.invokevirtual 123, 3)), (65, .ok (.iconst 0, 1)), (66, .ok (.bipush 9, 2)), (68, .ok (.iconst 1, 1)), (69, .ok (.invokestatic 127, 3)), (72, .ok (.isub, 1)), (73, .ok (.iastore, 1)), (74, .ok (.iinc 1 1, 3)), (77, .ok (.goto (-75), 3)), (80, .ok (.return_, 1))]
theorem da_75 : dl_75.all (fun q => decide (decode cX3_wear q.1 = q.2)) = true := by decide +kernel
theorem dX3_wear_62 : decode cX3_wear 62 = .ok (.invokevirtual 123, 3) := dec_of (decode cX3_wear) da_75 0 rfl
theorem dX3_wear_65 : decode cX3_wear 65 = .ok (.iconst 0, 1) := dec_of (decode cX3_wear) da_75 1 rfl
theorem dX3_wear_66 : decode cX3_wear 66 = .ok (.bipush 9, 2) := dec_of (decode cX3_wear) da_75 2 rfl
theorem dX3_wear_68 : decode cX3_wear 68 = .ok (.iconst 1, 1) := dec_of (decode cX3_wear) da_75 3 rfl
theorem dX3_wear_69 : decode cX3_wear 69 = .ok (.invokestatic 127, 3) := dec_of (decode cX3_wear) da_75 4 rfl
theorem dX3_wear_72 : decode cX3_wear 72 = .ok (.isub, 1) := dec_of (decode cX3_wear) da_75 5 rfl
theorem dX3_wear_73 : decode cX3_wear 73 = .ok (.iastore, 1) := dec_of (decode cX3_wear) da_75 6 rfl
theorem dX3_wear_74 : decode cX3_wear 74 = .ok (.iinc 1 1, 3) := dec_of (decode cX3_wear) da_75 7 rfl
theorem dX3_wear_77 : decode cX3_wear 77 = .ok (.goto (-75), 3) := dec_of (decode cX3_wear) da_75 8 rfl
theorem dX3_wear_80 : decode cX3_wear 80 = .ok (.return_, 1) := dec_of (decode cX3_wear) da_75 9 rfl
abbrev dl_76 : List (Nat × Except DecodeError (Instr × Nat)) := [(0, .ok (.aload_n 0, 1)), (1, .ok (.getfield 56, 3)), (4, .ok (.ifCond .le 40, 3)), (7, .ok (.aload_n 0, 1)), (8, .ok (.getfield 27, 3)), (11, .ok (.aload_n 0, 1)), (12, .ok (.getfield 9, 3)), (15, .ok (.iconst 0, 1)), (16, .ok (.iaload, 1)), (17, .ok (.iaload, 1)), (18, .ok (.aload_n 0, 1)), (19, .ok (.getfield 45, 3)), (22, .ok (.getfield 81, 3)), (25, .ok (.aload_n 0, 1)), (26, .ok (.getfield 9, 3)), (29, .ok (.iconst 0, 1)), (30, .ok (.iaload, 1)), (31, .ok (.aaload, 1)), (32, .ok (.getfield 203, 3)), (35, .ok (.if_icmp .lt 9, 3)), (38, .ok (.aload_n 0, 1)), (39, .ok (.iconst 0, 1)), (40, .ok (.iconst 2, 1)), (41, .ok (.invokevirtual 196, 3)), (44, .ok (.aload_n 0, 1)), (45, .ok (.bipush 8, 2)), (47, .ok (.invokevirtual 182, 3)), (50, .ok (.ifCond .eq 4, 3)), (53, .ok (.return_, 1)), (54, .ok (.aload_n 0, 1)), (55, .ok (.getfield 56, 3)), (58, .ok (.iconst 1, 1)), (59, .ok (.isub, 1)), (60, .ok (.istore_n 1, 1)), (61, .ok (.iload_n 1, 1)), (62, .ok (.ifCond .le 29, 3)), (65, .ok (.aload_n 0, 1)), (66, .ok (.getfield 24, 3)), (69, .ok (.aload_n 0, 1)), (70, .ok (.getfield 9, 3))]
theorem da_76 : dl_76.all (fun q => decide (decode cX3_release q.1 = q.2)) = true := by decide +kernel
theorem dX3_release_0 : decode cX3_release 0 = .ok (.aload_n 0, 1) := dec_of (decode cX3_release) da_76 0 rfl
theorem dX3_release_1 : decode cX3_release 1 = .ok (.getfield 56, 3) := dec_of (decode cX3_release) da_76 1 rfl
theorem dX3_release_4 : decode cX3_release 4 = .ok (.ifCond .le 40, 3) := dec_of (decode cX3_release) da_76 2 rfl
theorem dX3_release_7 : decode cX3_release 7 = .ok (.aload_n 0, 1) := dec_of (decode cX3_release) da_76 3 rfl
theorem dX3_release_8 : decode cX3_release 8 = .ok (.getfield 27, 3) := dec_of (decode cX3_release) da_76 4 rfl
theorem dX3_release_11 : decode cX3_release 11 = .ok (.aload_n 0, 1) := dec_of (decode cX3_release) da_76 5 rfl
theorem dX3_release_12 : decode cX3_release 12 = .ok (.getfield 9, 3) := dec_of (decode cX3_release) da_76 6 rfl
theorem dX3_release_15 : decode cX3_release 15 = .ok (.iconst 0, 1) := dec_of (decode cX3_release) da_76 7 rfl
theorem dX3_release_16 : decode cX3_release 16 = .ok (.iaload, 1) := dec_of (decode cX3_release) da_76 8 rfl
theorem dX3_release_17 : decode cX3_release 17 = .ok (.iaload, 1) := dec_of (decode cX3_release) da_76 9 rfl
theorem dX3_release_18 : decode cX3_release 18 = .ok (.aload_n 0, 1) := dec_of (decode cX3_release) da_76 10 rfl
theorem dX3_release_19 : decode cX3_release 19 = .ok (.getfield 45, 3) := dec_of (decode cX3_release) da_76 11 rfl
theorem dX3_release_22 : decode cX3_release 22 = .ok (.getfield 81, 3) := dec_of (decode cX3_release) da_76 12 rfl
theorem dX3_release_25 : decode cX3_release 25 = .ok (.aload_n 0, 1) := dec_of (decode cX3_release) da_76 13 rfl
theorem dX3_release_26 : decode cX3_release 26 = .ok (.getfield 9, 3) := dec_of (decode cX3_release) da_76 14 rfl
theorem dX3_release_29 : decode cX3_release 29 = .ok (.iconst 0, 1) := dec_of (decode cX3_release) da_76 15 rfl
theorem dX3_release_30 : decode cX3_release 30 = .ok (.iaload, 1) := dec_of (decode cX3_release) da_76 16 rfl
theorem dX3_release_31 : decode cX3_release 31 = .ok (.aaload, 1) := dec_of (decode cX3_release) da_76 17 rfl
theorem dX3_release_32 : decode cX3_release 32 = .ok (.getfield 203, 3) := dec_of (decode cX3_release) da_76 18 rfl
theorem dX3_release_35 : decode cX3_release 35 = .ok (.if_icmp .lt 9, 3) := dec_of (decode cX3_release) da_76 19 rfl
theorem dX3_release_38 : decode cX3_release 38 = .ok (.aload_n 0, 1) := dec_of (decode cX3_release) da_76 20 rfl
theorem dX3_release_39 : decode cX3_release 39 = .ok (.iconst 0, 1) := dec_of (decode cX3_release) da_76 21 rfl
theorem dX3_release_40 : decode cX3_release 40 = .ok (.iconst 2, 1) := dec_of (decode cX3_release) da_76 22 rfl
theorem dX3_release_41 : decode cX3_release 41 = .ok (.invokevirtual 196, 3) := dec_of (decode cX3_release) da_76 23 rfl
theorem dX3_release_44 : decode cX3_release 44 = .ok (.aload_n 0, 1) := dec_of (decode cX3_release) da_76 24 rfl
theorem dX3_release_45 : decode cX3_release 45 = .ok (.bipush 8, 2) := dec_of (decode cX3_release) da_76 25 rfl
theorem dX3_release_47 : decode cX3_release 47 = .ok (.invokevirtual 182, 3) := dec_of (decode cX3_release) da_76 26 rfl
theorem dX3_release_50 : decode cX3_release 50 = .ok (.ifCond .eq 4, 3) := dec_of (decode cX3_release) da_76 27 rfl
theorem dX3_release_53 : decode cX3_release 53 = .ok (.return_, 1) := dec_of (decode cX3_release) da_76 28 rfl
theorem dX3_release_54 : decode cX3_release 54 = .ok (.aload_n 0, 1) := dec_of (decode cX3_release) da_76 29 rfl
theorem dX3_release_55 : decode cX3_release 55 = .ok (.getfield 56, 3) := dec_of (decode cX3_release) da_76 30 rfl
theorem dX3_release_58 : decode cX3_release 58 = .ok (.iconst 1, 1) := dec_of (decode cX3_release) da_76 31 rfl
theorem dX3_release_59 : decode cX3_release 59 = .ok (.isub, 1) := dec_of (decode cX3_release) da_76 32 rfl
theorem dX3_release_60 : decode cX3_release 60 = .ok (.istore_n 1, 1) := dec_of (decode cX3_release) da_76 33 rfl
theorem dX3_release_61 : decode cX3_release 61 = .ok (.iload_n 1, 1) := dec_of (decode cX3_release) da_76 34 rfl
theorem dX3_release_62 : decode cX3_release 62 = .ok (.ifCond .le 29, 3) := dec_of (decode cX3_release) da_76 35 rfl
theorem dX3_release_65 : decode cX3_release 65 = .ok (.aload_n 0, 1) := dec_of (decode cX3_release) da_76 36 rfl
theorem dX3_release_66 : decode cX3_release 66 = .ok (.getfield 24, 3) := dec_of (decode cX3_release) da_76 37 rfl
theorem dX3_release_69 : decode cX3_release 69 = .ok (.aload_n 0, 1) := dec_of (decode cX3_release) da_76 38 rfl
theorem dX3_release_70 : decode cX3_release 70 = .ok (.getfield 9, 3) := dec_of (decode cX3_release) da_76 39 rfl
abbrev dl_77 : List (Nat × Except DecodeError (Instr × Nat)) := [(73, .ok (.iload_n 1, 1)), (74, .ok (.iaload, 1)), (75, .ok (.iaload, 1)), (76, .ok (.ifCond .gt 9, 3)), (79, .ok (.aload_n 0, 1)), (80, .ok (.iload_n 1, 1)), (81, .ok (.iconst 3, 1)), (82, .ok (.invokevirtual 196, 3)), (85, .ok (.iinc 1 (-1), 3)), (88, .ok (.goto (-27), 3)), (91, .ok (.return_, 1))]
theorem da_77 : dl_77.all (fun q => decide (decode cX3_release q.1 = q.2)) = true := by decide +kernel
theorem dX3_release_73 : decode cX3_release 73 = .ok (.iload_n 1, 1) := dec_of (decode cX3_release) da_77 0 rfl
theorem dX3_release_74 : decode cX3_release 74 = .ok (.iaload, 1) := dec_of (decode cX3_release) da_77 1 rfl
theorem dX3_release_75 : decode cX3_release 75 = .ok (.iaload, 1) := dec_of (decode cX3_release) da_77 2 rfl
theorem dX3_release_76 : decode cX3_release 76 = .ok (.ifCond .gt 9, 3) := dec_of (decode cX3_release) da_77 3 rfl
theorem dX3_release_79 : decode cX3_release 79 = .ok (.aload_n 0, 1) := dec_of (decode cX3_release) da_77 4 rfl
theorem dX3_release_80 : decode cX3_release 80 = .ok (.iload_n 1, 1) := dec_of (decode cX3_release) da_77 5 rfl
theorem dX3_release_81 : decode cX3_release 81 = .ok (.iconst 3, 1) := dec_of (decode cX3_release) da_77 6 rfl
theorem dX3_release_82 : decode cX3_release 82 = .ok (.invokevirtual 196, 3) := dec_of (decode cX3_release) da_77 7 rfl
theorem dX3_release_85 : decode cX3_release 85 = .ok (.iinc 1 (-1), 3) := dec_of (decode cX3_release) da_77 8 rfl
theorem dX3_release_88 : decode cX3_release 88 = .ok (.goto (-27), 3) := dec_of (decode cX3_release) da_77 9 rfl
theorem dX3_release_91 : decode cX3_release 91 = .ok (.return_, 1) := dec_of (decode cX3_release) da_77 10 rfl
abbrev dl_78 : List (Nat × Except DecodeError (Instr × Nat)) := [(0, .ok (.aload_n 0, 1)), (1, .ok (.iconst 2, 1)), (2, .ok (.invokevirtual 182, 3)), (5, .ok (.ifCond .ne 13, 3)), (8, .ok (.aload_n 0, 1)), (9, .ok (.getfield 45, 3)), (12, .ok (.getfield 209, 3)), (15, .ok (.ifCond .ne 4, 3)), (18, .ok (.return_, 1)), (19, .ok (.aload_n 0, 1)), (20, .ok (.aload_n 0, 1)), (21, .ok (.getfield 68, 3)), (24, .ok (.i2l, 1)), (25, .ok (.ldc2_w 211, 3)), (28, .ok (.lmul, 1)), (29, .ok (.ldc2_w 213, 3)), (32, .ok (.ladd, 1)), (33, .ok (.ldc2_w 215, 3)), (36, .ok (.land, 1)), (37, .ok (.l2i, 1)), (38, .ok (.putfield 68, 3)), (41, .ok (.aload_n 0, 1)), (42, .ok (.getfield 68, 3)), (45, .ok (.ldc 217, 2)), (47, .ok (.idiv, 1)), (48, .ok (.bipush 100, 2)), (50, .ok (.irem, 1)), (51, .ok (.aload_n 0, 1)), (52, .ok (.getfield 45, 3)), (55, .ok (.getfield 209, 3)), (58, .ok (.if_icmp .ge 22, 3)), (61, .ok (.aload_n 0, 1)), (62, .ok (.getfield 56, 3)), (65, .ok (.iconst 1, 1)), (66, .ok (.if_icmp .le 14, 3)), (69, .ok (.aload_n 0, 1)), (70, .ok (.aload_n 0, 1)), (71, .ok (.getfield 56, 3)), (74, .ok (.iconst 1, 1)), (75, .ok (.isub, 1))]
theorem da_78 : dl_78.all (fun q => decide (decode cX3_mutter q.1 = q.2)) = true := by decide +kernel
theorem dX3_mutter_0 : decode cX3_mutter 0 = .ok (.aload_n 0, 1) := dec_of (decode cX3_mutter) da_78 0 rfl
theorem dX3_mutter_1 : decode cX3_mutter 1 = .ok (.iconst 2, 1) := dec_of (decode cX3_mutter) da_78 1 rfl
theorem dX3_mutter_2 : decode cX3_mutter 2 = .ok (.invokevirtual 182, 3) := dec_of (decode cX3_mutter) da_78 2 rfl
theorem dX3_mutter_5 : decode cX3_mutter 5 = .ok (.ifCond .ne 13, 3) := dec_of (decode cX3_mutter) da_78 3 rfl
theorem dX3_mutter_8 : decode cX3_mutter 8 = .ok (.aload_n 0, 1) := dec_of (decode cX3_mutter) da_78 4 rfl
theorem dX3_mutter_9 : decode cX3_mutter 9 = .ok (.getfield 45, 3) := dec_of (decode cX3_mutter) da_78 5 rfl
theorem dX3_mutter_12 : decode cX3_mutter 12 = .ok (.getfield 209, 3) := dec_of (decode cX3_mutter) da_78 6 rfl
theorem dX3_mutter_15 : decode cX3_mutter 15 = .ok (.ifCond .ne 4, 3) := dec_of (decode cX3_mutter) da_78 7 rfl
theorem dX3_mutter_18 : decode cX3_mutter 18 = .ok (.return_, 1) := dec_of (decode cX3_mutter) da_78 8 rfl
theorem dX3_mutter_19 : decode cX3_mutter 19 = .ok (.aload_n 0, 1) := dec_of (decode cX3_mutter) da_78 9 rfl
theorem dX3_mutter_20 : decode cX3_mutter 20 = .ok (.aload_n 0, 1) := dec_of (decode cX3_mutter) da_78 10 rfl
theorem dX3_mutter_21 : decode cX3_mutter 21 = .ok (.getfield 68, 3) := dec_of (decode cX3_mutter) da_78 11 rfl
theorem dX3_mutter_24 : decode cX3_mutter 24 = .ok (.i2l, 1) := dec_of (decode cX3_mutter) da_78 12 rfl
theorem dX3_mutter_25 : decode cX3_mutter 25 = .ok (.ldc2_w 211, 3) := dec_of (decode cX3_mutter) da_78 13 rfl
theorem dX3_mutter_28 : decode cX3_mutter 28 = .ok (.lmul, 1) := dec_of (decode cX3_mutter) da_78 14 rfl
theorem dX3_mutter_29 : decode cX3_mutter 29 = .ok (.ldc2_w 213, 3) := dec_of (decode cX3_mutter) da_78 15 rfl
theorem dX3_mutter_32 : decode cX3_mutter 32 = .ok (.ladd, 1) := dec_of (decode cX3_mutter) da_78 16 rfl
theorem dX3_mutter_33 : decode cX3_mutter 33 = .ok (.ldc2_w 215, 3) := dec_of (decode cX3_mutter) da_78 17 rfl
theorem dX3_mutter_36 : decode cX3_mutter 36 = .ok (.land, 1) := dec_of (decode cX3_mutter) da_78 18 rfl
theorem dX3_mutter_37 : decode cX3_mutter 37 = .ok (.l2i, 1) := dec_of (decode cX3_mutter) da_78 19 rfl
theorem dX3_mutter_38 : decode cX3_mutter 38 = .ok (.putfield 68, 3) := dec_of (decode cX3_mutter) da_78 20 rfl
theorem dX3_mutter_41 : decode cX3_mutter 41 = .ok (.aload_n 0, 1) := dec_of (decode cX3_mutter) da_78 21 rfl
theorem dX3_mutter_42 : decode cX3_mutter 42 = .ok (.getfield 68, 3) := dec_of (decode cX3_mutter) da_78 22 rfl
theorem dX3_mutter_45 : decode cX3_mutter 45 = .ok (.ldc 217, 2) := dec_of (decode cX3_mutter) da_78 23 rfl
theorem dX3_mutter_47 : decode cX3_mutter 47 = .ok (.idiv, 1) := dec_of (decode cX3_mutter) da_78 24 rfl
theorem dX3_mutter_48 : decode cX3_mutter 48 = .ok (.bipush 100, 2) := dec_of (decode cX3_mutter) da_78 25 rfl
theorem dX3_mutter_50 : decode cX3_mutter 50 = .ok (.irem, 1) := dec_of (decode cX3_mutter) da_78 26 rfl
theorem dX3_mutter_51 : decode cX3_mutter 51 = .ok (.aload_n 0, 1) := dec_of (decode cX3_mutter) da_78 27 rfl
theorem dX3_mutter_52 : decode cX3_mutter 52 = .ok (.getfield 45, 3) := dec_of (decode cX3_mutter) da_78 28 rfl
theorem dX3_mutter_55 : decode cX3_mutter 55 = .ok (.getfield 209, 3) := dec_of (decode cX3_mutter) da_78 29 rfl
theorem dX3_mutter_58 : decode cX3_mutter 58 = .ok (.if_icmp .ge 22, 3) := dec_of (decode cX3_mutter) da_78 30 rfl
theorem dX3_mutter_61 : decode cX3_mutter 61 = .ok (.aload_n 0, 1) := dec_of (decode cX3_mutter) da_78 31 rfl
theorem dX3_mutter_62 : decode cX3_mutter 62 = .ok (.getfield 56, 3) := dec_of (decode cX3_mutter) da_78 32 rfl
theorem dX3_mutter_65 : decode cX3_mutter 65 = .ok (.iconst 1, 1) := dec_of (decode cX3_mutter) da_78 33 rfl
theorem dX3_mutter_66 : decode cX3_mutter 66 = .ok (.if_icmp .le 14, 3) := dec_of (decode cX3_mutter) da_78 34 rfl
theorem dX3_mutter_69 : decode cX3_mutter 69 = .ok (.aload_n 0, 1) := dec_of (decode cX3_mutter) da_78 35 rfl
theorem dX3_mutter_70 : decode cX3_mutter 70 = .ok (.aload_n 0, 1) := dec_of (decode cX3_mutter) da_78 36 rfl
theorem dX3_mutter_71 : decode cX3_mutter 71 = .ok (.getfield 56, 3) := dec_of (decode cX3_mutter) da_78 37 rfl
theorem dX3_mutter_74 : decode cX3_mutter 74 = .ok (.iconst 1, 1) := dec_of (decode cX3_mutter) da_78 38 rfl
theorem dX3_mutter_75 : decode cX3_mutter 75 = .ok (.isub, 1) := dec_of (decode cX3_mutter) da_78 39 rfl
abbrev dl_79 : List (Nat × Except DecodeError (Instr × Nat)) := [(76, .ok (.iconst 3, 1)), (77, .ok (.invokevirtual 196, 3)), (80, .ok (.return_, 1))]
theorem da_79 : dl_79.all (fun q => decide (decode cX3_mutter q.1 = q.2)) = true := by decide +kernel
theorem dX3_mutter_76 : decode cX3_mutter 76 = .ok (.iconst 3, 1) := dec_of (decode cX3_mutter) da_79 0 rfl
theorem dX3_mutter_77 : decode cX3_mutter 77 = .ok (.invokevirtual 196, 3) := dec_of (decode cX3_mutter) da_79 1 rfl
theorem dX3_mutter_80 : decode cX3_mutter 80 = .ok (.return_, 1) := dec_of (decode cX3_mutter) da_79 2 rfl
abbrev dl_80 : List (Nat × Except DecodeError (Instr × Nat)) := [(0, .ok (.aload_n 0, 1)), (1, .ok (.invokespecial 3, 3)), (4, .ok (.aload_n 0, 1)), (5, .ok (.new 9, 3)), (8, .ok (.dup, 1)), (9, .ok (.invokespecial 11, 3)), (12, .ok (.putfield 12, 3)), (15, .ok (.aload_n 0, 1)), (16, .ok (.iconst 0, 1)), (17, .ok (.putfield 18, 3)), (20, .ok (.aload_n 0, 1)), (21, .ok (.iconst 0, 1)), (22, .ok (.putfield 22, 3)), (25, .ok (.aload_n 0, 1)), (26, .ok (.iconst (-1), 1)), (27, .ok (.putfield 25, 3)), (30, .ok (.return_, 1))]
theorem da_80 : dl_80.all (fun q => decide (decode cX4_init q.1 = q.2)) = true := by decide +kernel
theorem dX4_init_0 : decode cX4_init 0 = .ok (.aload_n 0, 1) := dec_of (decode cX4_init) da_80 0 rfl
theorem dX4_init_1 : decode cX4_init 1 = .ok (.invokespecial 3, 3) := dec_of (decode cX4_init) da_80 1 rfl
theorem dX4_init_4 : decode cX4_init 4 = .ok (.aload_n 0, 1) := dec_of (decode cX4_init) da_80 2 rfl
theorem dX4_init_5 : decode cX4_init 5 = .ok (.new 9, 3) := dec_of (decode cX4_init) da_80 3 rfl
theorem dX4_init_8 : decode cX4_init 8 = .ok (.dup, 1) := dec_of (decode cX4_init) da_80 4 rfl
theorem dX4_init_9 : decode cX4_init 9 = .ok (.invokespecial 11, 3) := dec_of (decode cX4_init) da_80 5 rfl
theorem dX4_init_12 : decode cX4_init 12 = .ok (.putfield 12, 3) := dec_of (decode cX4_init) da_80 6 rfl
theorem dX4_init_15 : decode cX4_init 15 = .ok (.aload_n 0, 1) := dec_of (decode cX4_init) da_80 7 rfl
theorem dX4_init_16 : decode cX4_init 16 = .ok (.iconst 0, 1) := dec_of (decode cX4_init) da_80 8 rfl
theorem dX4_init_17 : decode cX4_init 17 = .ok (.putfield 18, 3) := dec_of (decode cX4_init) da_80 9 rfl
theorem dX4_init_20 : decode cX4_init 20 = .ok (.aload_n 0, 1) := dec_of (decode cX4_init) da_80 10 rfl
theorem dX4_init_21 : decode cX4_init 21 = .ok (.iconst 0, 1) := dec_of (decode cX4_init) da_80 11 rfl
theorem dX4_init_22 : decode cX4_init 22 = .ok (.putfield 22, 3) := dec_of (decode cX4_init) da_80 12 rfl
theorem dX4_init_25 : decode cX4_init 25 = .ok (.aload_n 0, 1) := dec_of (decode cX4_init) da_80 13 rfl
theorem dX4_init_26 : decode cX4_init 26 = .ok (.iconst (-1), 1) := dec_of (decode cX4_init) da_80 14 rfl
theorem dX4_init_27 : decode cX4_init 27 = .ok (.putfield 25, 3) := dec_of (decode cX4_init) da_80 15 rfl
theorem dX4_init_30 : decode cX4_init 30 = .ok (.return_, 1) := dec_of (decode cX4_init) da_80 16 rfl
abbrev dl_81 : List (Nat × Except DecodeError (Instr × Nat)) := [(0, .ok (.aload_n 0, 1)), (1, .ok (.aload_n 2, 1)), (2, .ok (.putfield 28, 3)), (5, .ok (.aload_n 0, 1)), (6, .ok (.getfield 28, 3)), (9, .ok (.invokevirtual 32, 3)), (12, .ok (.aload_n 0, 1)), (13, .ok (.iconst 0, 1)), (14, .ok (.putfield 18, 3)), (17, .ok (.aload_n 0, 1)), (18, .ok (.iconst 0, 1)), (19, .ok (.putfield 22, 3)), (22, .ok (.aload_n 0, 1)), (23, .ok (.iconst (-1), 1)), (24, .ok (.putfield 25, 3)), (27, .ok (.aload_n 0, 1)), (28, .ok (.getfield 12, 3)), (31, .ok (.iload_n 1, 1)), (32, .ok (.invokevirtual 37, 3)), (35, .ok (.iconst 0, 1)), (36, .ok (.istore_n 3, 1)), (37, .ok (.iload_n 3, 1)), (38, .ok (.iload_n 1, 1)), (39, .ok (.if_icmp .gt 259, 3)), (42, .ok (.aload_n 0, 1)), (43, .ok (.getfield 12, 3)), (46, .ok (.getfield 41, 3)), (49, .ok (.bipush 27, 2)), (51, .ok (.if_icmp .eq 247, 3)), (54, .ok (.aload_n 0, 1)), (55, .ok (.getfield 22, 3)), (58, .ok (.ifCond .ne 240, 3)), (61, .ok (.aload_n 0, 1)), (62, .ok (.getfield 12, 3)), (65, .ok (.getfield 41, 3)), (68, .ok (.tableswitch 200 0 8 #[52, 59, 66, 73, 109, 130, 151, 172, 193], 52)), (120, .ok (.aload_n 0, 1)), (121, .ok (.invokevirtual 44, 3)), (124, .ok (.goto 149, 3)), (127, .ok (.aload_n 0, 1))]
theorem da_81 : dl_81.all (fun q => decide (decode cX4_read q.1 = q.2)) = true := by decide +kernel
theorem dX4_read_0 : decode cX4_read 0 = .ok (.aload_n 0, 1) := dec_of (decode cX4_read) da_81 0 rfl
theorem dX4_read_1 : decode cX4_read 1 = .ok (.aload_n 2, 1) := dec_of (decode cX4_read) da_81 1 rfl
theorem dX4_read_2 : decode cX4_read 2 = .ok (.putfield 28, 3) := dec_of (decode cX4_read) da_81 2 rfl
theorem dX4_read_5 : decode cX4_read 5 = .ok (.aload_n 0, 1) := dec_of (decode cX4_read) da_81 3 rfl
theorem dX4_read_6 : decode cX4_read 6 = .ok (.getfield 28, 3) := dec_of (decode cX4_read) da_81 4 rfl
theorem dX4_read_9 : decode cX4_read 9 = .ok (.invokevirtual 32, 3) := dec_of (decode cX4_read) da_81 5 rfl
theorem dX4_read_12 : decode cX4_read 12 = .ok (.aload_n 0, 1) := dec_of (decode cX4_read) da_81 6 rfl
theorem dX4_read_13 : decode cX4_read 13 = .ok (.iconst 0, 1) := dec_of (decode cX4_read) da_81 7 rfl
theorem dX4_read_14 : decode cX4_read 14 = .ok (.putfield 18, 3) := dec_of (decode cX4_read) da_81 8 rfl
theorem dX4_read_17 : decode cX4_read 17 = .ok (.aload_n 0, 1) := dec_of (decode cX4_read) da_81 9 rfl
theorem dX4_read_18 : decode cX4_read 18 = .ok (.iconst 0, 1) := dec_of (decode cX4_read) da_81 10 rfl
theorem dX4_read_19 : decode cX4_read 19 = .ok (.putfield 22, 3) := dec_of (decode cX4_read) da_81 11 rfl
theorem dX4_read_22 : decode cX4_read 22 = .ok (.aload_n 0, 1) := dec_of (decode cX4_read) da_81 12 rfl
theorem dX4_read_23 : decode cX4_read 23 = .ok (.iconst (-1), 1) := dec_of (decode cX4_read) da_81 13 rfl
theorem dX4_read_24 : decode cX4_read 24 = .ok (.putfield 25, 3) := dec_of (decode cX4_read) da_81 14 rfl
theorem dX4_read_27 : decode cX4_read 27 = .ok (.aload_n 0, 1) := dec_of (decode cX4_read) da_81 15 rfl
theorem dX4_read_28 : decode cX4_read 28 = .ok (.getfield 12, 3) := dec_of (decode cX4_read) da_81 16 rfl
theorem dX4_read_31 : decode cX4_read 31 = .ok (.iload_n 1, 1) := dec_of (decode cX4_read) da_81 17 rfl
theorem dX4_read_32 : decode cX4_read 32 = .ok (.invokevirtual 37, 3) := dec_of (decode cX4_read) da_81 18 rfl
theorem dX4_read_35 : decode cX4_read 35 = .ok (.iconst 0, 1) := dec_of (decode cX4_read) da_81 19 rfl
theorem dX4_read_36 : decode cX4_read 36 = .ok (.istore_n 3, 1) := dec_of (decode cX4_read) da_81 20 rfl
theorem dX4_read_37 : decode cX4_read 37 = .ok (.iload_n 3, 1) := dec_of (decode cX4_read) da_81 21 rfl
theorem dX4_read_38 : decode cX4_read 38 = .ok (.iload_n 1, 1) := dec_of (decode cX4_read) da_81 22 rfl
theorem dX4_read_39 : decode cX4_read 39 = .ok (.if_icmp .gt 259, 3) := dec_of (decode cX4_read) da_81 23 rfl
theorem dX4_read_42 : decode cX4_read 42 = .ok (.aload_n 0, 1) := dec_of (decode cX4_read) da_81 24 rfl
theorem dX4_read_43 : decode cX4_read 43 = .ok (.getfield 12, 3) := dec_of (decode cX4_read) da_81 25 rfl
theorem dX4_read_46 : decode cX4_read 46 = .ok (.getfield 41, 3) := dec_of (decode cX4_read) da_81 26 rfl
theorem dX4_read_49 : decode cX4_read 49 = .ok (.bipush 27, 2) := dec_of (decode cX4_read) da_81 27 rfl
theorem dX4_read_51 : decode cX4_read 51 = .ok (.if_icmp .eq 247, 3) := dec_of (decode cX4_read) da_81 28 rfl
theorem dX4_read_54 : decode cX4_read 54 = .ok (.aload_n 0, 1) := dec_of (decode cX4_read) da_81 29 rfl
theorem dX4_read_55 : decode cX4_read 55 = .ok (.getfield 22, 3) := dec_of (decode cX4_read) da_81 30 rfl
theorem dX4_read_58 : decode cX4_read 58 = .ok (.ifCond .ne 240, 3) := dec_of (decode cX4_read) da_81 31 rfl
theorem dX4_read_61 : decode cX4_read 61 = .ok (.aload_n 0, 1) := dec_of (decode cX4_read) da_81 32 rfl
theorem dX4_read_62 : decode cX4_read 62 = .ok (.getfield 12, 3) := dec_of (decode cX4_read) da_81 33 rfl
theorem dX4_read_65 : decode cX4_read 65 = .ok (.getfield 41, 3) := dec_of (decode cX4_read) da_81 34 rfl
theorem dX4_read_68 : decode cX4_read 68 = .ok (.tableswitch 200 0 8 #[52, 59, 66, 73, 109, 130, 151, 172, 193], 52) := dec_of (decode cX4_read) da_81 35 rfl
theorem dX4_read_120 : decode cX4_read 120 = .ok (.aload_n 0, 1) := dec_of (decode cX4_read) da_81 36 rfl
theorem dX4_read_121 : decode cX4_read 121 = .ok (.invokevirtual 44, 3) := dec_of (decode cX4_read) da_81 37 rfl
theorem dX4_read_124 : decode cX4_read 124 = .ok (.goto 149, 3) := dec_of (decode cX4_read) da_81 38 rfl
theorem dX4_read_127 : decode cX4_read 127 = .ok (.aload_n 0, 1) := dec_of (decode cX4_read) da_81 39 rfl
abbrev dl_82 : List (Nat × Except DecodeError (Instr × Nat)) := [(128, .ok (.invokevirtual 47, 3)), (131, .ok (.goto 142, 3)), (134, .ok (.aload_n 0, 1)), (135, .ok (.invokevirtual 50, 3)), (138, .ok (.goto 135, 3)), (141, .ok (.aload_n 0, 1)), (142, .ok (.invokevirtual 53, 3)), (145, .ok (.aload_n 0, 1)), (146, .ok (.getfield 28, 3)), (149, .ok (.aload_n 0, 1)), (150, .ok (.iconst 0, 1)), (151, .ok (.sipush 999, 3)), (154, .ok (.invokevirtual 56, 3)), (157, .ok (.putfield 60, 3)), (160, .ok (.aload_n 0, 1)), (161, .ok (.getfield 28, 3)), (164, .ok (.aload_n 0, 1)), (165, .ok (.iconst 1, 1)), (166, .ok (.bipush 9, 2)), (168, .ok (.invokevirtual 56, 3)), (171, .ok (.putfield 63, 3)), (174, .ok (.goto 99, 3)), (177, .ok (.aload_n 0, 1)), (178, .ok (.invokevirtual 53, 3)), (181, .ok (.aload_n 0, 1)), (182, .ok (.getfield 28, 3)), (185, .ok (.aload_n 0, 1)), (186, .ok (.iconst 1, 1)), (187, .ok (.bipush 30, 2)), (189, .ok (.invokevirtual 56, 3)), (192, .ok (.putfield 66, 3)), (195, .ok (.goto 78, 3)), (198, .ok (.aload_n 0, 1)), (199, .ok (.invokevirtual 53, 3)), (202, .ok (.aload_n 0, 1)), (203, .ok (.getfield 28, 3)), (206, .ok (.aload_n 0, 1)), (207, .ok (.iconst 1, 1)), (208, .ok (.bipush 7, 2)), (210, .ok (.invokevirtual 56, 3))]
theorem da_82 : dl_82.all (fun q => decide (decode cX4_read q.1 = q.2)) = true := by decide +kernel
theorem dX4_read_128 : decode cX4_read 128 = .ok (.invokevirtual 47, 3) := dec_of (decode cX4_read) da_82 0 rfl
theorem dX4_read_131 : decode cX4_read 131 = .ok (.goto 142, 3) := dec_of (decode cX4_read) da_82 1 rfl
theorem dX4_read_134 : decode cX4_read 134 = .ok (.aload_n 0, 1) := dec_of (decode cX4_read) da_82 2 rfl
theorem dX4_read_135 : decode cX4_read 135 = .ok (.invokevirtual 50, 3) := dec_of (decode cX4_read) da_82 3 rfl
theorem dX4_read_138 : decode cX4_read 138 = .ok (.goto 135, 3) := dec_of (decode cX4_read) da_82 4 rfl
theorem dX4_read_141 : decode cX4_read 141 = .ok (.aload_n 0, 1) := dec_of (decode cX4_read) da_82 5 rfl
theorem dX4_read_142 : decode cX4_read 142 = .ok (.invokevirtual 53, 3) := dec_of (decode cX4_read) da_82 6 rfl
theorem dX4_read_145 : decode cX4_read 145 = .ok (.aload_n 0, 1) := dec_of (decode cX4_read) da_82 7 rfl
theorem dX4_read_146 : decode cX4_read 146 = .ok (.getfield 28, 3) := dec_of (decode cX4_read) da_82 8 rfl
theorem dX4_read_149 : decode cX4_read 149 = .ok (.aload_n 0, 1) := dec_of (decode cX4_read) da_82 9 rfl
theorem dX4_read_150 : decode cX4_read 150 = .ok (.iconst 0, 1) := dec_of (decode cX4_read) da_82 10 rfl
theorem dX4_read_151 : decode cX4_read 151 = .ok (.sipush 999, 3) := dec_of (decode cX4_read) da_82 11 rfl
theorem dX4_read_154 : decode cX4_read 154 = .ok (.invokevirtual 56, 3) := dec_of (decode cX4_read) da_82 12 rfl
theorem dX4_read_157 : decode cX4_read 157 = .ok (.putfield 60, 3) := dec_of (decode cX4_read) da_82 13 rfl
theorem dX4_read_160 : decode cX4_read 160 = .ok (.aload_n 0, 1) := dec_of (decode cX4_read) da_82 14 rfl
theorem dX4_read_161 : decode cX4_read 161 = .ok (.getfield 28, 3) := dec_of (decode cX4_read) da_82 15 rfl
theorem dX4_read_164 : decode cX4_read 164 = .ok (.aload_n 0, 1) := dec_of (decode cX4_read) da_82 16 rfl
theorem dX4_read_165 : decode cX4_read 165 = .ok (.iconst 1, 1) := dec_of (decode cX4_read) da_82 17 rfl
theorem dX4_read_166 : decode cX4_read 166 = .ok (.bipush 9, 2) := dec_of (decode cX4_read) da_82 18 rfl
theorem dX4_read_168 : decode cX4_read 168 = .ok (.invokevirtual 56, 3) := dec_of (decode cX4_read) da_82 19 rfl
theorem dX4_read_171 : decode cX4_read 171 = .ok (.putfield 63, 3) := dec_of (decode cX4_read) da_82 20 rfl
theorem dX4_read_174 : decode cX4_read 174 = .ok (.goto 99, 3) := dec_of (decode cX4_read) da_82 21 rfl
theorem dX4_read_177 : decode cX4_read 177 = .ok (.aload_n 0, 1) := dec_of (decode cX4_read) da_82 22 rfl
theorem dX4_read_178 : decode cX4_read 178 = .ok (.invokevirtual 53, 3) := dec_of (decode cX4_read) da_82 23 rfl
theorem dX4_read_181 : decode cX4_read 181 = .ok (.aload_n 0, 1) := dec_of (decode cX4_read) da_82 24 rfl
theorem dX4_read_182 : decode cX4_read 182 = .ok (.getfield 28, 3) := dec_of (decode cX4_read) da_82 25 rfl
theorem dX4_read_185 : decode cX4_read 185 = .ok (.aload_n 0, 1) := dec_of (decode cX4_read) da_82 26 rfl
theorem dX4_read_186 : decode cX4_read 186 = .ok (.iconst 1, 1) := dec_of (decode cX4_read) da_82 27 rfl
theorem dX4_read_187 : decode cX4_read 187 = .ok (.bipush 30, 2) := dec_of (decode cX4_read) da_82 28 rfl
theorem dX4_read_189 : decode cX4_read 189 = .ok (.invokevirtual 56, 3) := dec_of (decode cX4_read) da_82 29 rfl
theorem dX4_read_192 : decode cX4_read 192 = .ok (.putfield 66, 3) := dec_of (decode cX4_read) da_82 30 rfl
theorem dX4_read_195 : decode cX4_read 195 = .ok (.goto 78, 3) := dec_of (decode cX4_read) da_82 31 rfl
theorem dX4_read_198 : decode cX4_read 198 = .ok (.aload_n 0, 1) := dec_of (decode cX4_read) da_82 32 rfl
theorem dX4_read_199 : decode cX4_read 199 = .ok (.invokevirtual 53, 3) := dec_of (decode cX4_read) da_82 33 rfl
theorem dX4_read_202 : decode cX4_read 202 = .ok (.aload_n 0, 1) := dec_of (decode cX4_read) da_82 34 rfl
theorem dX4_read_203 : decode cX4_read 203 = .ok (.getfield 28, 3) := dec_of (decode cX4_read) da_82 35 rfl
theorem dX4_read_206 : decode cX4_read 206 = .ok (.aload_n 0, 1) := dec_of (decode cX4_read) da_82 36 rfl
theorem dX4_read_207 : decode cX4_read 207 = .ok (.iconst 1, 1) := dec_of (decode cX4_read) da_82 37 rfl
theorem dX4_read_208 : decode cX4_read 208 = .ok (.bipush 7, 2) := dec_of (decode cX4_read) da_82 38 rfl
theorem dX4_read_210 : decode cX4_read 210 = .ok (.invokevirtual 56, 3) := dec_of (decode cX4_read) da_82 39 rfl
abbrev dl_83 : List (Nat × Except DecodeError (Instr × Nat)) := [(213, .ok (.putfield 69, 3)), (216, .ok (.goto 57, 3)), (219, .ok (.aload_n 0, 1)), (220, .ok (.invokevirtual 53, 3)), (223, .ok (.aload_n 0, 1)), (224, .ok (.getfield 28, 3)), (227, .ok (.aload_n 0, 1)), (228, .ok (.iconst 0, 1)), (229, .ok (.bipush 99, 2)), (231, .ok (.invokevirtual 56, 3)), (234, .ok (.putfield 72, 3)), (237, .ok (.goto 36, 3)), (240, .ok (.aload_n 0, 1)), (241, .ok (.invokevirtual 53, 3)), (244, .ok (.aload_n 0, 1)), (245, .ok (.getfield 28, 3)), (248, .ok (.aload_n 0, 1)), (249, .ok (.iconst 0, 1)), (250, .ok (.ldc 75, 2)), (252, .ok (.invokevirtual 56, 3)), (255, .ok (.putfield 76, 3)), (258, .ok (.goto 15, 3)), (261, .ok (.aload_n 0, 1)), (262, .ok (.invokevirtual 79, 3)), (265, .ok (.goto 8, 3)), (268, .ok (.aload_n 0, 1)), (269, .ok (.iconst 1, 1)), (270, .ok (.invokevirtual 82, 3)), (273, .ok (.aload_n 0, 1)), (274, .ok (.bipush 29, 2)), (276, .ok (.invokevirtual 85, 3)), (279, .ok (.aload_n 0, 1)), (280, .ok (.getfield 28, 3)), (283, .ok (.dup, 1)), (284, .ok (.getfield 88, 3)), (287, .ok (.iconst 1, 1)), (288, .ok (.iadd, 1)), (289, .ok (.putfield 88, 3)), (292, .ok (.iinc 3 1, 3)), (295, .ok (.goto (-258), 3))]
theorem da_83 : dl_83.all (fun q => decide (decode cX4_read q.1 = q.2)) = true := by decide +kernel
theorem dX4_read_213 : decode cX4_read 213 = .ok (.putfield 69, 3) := dec_of (decode cX4_read) da_83 0 rfl
theorem dX4_read_216 : decode cX4_read 216 = .ok (.goto 57, 3) := dec_of (decode cX4_read) da_83 1 rfl
theorem dX4_read_219 : decode cX4_read 219 = .ok (.aload_n 0, 1) := dec_of (decode cX4_read) da_83 2 rfl
theorem dX4_read_220 : decode cX4_read 220 = .ok (.invokevirtual 53, 3) := dec_of (decode cX4_read) da_83 3 rfl
theorem dX4_read_223 : decode cX4_read 223 = .ok (.aload_n 0, 1) := dec_of (decode cX4_read) da_83 4 rfl
theorem dX4_read_224 : decode cX4_read 224 = .ok (.getfield 28, 3) := dec_of (decode cX4_read) da_83 5 rfl
theorem dX4_read_227 : decode cX4_read 227 = .ok (.aload_n 0, 1) := dec_of (decode cX4_read) da_83 6 rfl
theorem dX4_read_228 : decode cX4_read 228 = .ok (.iconst 0, 1) := dec_of (decode cX4_read) da_83 7 rfl
theorem dX4_read_229 : decode cX4_read 229 = .ok (.bipush 99, 2) := dec_of (decode cX4_read) da_83 8 rfl
theorem dX4_read_231 : decode cX4_read 231 = .ok (.invokevirtual 56, 3) := dec_of (decode cX4_read) da_83 9 rfl
theorem dX4_read_234 : decode cX4_read 234 = .ok (.putfield 72, 3) := dec_of (decode cX4_read) da_83 10 rfl
theorem dX4_read_237 : decode cX4_read 237 = .ok (.goto 36, 3) := dec_of (decode cX4_read) da_83 11 rfl
theorem dX4_read_240 : decode cX4_read 240 = .ok (.aload_n 0, 1) := dec_of (decode cX4_read) da_83 12 rfl
theorem dX4_read_241 : decode cX4_read 241 = .ok (.invokevirtual 53, 3) := dec_of (decode cX4_read) da_83 13 rfl
theorem dX4_read_244 : decode cX4_read 244 = .ok (.aload_n 0, 1) := dec_of (decode cX4_read) da_83 14 rfl
theorem dX4_read_245 : decode cX4_read 245 = .ok (.getfield 28, 3) := dec_of (decode cX4_read) da_83 15 rfl
theorem dX4_read_248 : decode cX4_read 248 = .ok (.aload_n 0, 1) := dec_of (decode cX4_read) da_83 16 rfl
theorem dX4_read_249 : decode cX4_read 249 = .ok (.iconst 0, 1) := dec_of (decode cX4_read) da_83 17 rfl
theorem dX4_read_250 : decode cX4_read 250 = .ok (.ldc 75, 2) := dec_of (decode cX4_read) da_83 18 rfl
theorem dX4_read_252 : decode cX4_read 252 = .ok (.invokevirtual 56, 3) := dec_of (decode cX4_read) da_83 19 rfl
theorem dX4_read_255 : decode cX4_read 255 = .ok (.putfield 76, 3) := dec_of (decode cX4_read) da_83 20 rfl
theorem dX4_read_258 : decode cX4_read 258 = .ok (.goto 15, 3) := dec_of (decode cX4_read) da_83 21 rfl
theorem dX4_read_261 : decode cX4_read 261 = .ok (.aload_n 0, 1) := dec_of (decode cX4_read) da_83 22 rfl
theorem dX4_read_262 : decode cX4_read 262 = .ok (.invokevirtual 79, 3) := dec_of (decode cX4_read) da_83 23 rfl
theorem dX4_read_265 : decode cX4_read 265 = .ok (.goto 8, 3) := dec_of (decode cX4_read) da_83 24 rfl
theorem dX4_read_268 : decode cX4_read 268 = .ok (.aload_n 0, 1) := dec_of (decode cX4_read) da_83 25 rfl
theorem dX4_read_269 : decode cX4_read 269 = .ok (.iconst 1, 1) := dec_of (decode cX4_read) da_83 26 rfl
theorem dX4_read_270 : decode cX4_read 270 = .ok (.invokevirtual 82, 3) := dec_of (decode cX4_read) da_83 27 rfl
theorem dX4_read_273 : decode cX4_read 273 = .ok (.aload_n 0, 1) := dec_of (decode cX4_read) da_83 28 rfl
theorem dX4_read_274 : decode cX4_read 274 = .ok (.bipush 29, 2) := dec_of (decode cX4_read) da_83 29 rfl
theorem dX4_read_276 : decode cX4_read 276 = .ok (.invokevirtual 85, 3) := dec_of (decode cX4_read) da_83 30 rfl
theorem dX4_read_279 : decode cX4_read 279 = .ok (.aload_n 0, 1) := dec_of (decode cX4_read) da_83 31 rfl
theorem dX4_read_280 : decode cX4_read 280 = .ok (.getfield 28, 3) := dec_of (decode cX4_read) da_83 32 rfl
theorem dX4_read_283 : decode cX4_read 283 = .ok (.dup, 1) := dec_of (decode cX4_read) da_83 33 rfl
theorem dX4_read_284 : decode cX4_read 284 = .ok (.getfield 88, 3) := dec_of (decode cX4_read) da_83 34 rfl
theorem dX4_read_287 : decode cX4_read 287 = .ok (.iconst 1, 1) := dec_of (decode cX4_read) da_83 35 rfl
theorem dX4_read_288 : decode cX4_read 288 = .ok (.iadd, 1) := dec_of (decode cX4_read) da_83 36 rfl
theorem dX4_read_289 : decode cX4_read 289 = .ok (.putfield 88, 3) := dec_of (decode cX4_read) da_83 37 rfl
theorem dX4_read_292 : decode cX4_read 292 = .ok (.iinc 3 1, 3) := dec_of (decode cX4_read) da_83 38 rfl
theorem dX4_read_295 : decode cX4_read 295 = .ok (.goto (-258), 3) := dec_of (decode cX4_read) da_83 39 rfl
abbrev dl_84 : List (Nat × Except DecodeError (Instr × Nat)) := [(298, .ok (.aload_n 0, 1)), (299, .ok (.getfield 22, 3)), (302, .ok (.ifCond .ne 7, 3)), (305, .ok (.iconst 1, 1)), (306, .ok (.goto 4, 3)), (309, .ok (.iconst 0, 1)), (310, .ok (.ireturn, 1))]
theorem da_84 : dl_84.all (fun q => decide (decode cX4_read q.1 = q.2)) = true := by decide +kernel
theorem dX4_read_298 : decode cX4_read 298 = .ok (.aload_n 0, 1) := dec_of (decode cX4_read) da_84 0 rfl
theorem dX4_read_299 : decode cX4_read 299 = .ok (.getfield 22, 3) := dec_of (decode cX4_read) da_84 1 rfl
theorem dX4_read_302 : decode cX4_read 302 = .ok (.ifCond .ne 7, 3) := dec_of (decode cX4_read) da_84 2 rfl
theorem dX4_read_305 : decode cX4_read 305 = .ok (.iconst 1, 1) := dec_of (decode cX4_read) da_84 3 rfl
theorem dX4_read_306 : decode cX4_read 306 = .ok (.goto 4, 3) := dec_of (decode cX4_read) da_84 4 rfl
theorem dX4_read_309 : decode cX4_read 309 = .ok (.iconst 0, 1) := dec_of (decode cX4_read) da_84 5 rfl
theorem dX4_read_310 : decode cX4_read 310 = .ok (.ireturn, 1) := dec_of (decode cX4_read) da_84 6 rfl
abbrev dl_85 : List (Nat × Except DecodeError (Instr × Nat)) := [(0, .ok (.aload_n 0, 1)), (1, .ok (.getfield 22, 3)), (4, .ok (.ifCond .ne 19, 3)), (7, .ok (.aload_n 0, 1)), (8, .ok (.iload_n 1, 1)), (9, .ok (.putfield 22, 3)), (12, .ok (.aload_n 0, 1)), (13, .ok (.aload_n 0, 1)), (14, .ok (.getfield 12, 3)), (17, .ok (.getfield 91, 3)), (20, .ok (.putfield 25, 3)), (23, .ok (.aload_n 0, 1)), (24, .ok (.getfield 12, 3)), (27, .ok (.bipush 28, 2)), (29, .ok (.putfield 41, 3)), (32, .ok (.return_, 1))]
theorem da_85 : dl_85.all (fun q => decide (decode cX4_refuse q.1 = q.2)) = true := by decide +kernel
theorem dX4_refuse_0 : decode cX4_refuse 0 = .ok (.aload_n 0, 1) := dec_of (decode cX4_refuse) da_85 0 rfl
theorem dX4_refuse_1 : decode cX4_refuse 1 = .ok (.getfield 22, 3) := dec_of (decode cX4_refuse) da_85 1 rfl
theorem dX4_refuse_4 : decode cX4_refuse 4 = .ok (.ifCond .ne 19, 3) := dec_of (decode cX4_refuse) da_85 2 rfl
theorem dX4_refuse_7 : decode cX4_refuse 7 = .ok (.aload_n 0, 1) := dec_of (decode cX4_refuse) da_85 3 rfl
theorem dX4_refuse_8 : decode cX4_refuse 8 = .ok (.iload_n 1, 1) := dec_of (decode cX4_refuse) da_85 4 rfl
theorem dX4_refuse_9 : decode cX4_refuse 9 = .ok (.putfield 22, 3) := dec_of (decode cX4_refuse) da_85 5 rfl
theorem dX4_refuse_12 : decode cX4_refuse 12 = .ok (.aload_n 0, 1) := dec_of (decode cX4_refuse) da_85 6 rfl
theorem dX4_refuse_13 : decode cX4_refuse 13 = .ok (.aload_n 0, 1) := dec_of (decode cX4_refuse) da_85 7 rfl
theorem dX4_refuse_14 : decode cX4_refuse 14 = .ok (.getfield 12, 3) := dec_of (decode cX4_refuse) da_85 8 rfl
theorem dX4_refuse_17 : decode cX4_refuse 17 = .ok (.getfield 91, 3) := dec_of (decode cX4_refuse) da_85 9 rfl
theorem dX4_refuse_20 : decode cX4_refuse 20 = .ok (.putfield 25, 3) := dec_of (decode cX4_refuse) da_85 10 rfl
theorem dX4_refuse_23 : decode cX4_refuse 23 = .ok (.aload_n 0, 1) := dec_of (decode cX4_refuse) da_85 11 rfl
theorem dX4_refuse_24 : decode cX4_refuse 24 = .ok (.getfield 12, 3) := dec_of (decode cX4_refuse) da_85 12 rfl
theorem dX4_refuse_27 : decode cX4_refuse 27 = .ok (.bipush 28, 2) := dec_of (decode cX4_refuse) da_85 13 rfl
theorem dX4_refuse_29 : decode cX4_refuse 29 = .ok (.putfield 41, 3) := dec_of (decode cX4_refuse) da_85 14 rfl
theorem dX4_refuse_32 : decode cX4_refuse 32 = .ok (.return_, 1) := dec_of (decode cX4_refuse) da_85 15 rfl
abbrev dl_86 : List (Nat × Except DecodeError (Instr × Nat)) := [(0, .ok (.aload_n 0, 1)), (1, .ok (.getfield 12, 3)), (4, .ok (.getfield 41, 3)), (7, .ok (.iload_n 1, 1)), (8, .ok (.if_icmp .ne 13, 3)), (11, .ok (.aload_n 0, 1)), (12, .ok (.getfield 12, 3)), (15, .ok (.invokevirtual 92, 3)), (18, .ok (.goto 8, 3)), (21, .ok (.aload_n 0, 1)), (22, .ok (.iconst 1, 1)), (23, .ok (.invokevirtual 82, 3)), (26, .ok (.return_, 1))]
theorem da_86 : dl_86.all (fun q => decide (decode cX4_take q.1 = q.2)) = true := by decide +kernel
theorem dX4_take_0 : decode cX4_take 0 = .ok (.aload_n 0, 1) := dec_of (decode cX4_take) da_86 0 rfl
theorem dX4_take_1 : decode cX4_take 1 = .ok (.getfield 12, 3) := dec_of (decode cX4_take) da_86 1 rfl
theorem dX4_take_4 : decode cX4_take 4 = .ok (.getfield 41, 3) := dec_of (decode cX4_take) da_86 2 rfl
theorem dX4_take_7 : decode cX4_take 7 = .ok (.iload_n 1, 1) := dec_of (decode cX4_take) da_86 3 rfl
theorem dX4_take_8 : decode cX4_take 8 = .ok (.if_icmp .ne 13, 3) := dec_of (decode cX4_take) da_86 4 rfl
theorem dX4_take_11 : decode cX4_take 11 = .ok (.aload_n 0, 1) := dec_of (decode cX4_take) da_86 5 rfl
theorem dX4_take_12 : decode cX4_take 12 = .ok (.getfield 12, 3) := dec_of (decode cX4_take) da_86 6 rfl
theorem dX4_take_15 : decode cX4_take 15 = .ok (.invokevirtual 92, 3) := dec_of (decode cX4_take) da_86 7 rfl
theorem dX4_take_18 : decode cX4_take 18 = .ok (.goto 8, 3) := dec_of (decode cX4_take) da_86 8 rfl
theorem dX4_take_21 : decode cX4_take 21 = .ok (.aload_n 0, 1) := dec_of (decode cX4_take) da_86 9 rfl
theorem dX4_take_22 : decode cX4_take 22 = .ok (.iconst 1, 1) := dec_of (decode cX4_take) da_86 10 rfl
theorem dX4_take_23 : decode cX4_take 23 = .ok (.invokevirtual 82, 3) := dec_of (decode cX4_take) da_86 11 rfl
theorem dX4_take_26 : decode cX4_take 26 = .ok (.return_, 1) := dec_of (decode cX4_take) da_86 12 rfl
abbrev dl_87 : List (Nat × Except DecodeError (Instr × Nat)) := [(0, .ok (.aload_n 0, 1)), (1, .ok (.getfield 12, 3)), (4, .ok (.getfield 95, 3)), (7, .ok (.istore_n 3, 1)), (8, .ok (.aload_n 0, 1)), (9, .ok (.getfield 12, 3)), (12, .ok (.getfield 41, 3)), (15, .ok (.bipush 26, 2)), (17, .ok (.if_icmp .eq 11, 3)), (20, .ok (.aload_n 0, 1)), (21, .ok (.iconst 1, 1)), (22, .ok (.invokevirtual 82, 3)), (25, .ok (.goto 28, 3)), (28, .ok (.iload_n 3, 1)), (29, .ok (.iload_n 1, 1)), (30, .ok (.if_icmp .lt 8, 3)), (33, .ok (.iload_n 3, 1)), (34, .ok (.iload_n 2, 1)), (35, .ok (.if_icmp .le 11, 3)), (38, .ok (.aload_n 0, 1)), (39, .ok (.iconst 2, 1)), (40, .ok (.invokevirtual 82, 3)), (43, .ok (.goto 10, 3)), (46, .ok (.aload_n 0, 1)), (47, .ok (.getfield 12, 3)), (50, .ok (.invokevirtual 92, 3)), (53, .ok (.iload_n 3, 1)), (54, .ok (.ireturn, 1))]
theorem da_87 : dl_87.all (fun q => decide (decode cX4_number q.1 = q.2)) = true := by decide +kernel
theorem dX4_number_0 : decode cX4_number 0 = .ok (.aload_n 0, 1) := dec_of (decode cX4_number) da_87 0 rfl
theorem dX4_number_1 : decode cX4_number 1 = .ok (.getfield 12, 3) := dec_of (decode cX4_number) da_87 1 rfl
theorem dX4_number_4 : decode cX4_number 4 = .ok (.getfield 95, 3) := dec_of (decode cX4_number) da_87 2 rfl
theorem dX4_number_7 : decode cX4_number 7 = .ok (.istore_n 3, 1) := dec_of (decode cX4_number) da_87 3 rfl
theorem dX4_number_8 : decode cX4_number 8 = .ok (.aload_n 0, 1) := dec_of (decode cX4_number) da_87 4 rfl
theorem dX4_number_9 : decode cX4_number 9 = .ok (.getfield 12, 3) := dec_of (decode cX4_number) da_87 5 rfl
theorem dX4_number_12 : decode cX4_number 12 = .ok (.getfield 41, 3) := dec_of (decode cX4_number) da_87 6 rfl
theorem dX4_number_15 : decode cX4_number 15 = .ok (.bipush 26, 2) := dec_of (decode cX4_number) da_87 7 rfl
theorem dX4_number_17 : decode cX4_number 17 = .ok (.if_icmp .eq 11, 3) := dec_of (decode cX4_number) da_87 8 rfl
theorem dX4_number_20 : decode cX4_number 20 = .ok (.aload_n 0, 1) := dec_of (decode cX4_number) da_87 9 rfl
theorem dX4_number_21 : decode cX4_number 21 = .ok (.iconst 1, 1) := dec_of (decode cX4_number) da_87 10 rfl
theorem dX4_number_22 : decode cX4_number 22 = .ok (.invokevirtual 82, 3) := dec_of (decode cX4_number) da_87 11 rfl
theorem dX4_number_25 : decode cX4_number 25 = .ok (.goto 28, 3) := dec_of (decode cX4_number) da_87 12 rfl
theorem dX4_number_28 : decode cX4_number 28 = .ok (.iload_n 3, 1) := dec_of (decode cX4_number) da_87 13 rfl
theorem dX4_number_29 : decode cX4_number 29 = .ok (.iload_n 1, 1) := dec_of (decode cX4_number) da_87 14 rfl
theorem dX4_number_30 : decode cX4_number 30 = .ok (.if_icmp .lt 8, 3) := dec_of (decode cX4_number) da_87 15 rfl
theorem dX4_number_33 : decode cX4_number 33 = .ok (.iload_n 3, 1) := dec_of (decode cX4_number) da_87 16 rfl
theorem dX4_number_34 : decode cX4_number 34 = .ok (.iload_n 2, 1) := dec_of (decode cX4_number) da_87 17 rfl
theorem dX4_number_35 : decode cX4_number 35 = .ok (.if_icmp .le 11, 3) := dec_of (decode cX4_number) da_87 18 rfl
theorem dX4_number_38 : decode cX4_number 38 = .ok (.aload_n 0, 1) := dec_of (decode cX4_number) da_87 19 rfl
theorem dX4_number_39 : decode cX4_number 39 = .ok (.iconst 2, 1) := dec_of (decode cX4_number) da_87 20 rfl
theorem dX4_number_40 : decode cX4_number 40 = .ok (.invokevirtual 82, 3) := dec_of (decode cX4_number) da_87 21 rfl
theorem dX4_number_43 : decode cX4_number 43 = .ok (.goto 10, 3) := dec_of (decode cX4_number) da_87 22 rfl
theorem dX4_number_46 : decode cX4_number 46 = .ok (.aload_n 0, 1) := dec_of (decode cX4_number) da_87 23 rfl
theorem dX4_number_47 : decode cX4_number 47 = .ok (.getfield 12, 3) := dec_of (decode cX4_number) da_87 24 rfl
theorem dX4_number_50 : decode cX4_number 50 = .ok (.invokevirtual 92, 3) := dec_of (decode cX4_number) da_87 25 rfl
theorem dX4_number_53 : decode cX4_number 53 = .ok (.iload_n 3, 1) := dec_of (decode cX4_number) da_87 26 rfl
theorem dX4_number_54 : decode cX4_number 54 = .ok (.ireturn, 1) := dec_of (decode cX4_number) da_87 27 rfl
abbrev dl_88 : List (Nat × Except DecodeError (Instr × Nat)) := [(0, .ok (.iconst 1, 1)), (1, .ok (.aload_n 0, 1)), (2, .ok (.getfield 12, 3)), (5, .ok (.getfield 41, 3)), (8, .ok (.ishl, 1)), (9, .ok (.istore_n 1, 1)), (10, .ok (.aload_n 0, 1)), (11, .ok (.getfield 18, 3)), (14, .ok (.iload_n 1, 1)), (15, .ok (.iand, 1)), (16, .ok (.ifCond .eq 11, 3)), (19, .ok (.aload_n 0, 1)), (20, .ok (.iconst 3, 1)), (21, .ok (.invokevirtual 82, 3)), (24, .ok (.goto 20, 3)), (27, .ok (.aload_n 0, 1)), (28, .ok (.dup, 1)), (29, .ok (.getfield 18, 3)), (32, .ok (.iload_n 1, 1)), (33, .ok (.ior, 1)), (34, .ok (.putfield 18, 3)), (37, .ok (.aload_n 0, 1)), (38, .ok (.getfield 12, 3)), (41, .ok (.invokevirtual 92, 3)), (44, .ok (.return_, 1))]
theorem da_88 : dl_88.all (fun q => decide (decode cX4_once q.1 = q.2)) = true := by decide +kernel
theorem dX4_once_0 : decode cX4_once 0 = .ok (.iconst 1, 1) := dec_of (decode cX4_once) da_88 0 rfl
theorem dX4_once_1 : decode cX4_once 1 = .ok (.aload_n 0, 1) := dec_of (decode cX4_once) da_88 1 rfl
theorem dX4_once_2 : decode cX4_once 2 = .ok (.getfield 12, 3) := dec_of (decode cX4_once) da_88 2 rfl
theorem dX4_once_5 : decode cX4_once 5 = .ok (.getfield 41, 3) := dec_of (decode cX4_once) da_88 3 rfl
theorem dX4_once_8 : decode cX4_once 8 = .ok (.ishl, 1) := dec_of (decode cX4_once) da_88 4 rfl
theorem dX4_once_9 : decode cX4_once 9 = .ok (.istore_n 1, 1) := dec_of (decode cX4_once) da_88 5 rfl
theorem dX4_once_10 : decode cX4_once 10 = .ok (.aload_n 0, 1) := dec_of (decode cX4_once) da_88 6 rfl
theorem dX4_once_11 : decode cX4_once 11 = .ok (.getfield 18, 3) := dec_of (decode cX4_once) da_88 7 rfl
theorem dX4_once_14 : decode cX4_once 14 = .ok (.iload_n 1, 1) := dec_of (decode cX4_once) da_88 8 rfl
theorem dX4_once_15 : decode cX4_once 15 = .ok (.iand, 1) := dec_of (decode cX4_once) da_88 9 rfl
theorem dX4_once_16 : decode cX4_once 16 = .ok (.ifCond .eq 11, 3) := dec_of (decode cX4_once) da_88 10 rfl
theorem dX4_once_19 : decode cX4_once 19 = .ok (.aload_n 0, 1) := dec_of (decode cX4_once) da_88 11 rfl
theorem dX4_once_20 : decode cX4_once 20 = .ok (.iconst 3, 1) := dec_of (decode cX4_once) da_88 12 rfl
theorem dX4_once_21 : decode cX4_once 21 = .ok (.invokevirtual 82, 3) := dec_of (decode cX4_once) da_88 13 rfl
theorem dX4_once_24 : decode cX4_once 24 = .ok (.goto 20, 3) := dec_of (decode cX4_once) da_88 14 rfl
theorem dX4_once_27 : decode cX4_once 27 = .ok (.aload_n 0, 1) := dec_of (decode cX4_once) da_88 15 rfl
theorem dX4_once_28 : decode cX4_once 28 = .ok (.dup, 1) := dec_of (decode cX4_once) da_88 16 rfl
theorem dX4_once_29 : decode cX4_once 29 = .ok (.getfield 18, 3) := dec_of (decode cX4_once) da_88 17 rfl
theorem dX4_once_32 : decode cX4_once 32 = .ok (.iload_n 1, 1) := dec_of (decode cX4_once) da_88 18 rfl
theorem dX4_once_33 : decode cX4_once 33 = .ok (.ior, 1) := dec_of (decode cX4_once) da_88 19 rfl
theorem dX4_once_34 : decode cX4_once 34 = .ok (.putfield 18, 3) := dec_of (decode cX4_once) da_88 20 rfl
theorem dX4_once_37 : decode cX4_once 37 = .ok (.aload_n 0, 1) := dec_of (decode cX4_once) da_88 21 rfl
theorem dX4_once_38 : decode cX4_once 38 = .ok (.getfield 12, 3) := dec_of (decode cX4_once) da_88 22 rfl
theorem dX4_once_41 : decode cX4_once 41 = .ok (.invokevirtual 92, 3) := dec_of (decode cX4_once) da_88 23 rfl
theorem dX4_once_44 : decode cX4_once 44 = .ok (.return_, 1) := dec_of (decode cX4_once) da_88 24 rfl
abbrev dl_89 : List (Nat × Except DecodeError (Instr × Nat)) := [(0, .ok (.aload_n 0, 1)), (1, .ok (.getfield 28, 3)), (4, .ok (.getfield 98, 3)), (7, .ok (.bipush 8, 2)), (9, .ok (.if_icmp .lt 9, 3)), (12, .ok (.aload_n 0, 1)), (13, .ok (.iconst 2, 1)), (14, .ok (.invokevirtual 82, 3)), (17, .ok (.return_, 1)), (18, .ok (.aload_n 0, 1)), (19, .ok (.getfield 28, 3)), (22, .ok (.getfield 101, 3)), (25, .ok (.aload_n 0, 1)), (26, .ok (.getfield 28, 3)), (29, .ok (.getfield 98, 3)), (32, .ok (.aaload, 1)), (33, .ok (.astore_n 1, 1)), (34, .ok (.aload_n 0, 1)), (35, .ok (.getfield 12, 3)), (38, .ok (.invokevirtual 92, 3)), (41, .ok (.aload_n 1, 1)), (42, .ok (.aload_n 0, 1)), (43, .ok (.getfield 12, 3)), (46, .ok (.getfield 95, 3)), (49, .ok (.putfield 105, 3)), (52, .ok (.aload_n 0, 1)), (53, .ok (.getfield 12, 3)), (56, .ok (.getfield 41, 3)), (59, .ok (.bipush 25, 2)), (61, .ok (.if_icmp .ne 23, 3)), (64, .ok (.aload_n 0, 1)), (65, .ok (.getfield 28, 3)), (68, .ok (.aload_n 1, 1)), (69, .ok (.getfield 105, 3)), (72, .ok (.invokevirtual 110, 3)), (75, .ok (.iconst (-1), 1)), (76, .ok (.if_icmp .eq 8, 3)), (79, .ok (.aload_n 0, 1)), (80, .ok (.iconst 3, 1)), (81, .ok (.invokevirtual 82, 3))]
theorem da_89 : dl_89.all (fun q => decide (decode cX4_readMan q.1 = q.2)) = true := by decide +kernel
theorem dX4_readMan_0 : decode cX4_readMan 0 = .ok (.aload_n 0, 1) := dec_of (decode cX4_readMan) da_89 0 rfl
theorem dX4_readMan_1 : decode cX4_readMan 1 = .ok (.getfield 28, 3) := dec_of (decode cX4_readMan) da_89 1 rfl
theorem dX4_readMan_4 : decode cX4_readMan 4 = .ok (.getfield 98, 3) := dec_of (decode cX4_readMan) da_89 2 rfl
theorem dX4_readMan_7 : decode cX4_readMan 7 = .ok (.bipush 8, 2) := dec_of (decode cX4_readMan) da_89 3 rfl
theorem dX4_readMan_9 : decode cX4_readMan 9 = .ok (.if_icmp .lt 9, 3) := dec_of (decode cX4_readMan) da_89 4 rfl
theorem dX4_readMan_12 : decode cX4_readMan 12 = .ok (.aload_n 0, 1) := dec_of (decode cX4_readMan) da_89 5 rfl
theorem dX4_readMan_13 : decode cX4_readMan 13 = .ok (.iconst 2, 1) := dec_of (decode cX4_readMan) da_89 6 rfl
theorem dX4_readMan_14 : decode cX4_readMan 14 = .ok (.invokevirtual 82, 3) := dec_of (decode cX4_readMan) da_89 7 rfl
theorem dX4_readMan_17 : decode cX4_readMan 17 = .ok (.return_, 1) := dec_of (decode cX4_readMan) da_89 8 rfl
theorem dX4_readMan_18 : decode cX4_readMan 18 = .ok (.aload_n 0, 1) := dec_of (decode cX4_readMan) da_89 9 rfl
theorem dX4_readMan_19 : decode cX4_readMan 19 = .ok (.getfield 28, 3) := dec_of (decode cX4_readMan) da_89 10 rfl
theorem dX4_readMan_22 : decode cX4_readMan 22 = .ok (.getfield 101, 3) := dec_of (decode cX4_readMan) da_89 11 rfl
theorem dX4_readMan_25 : decode cX4_readMan 25 = .ok (.aload_n 0, 1) := dec_of (decode cX4_readMan) da_89 12 rfl
theorem dX4_readMan_26 : decode cX4_readMan 26 = .ok (.getfield 28, 3) := dec_of (decode cX4_readMan) da_89 13 rfl
theorem dX4_readMan_29 : decode cX4_readMan 29 = .ok (.getfield 98, 3) := dec_of (decode cX4_readMan) da_89 14 rfl
theorem dX4_readMan_32 : decode cX4_readMan 32 = .ok (.aaload, 1) := dec_of (decode cX4_readMan) da_89 15 rfl
theorem dX4_readMan_33 : decode cX4_readMan 33 = .ok (.astore_n 1, 1) := dec_of (decode cX4_readMan) da_89 16 rfl
theorem dX4_readMan_34 : decode cX4_readMan 34 = .ok (.aload_n 0, 1) := dec_of (decode cX4_readMan) da_89 17 rfl
theorem dX4_readMan_35 : decode cX4_readMan 35 = .ok (.getfield 12, 3) := dec_of (decode cX4_readMan) da_89 18 rfl
theorem dX4_readMan_38 : decode cX4_readMan 38 = .ok (.invokevirtual 92, 3) := dec_of (decode cX4_readMan) da_89 19 rfl
theorem dX4_readMan_41 : decode cX4_readMan 41 = .ok (.aload_n 1, 1) := dec_of (decode cX4_readMan) da_89 20 rfl
theorem dX4_readMan_42 : decode cX4_readMan 42 = .ok (.aload_n 0, 1) := dec_of (decode cX4_readMan) da_89 21 rfl
theorem dX4_readMan_43 : decode cX4_readMan 43 = .ok (.getfield 12, 3) := dec_of (decode cX4_readMan) da_89 22 rfl
theorem dX4_readMan_46 : decode cX4_readMan 46 = .ok (.getfield 95, 3) := dec_of (decode cX4_readMan) da_89 23 rfl
theorem dX4_readMan_49 : decode cX4_readMan 49 = .ok (.putfield 105, 3) := dec_of (decode cX4_readMan) da_89 24 rfl
theorem dX4_readMan_52 : decode cX4_readMan 52 = .ok (.aload_n 0, 1) := dec_of (decode cX4_readMan) da_89 25 rfl
theorem dX4_readMan_53 : decode cX4_readMan 53 = .ok (.getfield 12, 3) := dec_of (decode cX4_readMan) da_89 26 rfl
theorem dX4_readMan_56 : decode cX4_readMan 56 = .ok (.getfield 41, 3) := dec_of (decode cX4_readMan) da_89 27 rfl
theorem dX4_readMan_59 : decode cX4_readMan 59 = .ok (.bipush 25, 2) := dec_of (decode cX4_readMan) da_89 28 rfl
theorem dX4_readMan_61 : decode cX4_readMan 61 = .ok (.if_icmp .ne 23, 3) := dec_of (decode cX4_readMan) da_89 29 rfl
theorem dX4_readMan_64 : decode cX4_readMan 64 = .ok (.aload_n 0, 1) := dec_of (decode cX4_readMan) da_89 30 rfl
theorem dX4_readMan_65 : decode cX4_readMan 65 = .ok (.getfield 28, 3) := dec_of (decode cX4_readMan) da_89 31 rfl
theorem dX4_readMan_68 : decode cX4_readMan 68 = .ok (.aload_n 1, 1) := dec_of (decode cX4_readMan) da_89 32 rfl
theorem dX4_readMan_69 : decode cX4_readMan 69 = .ok (.getfield 105, 3) := dec_of (decode cX4_readMan) da_89 33 rfl
theorem dX4_readMan_72 : decode cX4_readMan 72 = .ok (.invokevirtual 110, 3) := dec_of (decode cX4_readMan) da_89 34 rfl
theorem dX4_readMan_75 : decode cX4_readMan 75 = .ok (.iconst (-1), 1) := dec_of (decode cX4_readMan) da_89 35 rfl
theorem dX4_readMan_76 : decode cX4_readMan 76 = .ok (.if_icmp .eq 8, 3) := dec_of (decode cX4_readMan) da_89 36 rfl
theorem dX4_readMan_79 : decode cX4_readMan 79 = .ok (.aload_n 0, 1) := dec_of (decode cX4_readMan) da_89 37 rfl
theorem dX4_readMan_80 : decode cX4_readMan 80 = .ok (.iconst 3, 1) := dec_of (decode cX4_readMan) da_89 38 rfl
theorem dX4_readMan_81 : decode cX4_readMan 81 = .ok (.invokevirtual 82, 3) := dec_of (decode cX4_readMan) da_89 39 rfl
abbrev dl_90 : List (Nat × Except DecodeError (Instr × Nat)) := [(84, .ok (.aload_n 0, 1)), (85, .ok (.bipush 25, 2)), (87, .ok (.invokevirtual 85, 3)), (90, .ok (.aload_n 1, 1)), (91, .ok (.aload_n 0, 1)), (92, .ok (.iconst 1, 1)), (93, .ok (.bipush 99, 2)), (95, .ok (.invokevirtual 56, 3)), (98, .ok (.putfield 114, 3)), (101, .ok (.aload_n 1, 1)), (102, .ok (.aload_n 0, 1)), (103, .ok (.iconst 0, 1)), (104, .ok (.bipush 9, 2)), (106, .ok (.invokevirtual 56, 3)), (109, .ok (.putfield 117, 3)), (112, .ok (.aload_n 1, 1)), (113, .ok (.aload_n 0, 1)), (114, .ok (.iconst 1, 1)), (115, .ok (.bipush 99, 2)), (117, .ok (.invokevirtual 56, 3)), (120, .ok (.putfield 120, 3)), (123, .ok (.aload_n 1, 1)), (124, .ok (.aload_n 0, 1)), (125, .ok (.iconst 1, 1)), (126, .ok (.bipush 30, 2)), (128, .ok (.invokevirtual 56, 3)), (131, .ok (.putfield 123, 3)), (134, .ok (.aload_n 1, 1)), (135, .ok (.aload_n 0, 1)), (136, .ok (.iconst 0, 1)), (137, .ok (.bipush 99, 2)), (139, .ok (.invokevirtual 56, 3)), (142, .ok (.putfield 126, 3)), (145, .ok (.aload_n 1, 1)), (146, .ok (.aload_n 0, 1)), (147, .ok (.iconst 0, 1)), (148, .ok (.bipush 99, 2)), (150, .ok (.invokevirtual 56, 3)), (153, .ok (.putfield 129, 3)), (156, .ok (.aload_n 1, 1))]
theorem da_90 : dl_90.all (fun q => decide (decode cX4_readMan q.1 = q.2)) = true := by decide +kernel
theorem dX4_readMan_84 : decode cX4_readMan 84 = .ok (.aload_n 0, 1) := dec_of (decode cX4_readMan) da_90 0 rfl
theorem dX4_readMan_85 : decode cX4_readMan 85 = .ok (.bipush 25, 2) := dec_of (decode cX4_readMan) da_90 1 rfl
theorem dX4_readMan_87 : decode cX4_readMan 87 = .ok (.invokevirtual 85, 3) := dec_of (decode cX4_readMan) da_90 2 rfl
theorem dX4_readMan_90 : decode cX4_readMan 90 = .ok (.aload_n 1, 1) := dec_of (decode cX4_readMan) da_90 3 rfl
theorem dX4_readMan_91 : decode cX4_readMan 91 = .ok (.aload_n 0, 1) := dec_of (decode cX4_readMan) da_90 4 rfl
theorem dX4_readMan_92 : decode cX4_readMan 92 = .ok (.iconst 1, 1) := dec_of (decode cX4_readMan) da_90 5 rfl
theorem dX4_readMan_93 : decode cX4_readMan 93 = .ok (.bipush 99, 2) := dec_of (decode cX4_readMan) da_90 6 rfl
theorem dX4_readMan_95 : decode cX4_readMan 95 = .ok (.invokevirtual 56, 3) := dec_of (decode cX4_readMan) da_90 7 rfl
theorem dX4_readMan_98 : decode cX4_readMan 98 = .ok (.putfield 114, 3) := dec_of (decode cX4_readMan) da_90 8 rfl
theorem dX4_readMan_101 : decode cX4_readMan 101 = .ok (.aload_n 1, 1) := dec_of (decode cX4_readMan) da_90 9 rfl
theorem dX4_readMan_102 : decode cX4_readMan 102 = .ok (.aload_n 0, 1) := dec_of (decode cX4_readMan) da_90 10 rfl
theorem dX4_readMan_103 : decode cX4_readMan 103 = .ok (.iconst 0, 1) := dec_of (decode cX4_readMan) da_90 11 rfl
theorem dX4_readMan_104 : decode cX4_readMan 104 = .ok (.bipush 9, 2) := dec_of (decode cX4_readMan) da_90 12 rfl
theorem dX4_readMan_106 : decode cX4_readMan 106 = .ok (.invokevirtual 56, 3) := dec_of (decode cX4_readMan) da_90 13 rfl
theorem dX4_readMan_109 : decode cX4_readMan 109 = .ok (.putfield 117, 3) := dec_of (decode cX4_readMan) da_90 14 rfl
theorem dX4_readMan_112 : decode cX4_readMan 112 = .ok (.aload_n 1, 1) := dec_of (decode cX4_readMan) da_90 15 rfl
theorem dX4_readMan_113 : decode cX4_readMan 113 = .ok (.aload_n 0, 1) := dec_of (decode cX4_readMan) da_90 16 rfl
theorem dX4_readMan_114 : decode cX4_readMan 114 = .ok (.iconst 1, 1) := dec_of (decode cX4_readMan) da_90 17 rfl
theorem dX4_readMan_115 : decode cX4_readMan 115 = .ok (.bipush 99, 2) := dec_of (decode cX4_readMan) da_90 18 rfl
theorem dX4_readMan_117 : decode cX4_readMan 117 = .ok (.invokevirtual 56, 3) := dec_of (decode cX4_readMan) da_90 19 rfl
theorem dX4_readMan_120 : decode cX4_readMan 120 = .ok (.putfield 120, 3) := dec_of (decode cX4_readMan) da_90 20 rfl
theorem dX4_readMan_123 : decode cX4_readMan 123 = .ok (.aload_n 1, 1) := dec_of (decode cX4_readMan) da_90 21 rfl
theorem dX4_readMan_124 : decode cX4_readMan 124 = .ok (.aload_n 0, 1) := dec_of (decode cX4_readMan) da_90 22 rfl
theorem dX4_readMan_125 : decode cX4_readMan 125 = .ok (.iconst 1, 1) := dec_of (decode cX4_readMan) da_90 23 rfl
theorem dX4_readMan_126 : decode cX4_readMan 126 = .ok (.bipush 30, 2) := dec_of (decode cX4_readMan) da_90 24 rfl
theorem dX4_readMan_128 : decode cX4_readMan 128 = .ok (.invokevirtual 56, 3) := dec_of (decode cX4_readMan) da_90 25 rfl
theorem dX4_readMan_131 : decode cX4_readMan 131 = .ok (.putfield 123, 3) := dec_of (decode cX4_readMan) da_90 26 rfl
theorem dX4_readMan_134 : decode cX4_readMan 134 = .ok (.aload_n 1, 1) := dec_of (decode cX4_readMan) da_90 27 rfl
theorem dX4_readMan_135 : decode cX4_readMan 135 = .ok (.aload_n 0, 1) := dec_of (decode cX4_readMan) da_90 28 rfl
theorem dX4_readMan_136 : decode cX4_readMan 136 = .ok (.iconst 0, 1) := dec_of (decode cX4_readMan) da_90 29 rfl
theorem dX4_readMan_137 : decode cX4_readMan 137 = .ok (.bipush 99, 2) := dec_of (decode cX4_readMan) da_90 30 rfl
theorem dX4_readMan_139 : decode cX4_readMan 139 = .ok (.invokevirtual 56, 3) := dec_of (decode cX4_readMan) da_90 31 rfl
theorem dX4_readMan_142 : decode cX4_readMan 142 = .ok (.putfield 126, 3) := dec_of (decode cX4_readMan) da_90 32 rfl
theorem dX4_readMan_145 : decode cX4_readMan 145 = .ok (.aload_n 1, 1) := dec_of (decode cX4_readMan) da_90 33 rfl
theorem dX4_readMan_146 : decode cX4_readMan 146 = .ok (.aload_n 0, 1) := dec_of (decode cX4_readMan) da_90 34 rfl
theorem dX4_readMan_147 : decode cX4_readMan 147 = .ok (.iconst 0, 1) := dec_of (decode cX4_readMan) da_90 35 rfl
theorem dX4_readMan_148 : decode cX4_readMan 148 = .ok (.bipush 99, 2) := dec_of (decode cX4_readMan) da_90 36 rfl
theorem dX4_readMan_150 : decode cX4_readMan 150 = .ok (.invokevirtual 56, 3) := dec_of (decode cX4_readMan) da_90 37 rfl
theorem dX4_readMan_153 : decode cX4_readMan 153 = .ok (.putfield 129, 3) := dec_of (decode cX4_readMan) da_90 38 rfl
theorem dX4_readMan_156 : decode cX4_readMan 156 = .ok (.aload_n 1, 1) := dec_of (decode cX4_readMan) da_90 39 rfl
abbrev dl_91 : List (Nat × Except DecodeError (Instr × Nat)) := [(157, .ok (.aload_n 0, 1)), (158, .ok (.iconst 0, 1)), (159, .ok (.bipush 59, 2)), (161, .ok (.invokevirtual 56, 3)), (164, .ok (.putfield 132, 3)), (167, .ok (.aload_n 1, 1)), (168, .ok (.aload_n 0, 1)), (169, .ok (.getfield 12, 3)), (172, .ok (.getfield 41, 3)), (175, .ok (.bipush 15, 2)), (177, .ok (.if_icmp .ne 7, 3)), (180, .ok (.iconst 1, 1)), (181, .ok (.goto 4, 3)), (184, .ok (.iconst 0, 1)), (185, .ok (.putfield 135, 3)), (188, .ok (.aload_n 1, 1)), (189, .ok (.getfield 135, 3)), (192, .ok (.ifCond .eq 10, 3)), (195, .ok (.aload_n 0, 1)), (196, .ok (.getfield 12, 3)), (199, .ok (.invokevirtual 92, 3)), (202, .ok (.aload_n 1, 1)), (203, .ok (.iconst (-1), 1)), (204, .ok (.putfield 139, 3)), (207, .ok (.aload_n 0, 1)), (208, .ok (.getfield 28, 3)), (211, .ok (.dup, 1)), (212, .ok (.getfield 98, 3)), (215, .ok (.iconst 1, 1)), (216, .ok (.iadd, 1)), (217, .ok (.putfield 98, 3)), (220, .ok (.return_, 1))]
theorem da_91 : dl_91.all (fun q => decide (decode cX4_readMan q.1 = q.2)) = true := by decide +kernel
theorem dX4_readMan_157 : decode cX4_readMan 157 = .ok (.aload_n 0, 1) := dec_of (decode cX4_readMan) da_91 0 rfl
theorem dX4_readMan_158 : decode cX4_readMan 158 = .ok (.iconst 0, 1) := dec_of (decode cX4_readMan) da_91 1 rfl
theorem dX4_readMan_159 : decode cX4_readMan 159 = .ok (.bipush 59, 2) := dec_of (decode cX4_readMan) da_91 2 rfl
theorem dX4_readMan_161 : decode cX4_readMan 161 = .ok (.invokevirtual 56, 3) := dec_of (decode cX4_readMan) da_91 3 rfl
theorem dX4_readMan_164 : decode cX4_readMan 164 = .ok (.putfield 132, 3) := dec_of (decode cX4_readMan) da_91 4 rfl
theorem dX4_readMan_167 : decode cX4_readMan 167 = .ok (.aload_n 1, 1) := dec_of (decode cX4_readMan) da_91 5 rfl
theorem dX4_readMan_168 : decode cX4_readMan 168 = .ok (.aload_n 0, 1) := dec_of (decode cX4_readMan) da_91 6 rfl
theorem dX4_readMan_169 : decode cX4_readMan 169 = .ok (.getfield 12, 3) := dec_of (decode cX4_readMan) da_91 7 rfl
theorem dX4_readMan_172 : decode cX4_readMan 172 = .ok (.getfield 41, 3) := dec_of (decode cX4_readMan) da_91 8 rfl
theorem dX4_readMan_175 : decode cX4_readMan 175 = .ok (.bipush 15, 2) := dec_of (decode cX4_readMan) da_91 9 rfl
theorem dX4_readMan_177 : decode cX4_readMan 177 = .ok (.if_icmp .ne 7, 3) := dec_of (decode cX4_readMan) da_91 10 rfl
theorem dX4_readMan_180 : decode cX4_readMan 180 = .ok (.iconst 1, 1) := dec_of (decode cX4_readMan) da_91 11 rfl
theorem dX4_readMan_181 : decode cX4_readMan 181 = .ok (.goto 4, 3) := dec_of (decode cX4_readMan) da_91 12 rfl
theorem dX4_readMan_184 : decode cX4_readMan 184 = .ok (.iconst 0, 1) := dec_of (decode cX4_readMan) da_91 13 rfl
theorem dX4_readMan_185 : decode cX4_readMan 185 = .ok (.putfield 135, 3) := dec_of (decode cX4_readMan) da_91 14 rfl
theorem dX4_readMan_188 : decode cX4_readMan 188 = .ok (.aload_n 1, 1) := dec_of (decode cX4_readMan) da_91 15 rfl
theorem dX4_readMan_189 : decode cX4_readMan 189 = .ok (.getfield 135, 3) := dec_of (decode cX4_readMan) da_91 16 rfl
theorem dX4_readMan_192 : decode cX4_readMan 192 = .ok (.ifCond .eq 10, 3) := dec_of (decode cX4_readMan) da_91 17 rfl
theorem dX4_readMan_195 : decode cX4_readMan 195 = .ok (.aload_n 0, 1) := dec_of (decode cX4_readMan) da_91 18 rfl
theorem dX4_readMan_196 : decode cX4_readMan 196 = .ok (.getfield 12, 3) := dec_of (decode cX4_readMan) da_91 19 rfl
theorem dX4_readMan_199 : decode cX4_readMan 199 = .ok (.invokevirtual 92, 3) := dec_of (decode cX4_readMan) da_91 20 rfl
theorem dX4_readMan_202 : decode cX4_readMan 202 = .ok (.aload_n 1, 1) := dec_of (decode cX4_readMan) da_91 21 rfl
theorem dX4_readMan_203 : decode cX4_readMan 203 = .ok (.iconst (-1), 1) := dec_of (decode cX4_readMan) da_91 22 rfl
theorem dX4_readMan_204 : decode cX4_readMan 204 = .ok (.putfield 139, 3) := dec_of (decode cX4_readMan) da_91 23 rfl
theorem dX4_readMan_207 : decode cX4_readMan 207 = .ok (.aload_n 0, 1) := dec_of (decode cX4_readMan) da_91 24 rfl
theorem dX4_readMan_208 : decode cX4_readMan 208 = .ok (.getfield 28, 3) := dec_of (decode cX4_readMan) da_91 25 rfl
theorem dX4_readMan_211 : decode cX4_readMan 211 = .ok (.dup, 1) := dec_of (decode cX4_readMan) da_91 26 rfl
theorem dX4_readMan_212 : decode cX4_readMan 212 = .ok (.getfield 98, 3) := dec_of (decode cX4_readMan) da_91 27 rfl
theorem dX4_readMan_215 : decode cX4_readMan 215 = .ok (.iconst 1, 1) := dec_of (decode cX4_readMan) da_91 28 rfl
theorem dX4_readMan_216 : decode cX4_readMan 216 = .ok (.iadd, 1) := dec_of (decode cX4_readMan) da_91 29 rfl
theorem dX4_readMan_217 : decode cX4_readMan 217 = .ok (.putfield 98, 3) := dec_of (decode cX4_readMan) da_91 30 rfl
theorem dX4_readMan_220 : decode cX4_readMan 220 = .ok (.return_, 1) := dec_of (decode cX4_readMan) da_91 31 rfl
abbrev dl_92 : List (Nat × Except DecodeError (Instr × Nat)) := [(0, .ok (.aload_n 0, 1)), (1, .ok (.getfield 12, 3)), (4, .ok (.invokevirtual 92, 3)), (7, .ok (.aload_n 0, 1)), (8, .ok (.invokevirtual 142, 3)), (11, .ok (.istore_n 1, 1)), (12, .ok (.iload_n 1, 1)), (13, .ok (.iconst (-1), 1)), (14, .ok (.if_icmp .ne 4, 3)), (17, .ok (.return_, 1)), (18, .ok (.aload_n 0, 1)), (19, .ok (.getfield 28, 3)), (22, .ok (.getfield 101, 3)), (25, .ok (.iload_n 1, 1)), (26, .ok (.aaload, 1)), (27, .ok (.getfield 139, 3)), (30, .ok (.iconst (-1), 1)), (31, .ok (.if_icmp .eq 8, 3)), (34, .ok (.aload_n 0, 1)), (35, .ok (.iconst 3, 1)), (36, .ok (.invokevirtual 82, 3)), (39, .ok (.aload_n 0, 1)), (40, .ok (.bipush 25, 2)), (42, .ok (.invokevirtual 85, 3)), (45, .ok (.aload_n 0, 1)), (46, .ok (.invokevirtual 142, 3)), (49, .ok (.istore_n 2, 1)), (50, .ok (.iload_n 2, 1)), (51, .ok (.iload_n 1, 1)), (52, .ok (.if_icmp .ne 8, 3)), (55, .ok (.aload_n 0, 1)), (56, .ok (.iconst 5, 1)), (57, .ok (.invokevirtual 82, 3)), (60, .ok (.aload_n 0, 1)), (61, .ok (.bipush 25, 2)), (63, .ok (.invokevirtual 85, 3)), (66, .ok (.aload_n 0, 1)), (67, .ok (.getfield 28, 3)), (70, .ok (.getfield 101, 3)), (73, .ok (.iload_n 1, 1))]
theorem da_92 : dl_92.all (fun q => decide (decode cX4_readGuard q.1 = q.2)) = true := by decide +kernel
theorem dX4_readGuard_0 : decode cX4_readGuard 0 = .ok (.aload_n 0, 1) := dec_of (decode cX4_readGuard) da_92 0 rfl
theorem dX4_readGuard_1 : decode cX4_readGuard 1 = .ok (.getfield 12, 3) := dec_of (decode cX4_readGuard) da_92 1 rfl
theorem dX4_readGuard_4 : decode cX4_readGuard 4 = .ok (.invokevirtual 92, 3) := dec_of (decode cX4_readGuard) da_92 2 rfl
theorem dX4_readGuard_7 : decode cX4_readGuard 7 = .ok (.aload_n 0, 1) := dec_of (decode cX4_readGuard) da_92 3 rfl
theorem dX4_readGuard_8 : decode cX4_readGuard 8 = .ok (.invokevirtual 142, 3) := dec_of (decode cX4_readGuard) da_92 4 rfl
theorem dX4_readGuard_11 : decode cX4_readGuard 11 = .ok (.istore_n 1, 1) := dec_of (decode cX4_readGuard) da_92 5 rfl
theorem dX4_readGuard_12 : decode cX4_readGuard 12 = .ok (.iload_n 1, 1) := dec_of (decode cX4_readGuard) da_92 6 rfl
theorem dX4_readGuard_13 : decode cX4_readGuard 13 = .ok (.iconst (-1), 1) := dec_of (decode cX4_readGuard) da_92 7 rfl
theorem dX4_readGuard_14 : decode cX4_readGuard 14 = .ok (.if_icmp .ne 4, 3) := dec_of (decode cX4_readGuard) da_92 8 rfl
theorem dX4_readGuard_17 : decode cX4_readGuard 17 = .ok (.return_, 1) := dec_of (decode cX4_readGuard) da_92 9 rfl
theorem dX4_readGuard_18 : decode cX4_readGuard 18 = .ok (.aload_n 0, 1) := dec_of (decode cX4_readGuard) da_92 10 rfl
theorem dX4_readGuard_19 : decode cX4_readGuard 19 = .ok (.getfield 28, 3) := dec_of (decode cX4_readGuard) da_92 11 rfl
theorem dX4_readGuard_22 : decode cX4_readGuard 22 = .ok (.getfield 101, 3) := dec_of (decode cX4_readGuard) da_92 12 rfl
theorem dX4_readGuard_25 : decode cX4_readGuard 25 = .ok (.iload_n 1, 1) := dec_of (decode cX4_readGuard) da_92 13 rfl
theorem dX4_readGuard_26 : decode cX4_readGuard 26 = .ok (.aaload, 1) := dec_of (decode cX4_readGuard) da_92 14 rfl
theorem dX4_readGuard_27 : decode cX4_readGuard 27 = .ok (.getfield 139, 3) := dec_of (decode cX4_readGuard) da_92 15 rfl
theorem dX4_readGuard_30 : decode cX4_readGuard 30 = .ok (.iconst (-1), 1) := dec_of (decode cX4_readGuard) da_92 16 rfl
theorem dX4_readGuard_31 : decode cX4_readGuard 31 = .ok (.if_icmp .eq 8, 3) := dec_of (decode cX4_readGuard) da_92 17 rfl
theorem dX4_readGuard_34 : decode cX4_readGuard 34 = .ok (.aload_n 0, 1) := dec_of (decode cX4_readGuard) da_92 18 rfl
theorem dX4_readGuard_35 : decode cX4_readGuard 35 = .ok (.iconst 3, 1) := dec_of (decode cX4_readGuard) da_92 19 rfl
theorem dX4_readGuard_36 : decode cX4_readGuard 36 = .ok (.invokevirtual 82, 3) := dec_of (decode cX4_readGuard) da_92 20 rfl
theorem dX4_readGuard_39 : decode cX4_readGuard 39 = .ok (.aload_n 0, 1) := dec_of (decode cX4_readGuard) da_92 21 rfl
theorem dX4_readGuard_40 : decode cX4_readGuard 40 = .ok (.bipush 25, 2) := dec_of (decode cX4_readGuard) da_92 22 rfl
theorem dX4_readGuard_42 : decode cX4_readGuard 42 = .ok (.invokevirtual 85, 3) := dec_of (decode cX4_readGuard) da_92 23 rfl
theorem dX4_readGuard_45 : decode cX4_readGuard 45 = .ok (.aload_n 0, 1) := dec_of (decode cX4_readGuard) da_92 24 rfl
theorem dX4_readGuard_46 : decode cX4_readGuard 46 = .ok (.invokevirtual 142, 3) := dec_of (decode cX4_readGuard) da_92 25 rfl
theorem dX4_readGuard_49 : decode cX4_readGuard 49 = .ok (.istore_n 2, 1) := dec_of (decode cX4_readGuard) da_92 26 rfl
theorem dX4_readGuard_50 : decode cX4_readGuard 50 = .ok (.iload_n 2, 1) := dec_of (decode cX4_readGuard) da_92 27 rfl
theorem dX4_readGuard_51 : decode cX4_readGuard 51 = .ok (.iload_n 1, 1) := dec_of (decode cX4_readGuard) da_92 28 rfl
theorem dX4_readGuard_52 : decode cX4_readGuard 52 = .ok (.if_icmp .ne 8, 3) := dec_of (decode cX4_readGuard) da_92 29 rfl
theorem dX4_readGuard_55 : decode cX4_readGuard 55 = .ok (.aload_n 0, 1) := dec_of (decode cX4_readGuard) da_92 30 rfl
theorem dX4_readGuard_56 : decode cX4_readGuard 56 = .ok (.iconst 5, 1) := dec_of (decode cX4_readGuard) da_92 31 rfl
theorem dX4_readGuard_57 : decode cX4_readGuard 57 = .ok (.invokevirtual 82, 3) := dec_of (decode cX4_readGuard) da_92 32 rfl
theorem dX4_readGuard_60 : decode cX4_readGuard 60 = .ok (.aload_n 0, 1) := dec_of (decode cX4_readGuard) da_92 33 rfl
theorem dX4_readGuard_61 : decode cX4_readGuard 61 = .ok (.bipush 25, 2) := dec_of (decode cX4_readGuard) da_92 34 rfl
theorem dX4_readGuard_63 : decode cX4_readGuard 63 = .ok (.invokevirtual 85, 3) := dec_of (decode cX4_readGuard) da_92 35 rfl
theorem dX4_readGuard_66 : decode cX4_readGuard 66 = .ok (.aload_n 0, 1) := dec_of (decode cX4_readGuard) da_92 36 rfl
theorem dX4_readGuard_67 : decode cX4_readGuard 67 = .ok (.getfield 28, 3) := dec_of (decode cX4_readGuard) da_92 37 rfl
theorem dX4_readGuard_70 : decode cX4_readGuard 70 = .ok (.getfield 101, 3) := dec_of (decode cX4_readGuard) da_92 38 rfl
theorem dX4_readGuard_73 : decode cX4_readGuard 73 = .ok (.iload_n 1, 1) := dec_of (decode cX4_readGuard) da_92 39 rfl
abbrev dl_93 : List (Nat × Except DecodeError (Instr × Nat)) := [(74, .ok (.aaload, 1)), (75, .ok (.iload_n 2, 1)), (76, .ok (.putfield 139, 3)), (79, .ok (.return_, 1))]
theorem da_93 : dl_93.all (fun q => decide (decode cX4_readGuard q.1 = q.2)) = true := by decide +kernel
theorem dX4_readGuard_74 : decode cX4_readGuard 74 = .ok (.aaload, 1) := dec_of (decode cX4_readGuard) da_93 0 rfl
theorem dX4_readGuard_75 : decode cX4_readGuard 75 = .ok (.iload_n 2, 1) := dec_of (decode cX4_readGuard) da_93 1 rfl
theorem dX4_readGuard_76 : decode cX4_readGuard 76 = .ok (.putfield 139, 3) := dec_of (decode cX4_readGuard) da_93 2 rfl
theorem dX4_readGuard_79 : decode cX4_readGuard 79 = .ok (.return_, 1) := dec_of (decode cX4_readGuard) da_93 3 rfl
abbrev dl_94 : List (Nat × Except DecodeError (Instr × Nat)) := [(0, .ok (.aload_n 0, 1)), (1, .ok (.getfield 12, 3)), (4, .ok (.getfield 41, 3)), (7, .ok (.bipush 25, 2)), (9, .ok (.if_icmp .eq 10, 3)), (12, .ok (.aload_n 0, 1)), (13, .ok (.iconst 1, 1)), (14, .ok (.invokevirtual 82, 3)), (17, .ok (.iconst (-1), 1)), (18, .ok (.ireturn, 1)), (19, .ok (.aload_n 0, 1)), (20, .ok (.getfield 28, 3)), (23, .ok (.aload_n 0, 1)), (24, .ok (.getfield 12, 3)), (27, .ok (.getfield 95, 3)), (30, .ok (.invokevirtual 110, 3)), (33, .ok (.istore_n 1, 1)), (34, .ok (.iload_n 1, 1)), (35, .ok (.iconst (-1), 1)), (36, .ok (.if_icmp .ne 8, 3)), (39, .ok (.aload_n 0, 1)), (40, .ok (.iconst 4, 1)), (41, .ok (.invokevirtual 82, 3)), (44, .ok (.iload_n 1, 1)), (45, .ok (.ireturn, 1))]
theorem da_94 : dl_94.all (fun q => decide (decode cX4_toldMan q.1 = q.2)) = true := by decide +kernel
theorem dX4_toldMan_0 : decode cX4_toldMan 0 = .ok (.aload_n 0, 1) := dec_of (decode cX4_toldMan) da_94 0 rfl
theorem dX4_toldMan_1 : decode cX4_toldMan 1 = .ok (.getfield 12, 3) := dec_of (decode cX4_toldMan) da_94 1 rfl
theorem dX4_toldMan_4 : decode cX4_toldMan 4 = .ok (.getfield 41, 3) := dec_of (decode cX4_toldMan) da_94 2 rfl
theorem dX4_toldMan_7 : decode cX4_toldMan 7 = .ok (.bipush 25, 2) := dec_of (decode cX4_toldMan) da_94 3 rfl
theorem dX4_toldMan_9 : decode cX4_toldMan 9 = .ok (.if_icmp .eq 10, 3) := dec_of (decode cX4_toldMan) da_94 4 rfl
theorem dX4_toldMan_12 : decode cX4_toldMan 12 = .ok (.aload_n 0, 1) := dec_of (decode cX4_toldMan) da_94 5 rfl
theorem dX4_toldMan_13 : decode cX4_toldMan 13 = .ok (.iconst 1, 1) := dec_of (decode cX4_toldMan) da_94 6 rfl
theorem dX4_toldMan_14 : decode cX4_toldMan 14 = .ok (.invokevirtual 82, 3) := dec_of (decode cX4_toldMan) da_94 7 rfl
theorem dX4_toldMan_17 : decode cX4_toldMan 17 = .ok (.iconst (-1), 1) := dec_of (decode cX4_toldMan) da_94 8 rfl
theorem dX4_toldMan_18 : decode cX4_toldMan 18 = .ok (.ireturn, 1) := dec_of (decode cX4_toldMan) da_94 9 rfl
theorem dX4_toldMan_19 : decode cX4_toldMan 19 = .ok (.aload_n 0, 1) := dec_of (decode cX4_toldMan) da_94 10 rfl
theorem dX4_toldMan_20 : decode cX4_toldMan 20 = .ok (.getfield 28, 3) := dec_of (decode cX4_toldMan) da_94 11 rfl
theorem dX4_toldMan_23 : decode cX4_toldMan 23 = .ok (.aload_n 0, 1) := dec_of (decode cX4_toldMan) da_94 12 rfl
theorem dX4_toldMan_24 : decode cX4_toldMan 24 = .ok (.getfield 12, 3) := dec_of (decode cX4_toldMan) da_94 13 rfl
theorem dX4_toldMan_27 : decode cX4_toldMan 27 = .ok (.getfield 95, 3) := dec_of (decode cX4_toldMan) da_94 14 rfl
theorem dX4_toldMan_30 : decode cX4_toldMan 30 = .ok (.invokevirtual 110, 3) := dec_of (decode cX4_toldMan) da_94 15 rfl
theorem dX4_toldMan_33 : decode cX4_toldMan 33 = .ok (.istore_n 1, 1) := dec_of (decode cX4_toldMan) da_94 16 rfl
theorem dX4_toldMan_34 : decode cX4_toldMan 34 = .ok (.iload_n 1, 1) := dec_of (decode cX4_toldMan) da_94 17 rfl
theorem dX4_toldMan_35 : decode cX4_toldMan 35 = .ok (.iconst (-1), 1) := dec_of (decode cX4_toldMan) da_94 18 rfl
theorem dX4_toldMan_36 : decode cX4_toldMan 36 = .ok (.if_icmp .ne 8, 3) := dec_of (decode cX4_toldMan) da_94 19 rfl
theorem dX4_toldMan_39 : decode cX4_toldMan 39 = .ok (.aload_n 0, 1) := dec_of (decode cX4_toldMan) da_94 20 rfl
theorem dX4_toldMan_40 : decode cX4_toldMan 40 = .ok (.iconst 4, 1) := dec_of (decode cX4_toldMan) da_94 21 rfl
theorem dX4_toldMan_41 : decode cX4_toldMan 41 = .ok (.invokevirtual 82, 3) := dec_of (decode cX4_toldMan) da_94 22 rfl
theorem dX4_toldMan_44 : decode cX4_toldMan 44 = .ok (.iload_n 1, 1) := dec_of (decode cX4_toldMan) da_94 23 rfl
theorem dX4_toldMan_45 : decode cX4_toldMan 45 = .ok (.ireturn, 1) := dec_of (decode cX4_toldMan) da_94 24 rfl
abbrev dl_95 : List (Nat × Except DecodeError (Instr × Nat)) := [(0, .ok (.aload_n 0, 1)), (1, .ok (.getfield 12, 3)), (4, .ok (.invokevirtual 92, 3)), (7, .ok (.aload_n 0, 1)), (8, .ok (.getfield 12, 3)), (11, .ok (.getfield 41, 3)), (14, .ok (.istore_n 1, 1)), (15, .ok (.iload_n 1, 1)), (16, .ok (.bipush 9, 2)), (18, .ok (.if_icmp .lt 9, 3)), (21, .ok (.iload_n 1, 1)), (22, .ok (.bipush 11, 2)), (24, .ok (.if_icmp .le 9, 3)), (27, .ok (.aload_n 0, 1)), (28, .ok (.iconst 1, 1)), (29, .ok (.invokevirtual 82, 3)), (32, .ok (.return_, 1)), (33, .ok (.aload_n 0, 1)), (34, .ok (.invokevirtual 53, 3)), (37, .ok (.aload_n 0, 1)), (38, .ok (.getfield 28, 3)), (41, .ok (.getfield 146, 3)), (44, .ok (.iload_n 1, 1)), (45, .ok (.bipush 9, 2)), (47, .ok (.isub, 1)), (48, .ok (.aload_n 0, 1)), (49, .ok (.iconst 0, 1)), (50, .ok (.bipush 7, 2)), (52, .ok (.invokevirtual 56, 3)), (55, .ok (.iastore, 1)), (56, .ok (.return_, 1))]
theorem da_95 : dl_95.all (fun q => decide (decode cX4_readPower q.1 = q.2)) = true := by decide +kernel
theorem dX4_readPower_0 : decode cX4_readPower 0 = .ok (.aload_n 0, 1) := dec_of (decode cX4_readPower) da_95 0 rfl
theorem dX4_readPower_1 : decode cX4_readPower 1 = .ok (.getfield 12, 3) := dec_of (decode cX4_readPower) da_95 1 rfl
theorem dX4_readPower_4 : decode cX4_readPower 4 = .ok (.invokevirtual 92, 3) := dec_of (decode cX4_readPower) da_95 2 rfl
theorem dX4_readPower_7 : decode cX4_readPower 7 = .ok (.aload_n 0, 1) := dec_of (decode cX4_readPower) da_95 3 rfl
theorem dX4_readPower_8 : decode cX4_readPower 8 = .ok (.getfield 12, 3) := dec_of (decode cX4_readPower) da_95 4 rfl
theorem dX4_readPower_11 : decode cX4_readPower 11 = .ok (.getfield 41, 3) := dec_of (decode cX4_readPower) da_95 5 rfl
theorem dX4_readPower_14 : decode cX4_readPower 14 = .ok (.istore_n 1, 1) := dec_of (decode cX4_readPower) da_95 6 rfl
theorem dX4_readPower_15 : decode cX4_readPower 15 = .ok (.iload_n 1, 1) := dec_of (decode cX4_readPower) da_95 7 rfl
theorem dX4_readPower_16 : decode cX4_readPower 16 = .ok (.bipush 9, 2) := dec_of (decode cX4_readPower) da_95 8 rfl
theorem dX4_readPower_18 : decode cX4_readPower 18 = .ok (.if_icmp .lt 9, 3) := dec_of (decode cX4_readPower) da_95 9 rfl
theorem dX4_readPower_21 : decode cX4_readPower 21 = .ok (.iload_n 1, 1) := dec_of (decode cX4_readPower) da_95 10 rfl
theorem dX4_readPower_22 : decode cX4_readPower 22 = .ok (.bipush 11, 2) := dec_of (decode cX4_readPower) da_95 11 rfl
theorem dX4_readPower_24 : decode cX4_readPower 24 = .ok (.if_icmp .le 9, 3) := dec_of (decode cX4_readPower) da_95 12 rfl
theorem dX4_readPower_27 : decode cX4_readPower 27 = .ok (.aload_n 0, 1) := dec_of (decode cX4_readPower) da_95 13 rfl
theorem dX4_readPower_28 : decode cX4_readPower 28 = .ok (.iconst 1, 1) := dec_of (decode cX4_readPower) da_95 14 rfl
theorem dX4_readPower_29 : decode cX4_readPower 29 = .ok (.invokevirtual 82, 3) := dec_of (decode cX4_readPower) da_95 15 rfl
theorem dX4_readPower_32 : decode cX4_readPower 32 = .ok (.return_, 1) := dec_of (decode cX4_readPower) da_95 16 rfl
theorem dX4_readPower_33 : decode cX4_readPower 33 = .ok (.aload_n 0, 1) := dec_of (decode cX4_readPower) da_95 17 rfl
theorem dX4_readPower_34 : decode cX4_readPower 34 = .ok (.invokevirtual 53, 3) := dec_of (decode cX4_readPower) da_95 18 rfl
theorem dX4_readPower_37 : decode cX4_readPower 37 = .ok (.aload_n 0, 1) := dec_of (decode cX4_readPower) da_95 19 rfl
theorem dX4_readPower_38 : decode cX4_readPower 38 = .ok (.getfield 28, 3) := dec_of (decode cX4_readPower) da_95 20 rfl
theorem dX4_readPower_41 : decode cX4_readPower 41 = .ok (.getfield 146, 3) := dec_of (decode cX4_readPower) da_95 21 rfl
theorem dX4_readPower_44 : decode cX4_readPower 44 = .ok (.iload_n 1, 1) := dec_of (decode cX4_readPower) da_95 22 rfl
theorem dX4_readPower_45 : decode cX4_readPower 45 = .ok (.bipush 9, 2) := dec_of (decode cX4_readPower) da_95 23 rfl
theorem dX4_readPower_47 : decode cX4_readPower 47 = .ok (.isub, 1) := dec_of (decode cX4_readPower) da_95 24 rfl
theorem dX4_readPower_48 : decode cX4_readPower 48 = .ok (.aload_n 0, 1) := dec_of (decode cX4_readPower) da_95 25 rfl
theorem dX4_readPower_49 : decode cX4_readPower 49 = .ok (.iconst 0, 1) := dec_of (decode cX4_readPower) da_95 26 rfl
theorem dX4_readPower_50 : decode cX4_readPower 50 = .ok (.bipush 7, 2) := dec_of (decode cX4_readPower) da_95 27 rfl
theorem dX4_readPower_52 : decode cX4_readPower 52 = .ok (.invokevirtual 56, 3) := dec_of (decode cX4_readPower) da_95 28 rfl
theorem dX4_readPower_55 : decode cX4_readPower 55 = .ok (.iastore, 1) := dec_of (decode cX4_readPower) da_95 29 rfl
theorem dX4_readPower_56 : decode cX4_readPower 56 = .ok (.return_, 1) := dec_of (decode cX4_readPower) da_95 30 rfl
abbrev dl_96 : List (Nat × Except DecodeError (Instr × Nat)) := [(0, .ok (.aload_n 0, 1)), (1, .ok (.getfield 12, 3)), (4, .ok (.invokevirtual 92, 3)), (7, .ok (.aload_n 0, 1)), (8, .ok (.getfield 12, 3)), (11, .ok (.getfield 41, 3)), (14, .ok (.istore_n 1, 1)), (15, .ok (.iload_n 1, 1)), (16, .ok (.bipush 12, 2)), (18, .ok (.if_icmp .lt 9, 3)), (21, .ok (.iload_n 1, 1)), (22, .ok (.bipush 14, 2)), (24, .ok (.if_icmp .le 9, 3)), (27, .ok (.aload_n 0, 1)), (28, .ok (.iconst 1, 1)), (29, .ok (.invokevirtual 82, 3)), (32, .ok (.return_, 1)), (33, .ok (.aload_n 0, 1)), (34, .ok (.invokevirtual 53, 3)), (37, .ok (.aload_n 0, 1)), (38, .ok (.aload_n 0, 1)), (39, .ok (.getfield 28, 3)), (42, .ok (.getfield 150, 3)), (45, .ok (.iload_n 1, 1)), (46, .ok (.bipush 12, 2)), (48, .ok (.isub, 1)), (49, .ok (.aaload, 1)), (50, .ok (.putfield 154, 3)), (53, .ok (.aload_n 0, 1)), (54, .ok (.iconst 0, 1)), (55, .ok (.invokevirtual 158, 3)), (58, .ok (.return_, 1))]
theorem da_96 : dl_96.all (fun q => decide (decode cX4_readLaw q.1 = q.2)) = true := by decide +kernel
theorem dX4_readLaw_0 : decode cX4_readLaw 0 = .ok (.aload_n 0, 1) := dec_of (decode cX4_readLaw) da_96 0 rfl
theorem dX4_readLaw_1 : decode cX4_readLaw 1 = .ok (.getfield 12, 3) := dec_of (decode cX4_readLaw) da_96 1 rfl
theorem dX4_readLaw_4 : decode cX4_readLaw 4 = .ok (.invokevirtual 92, 3) := dec_of (decode cX4_readLaw) da_96 2 rfl
theorem dX4_readLaw_7 : decode cX4_readLaw 7 = .ok (.aload_n 0, 1) := dec_of (decode cX4_readLaw) da_96 3 rfl
theorem dX4_readLaw_8 : decode cX4_readLaw 8 = .ok (.getfield 12, 3) := dec_of (decode cX4_readLaw) da_96 4 rfl
theorem dX4_readLaw_11 : decode cX4_readLaw 11 = .ok (.getfield 41, 3) := dec_of (decode cX4_readLaw) da_96 5 rfl
theorem dX4_readLaw_14 : decode cX4_readLaw 14 = .ok (.istore_n 1, 1) := dec_of (decode cX4_readLaw) da_96 6 rfl
theorem dX4_readLaw_15 : decode cX4_readLaw 15 = .ok (.iload_n 1, 1) := dec_of (decode cX4_readLaw) da_96 7 rfl
theorem dX4_readLaw_16 : decode cX4_readLaw 16 = .ok (.bipush 12, 2) := dec_of (decode cX4_readLaw) da_96 8 rfl
theorem dX4_readLaw_18 : decode cX4_readLaw 18 = .ok (.if_icmp .lt 9, 3) := dec_of (decode cX4_readLaw) da_96 9 rfl
theorem dX4_readLaw_21 : decode cX4_readLaw 21 = .ok (.iload_n 1, 1) := dec_of (decode cX4_readLaw) da_96 10 rfl
theorem dX4_readLaw_22 : decode cX4_readLaw 22 = .ok (.bipush 14, 2) := dec_of (decode cX4_readLaw) da_96 11 rfl
theorem dX4_readLaw_24 : decode cX4_readLaw 24 = .ok (.if_icmp .le 9, 3) := dec_of (decode cX4_readLaw) da_96 12 rfl
theorem dX4_readLaw_27 : decode cX4_readLaw 27 = .ok (.aload_n 0, 1) := dec_of (decode cX4_readLaw) da_96 13 rfl
theorem dX4_readLaw_28 : decode cX4_readLaw 28 = .ok (.iconst 1, 1) := dec_of (decode cX4_readLaw) da_96 14 rfl
theorem dX4_readLaw_29 : decode cX4_readLaw 29 = .ok (.invokevirtual 82, 3) := dec_of (decode cX4_readLaw) da_96 15 rfl
theorem dX4_readLaw_32 : decode cX4_readLaw 32 = .ok (.return_, 1) := dec_of (decode cX4_readLaw) da_96 16 rfl
theorem dX4_readLaw_33 : decode cX4_readLaw 33 = .ok (.aload_n 0, 1) := dec_of (decode cX4_readLaw) da_96 17 rfl
theorem dX4_readLaw_34 : decode cX4_readLaw 34 = .ok (.invokevirtual 53, 3) := dec_of (decode cX4_readLaw) da_96 18 rfl
theorem dX4_readLaw_37 : decode cX4_readLaw 37 = .ok (.aload_n 0, 1) := dec_of (decode cX4_readLaw) da_96 19 rfl
theorem dX4_readLaw_38 : decode cX4_readLaw 38 = .ok (.aload_n 0, 1) := dec_of (decode cX4_readLaw) da_96 20 rfl
theorem dX4_readLaw_39 : decode cX4_readLaw 39 = .ok (.getfield 28, 3) := dec_of (decode cX4_readLaw) da_96 21 rfl
theorem dX4_readLaw_42 : decode cX4_readLaw 42 = .ok (.getfield 150, 3) := dec_of (decode cX4_readLaw) da_96 22 rfl
theorem dX4_readLaw_45 : decode cX4_readLaw 45 = .ok (.iload_n 1, 1) := dec_of (decode cX4_readLaw) da_96 23 rfl
theorem dX4_readLaw_46 : decode cX4_readLaw 46 = .ok (.bipush 12, 2) := dec_of (decode cX4_readLaw) da_96 24 rfl
theorem dX4_readLaw_48 : decode cX4_readLaw 48 = .ok (.isub, 1) := dec_of (decode cX4_readLaw) da_96 25 rfl
theorem dX4_readLaw_49 : decode cX4_readLaw 49 = .ok (.aaload, 1) := dec_of (decode cX4_readLaw) da_96 26 rfl
theorem dX4_readLaw_50 : decode cX4_readLaw 50 = .ok (.putfield 154, 3) := dec_of (decode cX4_readLaw) da_96 27 rfl
theorem dX4_readLaw_53 : decode cX4_readLaw 53 = .ok (.aload_n 0, 1) := dec_of (decode cX4_readLaw) da_96 28 rfl
theorem dX4_readLaw_54 : decode cX4_readLaw 54 = .ok (.iconst 0, 1) := dec_of (decode cX4_readLaw) da_96 29 rfl
theorem dX4_readLaw_55 : decode cX4_readLaw 55 = .ok (.invokevirtual 158, 3) := dec_of (decode cX4_readLaw) da_96 30 rfl
theorem dX4_readLaw_58 : decode cX4_readLaw 58 = .ok (.return_, 1) := dec_of (decode cX4_readLaw) da_96 31 rfl
abbrev dl_97 : List (Nat × Except DecodeError (Instr × Nat)) := [(0, .ok (.aload_n 0, 1)), (1, .ok (.getfield 28, 3)), (4, .ok (.getfield 161, 3)), (7, .ok (.bipush 64, 2)), (9, .ok (.if_icmp .lt 11, 3)), (12, .ok (.aload_n 0, 1)), (13, .ok (.iconst 2, 1)), (14, .ok (.invokevirtual 82, 3)), (17, .ok (.goto 23, 3)), (20, .ok (.aload_n 0, 1)), (21, .ok (.getfield 28, 3)), (24, .ok (.dup, 1)), (25, .ok (.getfield 161, 3)), (28, .ok (.iconst 1, 1)), (29, .ok (.iadd, 1)), (30, .ok (.putfield 161, 3)), (33, .ok (.aload_n 0, 1)), (34, .ok (.getfield 12, 3)), (37, .ok (.invokevirtual 92, 3)), (40, .ok (.return_, 1))]
theorem da_97 : dl_97.all (fun q => decide (decode cX4_knot q.1 = q.2)) = true := by decide +kernel
theorem dX4_knot_0 : decode cX4_knot 0 = .ok (.aload_n 0, 1) := dec_of (decode cX4_knot) da_97 0 rfl
theorem dX4_knot_1 : decode cX4_knot 1 = .ok (.getfield 28, 3) := dec_of (decode cX4_knot) da_97 1 rfl
theorem dX4_knot_4 : decode cX4_knot 4 = .ok (.getfield 161, 3) := dec_of (decode cX4_knot) da_97 2 rfl
theorem dX4_knot_7 : decode cX4_knot 7 = .ok (.bipush 64, 2) := dec_of (decode cX4_knot) da_97 3 rfl
theorem dX4_knot_9 : decode cX4_knot 9 = .ok (.if_icmp .lt 11, 3) := dec_of (decode cX4_knot) da_97 4 rfl
theorem dX4_knot_12 : decode cX4_knot 12 = .ok (.aload_n 0, 1) := dec_of (decode cX4_knot) da_97 5 rfl
theorem dX4_knot_13 : decode cX4_knot 13 = .ok (.iconst 2, 1) := dec_of (decode cX4_knot) da_97 6 rfl
theorem dX4_knot_14 : decode cX4_knot 14 = .ok (.invokevirtual 82, 3) := dec_of (decode cX4_knot) da_97 7 rfl
theorem dX4_knot_17 : decode cX4_knot 17 = .ok (.goto 23, 3) := dec_of (decode cX4_knot) da_97 8 rfl
theorem dX4_knot_20 : decode cX4_knot 20 = .ok (.aload_n 0, 1) := dec_of (decode cX4_knot) da_97 9 rfl
theorem dX4_knot_21 : decode cX4_knot 21 = .ok (.getfield 28, 3) := dec_of (decode cX4_knot) da_97 10 rfl
theorem dX4_knot_24 : decode cX4_knot 24 = .ok (.dup, 1) := dec_of (decode cX4_knot) da_97 11 rfl
theorem dX4_knot_25 : decode cX4_knot 25 = .ok (.getfield 161, 3) := dec_of (decode cX4_knot) da_97 12 rfl
theorem dX4_knot_28 : decode cX4_knot 28 = .ok (.iconst 1, 1) := dec_of (decode cX4_knot) da_97 13 rfl
theorem dX4_knot_29 : decode cX4_knot 29 = .ok (.iadd, 1) := dec_of (decode cX4_knot) da_97 14 rfl
theorem dX4_knot_30 : decode cX4_knot 30 = .ok (.putfield 161, 3) := dec_of (decode cX4_knot) da_97 15 rfl
theorem dX4_knot_33 : decode cX4_knot 33 = .ok (.aload_n 0, 1) := dec_of (decode cX4_knot) da_97 16 rfl
theorem dX4_knot_34 : decode cX4_knot 34 = .ok (.getfield 12, 3) := dec_of (decode cX4_knot) da_97 17 rfl
theorem dX4_knot_37 : decode cX4_knot 37 = .ok (.invokevirtual 92, 3) := dec_of (decode cX4_knot) da_97 18 rfl
theorem dX4_knot_40 : decode cX4_knot 40 = .ok (.return_, 1) := dec_of (decode cX4_knot) da_97 19 rfl
abbrev dl_98 : List (Nat × Except DecodeError (Instr × Nat)) := [(0, .ok (.aload_n 0, 1)), (1, .ok (.iload_n 1, 1)), (2, .ok (.invokevirtual 164, 3)), (5, .ok (.iconst 0, 1)), (6, .ok (.istore_n 2, 1)), (7, .ok (.iload_n 2, 1)), (8, .ok (.bipush 64, 2)), (10, .ok (.if_icmp .ge 39, 3)), (13, .ok (.aload_n 0, 1)), (14, .ok (.getfield 12, 3)), (17, .ok (.getfield 41, 3)), (20, .ok (.bipush 23, 2)), (22, .ok (.if_icmp .ne 27, 3)), (25, .ok (.aload_n 0, 1)), (26, .ok (.invokevirtual 167, 3)), (29, .ok (.aload_n 0, 1)), (30, .ok (.iload_n 1, 1)), (31, .ok (.invokevirtual 164, 3)), (34, .ok (.aload_n 0, 1)), (35, .ok (.getfield 154, 3)), (38, .ok (.bipush (-23), 2)), (40, .ok (.invokevirtual 170, 3)), (43, .ok (.iinc 2 1, 3)), (46, .ok (.goto (-39), 3)), (49, .ok (.return_, 1))]
theorem da_98 : dl_98.all (fun q => decide (decode cX4_readEither q.1 = q.2)) = true := by decide +kernel
theorem dX4_readEither_0 : decode cX4_readEither 0 = .ok (.aload_n 0, 1) := dec_of (decode cX4_readEither) da_98 0 rfl
theorem dX4_readEither_1 : decode cX4_readEither 1 = .ok (.iload_n 1, 1) := dec_of (decode cX4_readEither) da_98 1 rfl
theorem dX4_readEither_2 : decode cX4_readEither 2 = .ok (.invokevirtual 164, 3) := dec_of (decode cX4_readEither) da_98 2 rfl
theorem dX4_readEither_5 : decode cX4_readEither 5 = .ok (.iconst 0, 1) := dec_of (decode cX4_readEither) da_98 3 rfl
theorem dX4_readEither_6 : decode cX4_readEither 6 = .ok (.istore_n 2, 1) := dec_of (decode cX4_readEither) da_98 4 rfl
theorem dX4_readEither_7 : decode cX4_readEither 7 = .ok (.iload_n 2, 1) := dec_of (decode cX4_readEither) da_98 5 rfl
theorem dX4_readEither_8 : decode cX4_readEither 8 = .ok (.bipush 64, 2) := dec_of (decode cX4_readEither) da_98 6 rfl
theorem dX4_readEither_10 : decode cX4_readEither 10 = .ok (.if_icmp .ge 39, 3) := dec_of (decode cX4_readEither) da_98 7 rfl
theorem dX4_readEither_13 : decode cX4_readEither 13 = .ok (.aload_n 0, 1) := dec_of (decode cX4_readEither) da_98 8 rfl
theorem dX4_readEither_14 : decode cX4_readEither 14 = .ok (.getfield 12, 3) := dec_of (decode cX4_readEither) da_98 9 rfl
theorem dX4_readEither_17 : decode cX4_readEither 17 = .ok (.getfield 41, 3) := dec_of (decode cX4_readEither) da_98 10 rfl
theorem dX4_readEither_20 : decode cX4_readEither 20 = .ok (.bipush 23, 2) := dec_of (decode cX4_readEither) da_98 11 rfl
theorem dX4_readEither_22 : decode cX4_readEither 22 = .ok (.if_icmp .ne 27, 3) := dec_of (decode cX4_readEither) da_98 12 rfl
theorem dX4_readEither_25 : decode cX4_readEither 25 = .ok (.aload_n 0, 1) := dec_of (decode cX4_readEither) da_98 13 rfl
theorem dX4_readEither_26 : decode cX4_readEither 26 = .ok (.invokevirtual 167, 3) := dec_of (decode cX4_readEither) da_98 14 rfl
theorem dX4_readEither_29 : decode cX4_readEither 29 = .ok (.aload_n 0, 1) := dec_of (decode cX4_readEither) da_98 15 rfl
theorem dX4_readEither_30 : decode cX4_readEither 30 = .ok (.iload_n 1, 1) := dec_of (decode cX4_readEither) da_98 16 rfl
theorem dX4_readEither_31 : decode cX4_readEither 31 = .ok (.invokevirtual 164, 3) := dec_of (decode cX4_readEither) da_98 17 rfl
theorem dX4_readEither_34 : decode cX4_readEither 34 = .ok (.aload_n 0, 1) := dec_of (decode cX4_readEither) da_98 18 rfl
theorem dX4_readEither_35 : decode cX4_readEither 35 = .ok (.getfield 154, 3) := dec_of (decode cX4_readEither) da_98 19 rfl
theorem dX4_readEither_38 : decode cX4_readEither 38 = .ok (.bipush (-23), 2) := dec_of (decode cX4_readEither) da_98 20 rfl
theorem dX4_readEither_40 : decode cX4_readEither 40 = .ok (.invokevirtual 170, 3) := dec_of (decode cX4_readEither) da_98 21 rfl
theorem dX4_readEither_43 : decode cX4_readEither 43 = .ok (.iinc 2 1, 3) := dec_of (decode cX4_readEither) da_98 22 rfl
theorem dX4_readEither_46 : decode cX4_readEither 46 = .ok (.goto (-39), 3) := dec_of (decode cX4_readEither) da_98 23 rfl
theorem dX4_readEither_49 : decode cX4_readEither 49 = .ok (.return_, 1) := dec_of (decode cX4_readEither) da_98 24 rfl
abbrev dl_99 : List (Nat × Except DecodeError (Instr × Nat)) := [(0, .ok (.aload_n 0, 1)), (1, .ok (.iload_n 1, 1)), (2, .ok (.invokevirtual 175, 3)), (5, .ok (.iconst 0, 1)), (6, .ok (.istore_n 2, 1)), (7, .ok (.iload_n 2, 1)), (8, .ok (.bipush 64, 2)), (10, .ok (.if_icmp .ge 39, 3)), (13, .ok (.aload_n 0, 1)), (14, .ok (.getfield 12, 3)), (17, .ok (.getfield 41, 3)), (20, .ok (.bipush 22, 2)), (22, .ok (.if_icmp .ne 27, 3)), (25, .ok (.aload_n 0, 1)), (26, .ok (.invokevirtual 167, 3)), (29, .ok (.aload_n 0, 1)), (30, .ok (.iload_n 1, 1)), (31, .ok (.invokevirtual 175, 3)), (34, .ok (.aload_n 0, 1)), (35, .ok (.getfield 154, 3)), (38, .ok (.bipush (-22), 2)), (40, .ok (.invokevirtual 170, 3)), (43, .ok (.iinc 2 1, 3)), (46, .ok (.goto (-39), 3)), (49, .ok (.return_, 1))]
theorem da_99 : dl_99.all (fun q => decide (decode cX4_readBoth q.1 = q.2)) = true := by decide +kernel
theorem dX4_readBoth_0 : decode cX4_readBoth 0 = .ok (.aload_n 0, 1) := dec_of (decode cX4_readBoth) da_99 0 rfl
theorem dX4_readBoth_1 : decode cX4_readBoth 1 = .ok (.iload_n 1, 1) := dec_of (decode cX4_readBoth) da_99 1 rfl
theorem dX4_readBoth_2 : decode cX4_readBoth 2 = .ok (.invokevirtual 175, 3) := dec_of (decode cX4_readBoth) da_99 2 rfl
theorem dX4_readBoth_5 : decode cX4_readBoth 5 = .ok (.iconst 0, 1) := dec_of (decode cX4_readBoth) da_99 3 rfl
theorem dX4_readBoth_6 : decode cX4_readBoth 6 = .ok (.istore_n 2, 1) := dec_of (decode cX4_readBoth) da_99 4 rfl
theorem dX4_readBoth_7 : decode cX4_readBoth 7 = .ok (.iload_n 2, 1) := dec_of (decode cX4_readBoth) da_99 5 rfl
theorem dX4_readBoth_8 : decode cX4_readBoth 8 = .ok (.bipush 64, 2) := dec_of (decode cX4_readBoth) da_99 6 rfl
theorem dX4_readBoth_10 : decode cX4_readBoth 10 = .ok (.if_icmp .ge 39, 3) := dec_of (decode cX4_readBoth) da_99 7 rfl
theorem dX4_readBoth_13 : decode cX4_readBoth 13 = .ok (.aload_n 0, 1) := dec_of (decode cX4_readBoth) da_99 8 rfl
theorem dX4_readBoth_14 : decode cX4_readBoth 14 = .ok (.getfield 12, 3) := dec_of (decode cX4_readBoth) da_99 9 rfl
theorem dX4_readBoth_17 : decode cX4_readBoth 17 = .ok (.getfield 41, 3) := dec_of (decode cX4_readBoth) da_99 10 rfl
theorem dX4_readBoth_20 : decode cX4_readBoth 20 = .ok (.bipush 22, 2) := dec_of (decode cX4_readBoth) da_99 11 rfl
theorem dX4_readBoth_22 : decode cX4_readBoth 22 = .ok (.if_icmp .ne 27, 3) := dec_of (decode cX4_readBoth) da_99 12 rfl
theorem dX4_readBoth_25 : decode cX4_readBoth 25 = .ok (.aload_n 0, 1) := dec_of (decode cX4_readBoth) da_99 13 rfl
theorem dX4_readBoth_26 : decode cX4_readBoth 26 = .ok (.invokevirtual 167, 3) := dec_of (decode cX4_readBoth) da_99 14 rfl
theorem dX4_readBoth_29 : decode cX4_readBoth 29 = .ok (.aload_n 0, 1) := dec_of (decode cX4_readBoth) da_99 15 rfl
theorem dX4_readBoth_30 : decode cX4_readBoth 30 = .ok (.iload_n 1, 1) := dec_of (decode cX4_readBoth) da_99 16 rfl
theorem dX4_readBoth_31 : decode cX4_readBoth 31 = .ok (.invokevirtual 175, 3) := dec_of (decode cX4_readBoth) da_99 17 rfl
theorem dX4_readBoth_34 : decode cX4_readBoth 34 = .ok (.aload_n 0, 1) := dec_of (decode cX4_readBoth) da_99 18 rfl
theorem dX4_readBoth_35 : decode cX4_readBoth 35 = .ok (.getfield 154, 3) := dec_of (decode cX4_readBoth) da_99 19 rfl
theorem dX4_readBoth_38 : decode cX4_readBoth 38 = .ok (.bipush (-22), 2) := dec_of (decode cX4_readBoth) da_99 20 rfl
theorem dX4_readBoth_40 : decode cX4_readBoth 40 = .ok (.invokevirtual 170, 3) := dec_of (decode cX4_readBoth) da_99 21 rfl
theorem dX4_readBoth_43 : decode cX4_readBoth 43 = .ok (.iinc 2 1, 3) := dec_of (decode cX4_readBoth) da_99 22 rfl
theorem dX4_readBoth_46 : decode cX4_readBoth 46 = .ok (.goto (-39), 3) := dec_of (decode cX4_readBoth) da_99 23 rfl
theorem dX4_readBoth_49 : decode cX4_readBoth 49 = .ok (.return_, 1) := dec_of (decode cX4_readBoth) da_99 24 rfl
abbrev dl_100 : List (Nat × Except DecodeError (Instr × Nat)) := [(0, .ok (.iconst 0, 1)), (1, .ok (.istore_n 2, 1)), (2, .ok (.iload_n 2, 1)), (3, .ok (.bipush 64, 2)), (5, .ok (.if_icmp .gt 25, 3)), (8, .ok (.aload_n 0, 1)), (9, .ok (.getfield 12, 3)), (12, .ok (.getfield 41, 3)), (15, .ok (.bipush 24, 2)), (17, .ok (.if_icmp .ne 13, 3)), (20, .ok (.aload_n 0, 1)), (21, .ok (.invokevirtual 167, 3)), (24, .ok (.iinc 2 1, 3)), (27, .ok (.goto (-25), 3)), (30, .ok (.aload_n 0, 1)), (31, .ok (.iload_n 1, 1)), (32, .ok (.invokevirtual 178, 3)), (35, .ok (.iconst 0, 1)), (36, .ok (.istore_n 3, 1)), (37, .ok (.iload_n 3, 1)), (38, .ok (.iload_n 2, 1)), (39, .ok (.if_icmp .ge 18, 3)), (42, .ok (.aload_n 0, 1)), (43, .ok (.getfield 154, 3)), (46, .ok (.bipush (-24), 2)), (48, .ok (.invokevirtual 170, 3)), (51, .ok (.iinc 3 1, 3)), (54, .ok (.goto (-17), 3)), (57, .ok (.return_, 1))]
theorem da_100 : dl_100.all (fun q => decide (decode cX4_readNegated q.1 = q.2)) = true := by decide +kernel
theorem dX4_readNegated_0 : decode cX4_readNegated 0 = .ok (.iconst 0, 1) := dec_of (decode cX4_readNegated) da_100 0 rfl
theorem dX4_readNegated_1 : decode cX4_readNegated 1 = .ok (.istore_n 2, 1) := dec_of (decode cX4_readNegated) da_100 1 rfl
theorem dX4_readNegated_2 : decode cX4_readNegated 2 = .ok (.iload_n 2, 1) := dec_of (decode cX4_readNegated) da_100 2 rfl
theorem dX4_readNegated_3 : decode cX4_readNegated 3 = .ok (.bipush 64, 2) := dec_of (decode cX4_readNegated) da_100 3 rfl
theorem dX4_readNegated_5 : decode cX4_readNegated 5 = .ok (.if_icmp .gt 25, 3) := dec_of (decode cX4_readNegated) da_100 4 rfl
theorem dX4_readNegated_8 : decode cX4_readNegated 8 = .ok (.aload_n 0, 1) := dec_of (decode cX4_readNegated) da_100 5 rfl
theorem dX4_readNegated_9 : decode cX4_readNegated 9 = .ok (.getfield 12, 3) := dec_of (decode cX4_readNegated) da_100 6 rfl
theorem dX4_readNegated_12 : decode cX4_readNegated 12 = .ok (.getfield 41, 3) := dec_of (decode cX4_readNegated) da_100 7 rfl
theorem dX4_readNegated_15 : decode cX4_readNegated 15 = .ok (.bipush 24, 2) := dec_of (decode cX4_readNegated) da_100 8 rfl
theorem dX4_readNegated_17 : decode cX4_readNegated 17 = .ok (.if_icmp .ne 13, 3) := dec_of (decode cX4_readNegated) da_100 9 rfl
theorem dX4_readNegated_20 : decode cX4_readNegated 20 = .ok (.aload_n 0, 1) := dec_of (decode cX4_readNegated) da_100 10 rfl
theorem dX4_readNegated_21 : decode cX4_readNegated 21 = .ok (.invokevirtual 167, 3) := dec_of (decode cX4_readNegated) da_100 11 rfl
theorem dX4_readNegated_24 : decode cX4_readNegated 24 = .ok (.iinc 2 1, 3) := dec_of (decode cX4_readNegated) da_100 12 rfl
theorem dX4_readNegated_27 : decode cX4_readNegated 27 = .ok (.goto (-25), 3) := dec_of (decode cX4_readNegated) da_100 13 rfl
theorem dX4_readNegated_30 : decode cX4_readNegated 30 = .ok (.aload_n 0, 1) := dec_of (decode cX4_readNegated) da_100 14 rfl
theorem dX4_readNegated_31 : decode cX4_readNegated 31 = .ok (.iload_n 1, 1) := dec_of (decode cX4_readNegated) da_100 15 rfl
theorem dX4_readNegated_32 : decode cX4_readNegated 32 = .ok (.invokevirtual 178, 3) := dec_of (decode cX4_readNegated) da_100 16 rfl
theorem dX4_readNegated_35 : decode cX4_readNegated 35 = .ok (.iconst 0, 1) := dec_of (decode cX4_readNegated) da_100 17 rfl
theorem dX4_readNegated_36 : decode cX4_readNegated 36 = .ok (.istore_n 3, 1) := dec_of (decode cX4_readNegated) da_100 18 rfl
theorem dX4_readNegated_37 : decode cX4_readNegated 37 = .ok (.iload_n 3, 1) := dec_of (decode cX4_readNegated) da_100 19 rfl
theorem dX4_readNegated_38 : decode cX4_readNegated 38 = .ok (.iload_n 2, 1) := dec_of (decode cX4_readNegated) da_100 20 rfl
theorem dX4_readNegated_39 : decode cX4_readNegated 39 = .ok (.if_icmp .ge 18, 3) := dec_of (decode cX4_readNegated) da_100 21 rfl
theorem dX4_readNegated_42 : decode cX4_readNegated 42 = .ok (.aload_n 0, 1) := dec_of (decode cX4_readNegated) da_100 22 rfl
theorem dX4_readNegated_43 : decode cX4_readNegated 43 = .ok (.getfield 154, 3) := dec_of (decode cX4_readNegated) da_100 23 rfl
theorem dX4_readNegated_46 : decode cX4_readNegated 46 = .ok (.bipush (-24), 2) := dec_of (decode cX4_readNegated) da_100 24 rfl
theorem dX4_readNegated_48 : decode cX4_readNegated 48 = .ok (.invokevirtual 170, 3) := dec_of (decode cX4_readNegated) da_100 25 rfl
theorem dX4_readNegated_51 : decode cX4_readNegated 51 = .ok (.iinc 3 1, 3) := dec_of (decode cX4_readNegated) da_100 26 rfl
theorem dX4_readNegated_54 : decode cX4_readNegated 54 = .ok (.goto (-17), 3) := dec_of (decode cX4_readNegated) da_100 27 rfl
theorem dX4_readNegated_57 : decode cX4_readNegated 57 = .ok (.return_, 1) := dec_of (decode cX4_readNegated) da_100 28 rfl
abbrev dl_101 : List (Nat × Except DecodeError (Instr × Nat)) := [(0, .ok (.aload_n 0, 1)), (1, .ok (.iload_n 1, 1)), (2, .ok (.invokevirtual 181, 3)), (5, .ok (.aload_n 0, 1)), (6, .ok (.getfield 12, 3)), (9, .ok (.getfield 41, 3)), (12, .ok (.istore_n 2, 1)), (13, .ok (.iload_n 2, 1)), (14, .ok (.bipush 32, 2)), (16, .ok (.if_icmp .lt 27, 3)), (19, .ok (.iload_n 2, 1)), (20, .ok (.bipush 37, 2)), (22, .ok (.if_icmp .gt 21, 3)), (25, .ok (.aload_n 0, 1)), (26, .ok (.invokevirtual 167, 3)), (29, .ok (.aload_n 0, 1)), (30, .ok (.iload_n 1, 1)), (31, .ok (.invokevirtual 181, 3)), (34, .ok (.aload_n 0, 1)), (35, .ok (.getfield 154, 3)), (38, .ok (.iload_n 2, 1)), (39, .ok (.ineg, 1)), (40, .ok (.invokevirtual 170, 3)), (43, .ok (.return_, 1))]
theorem da_101 : dl_101.all (fun q => decide (decode cX4_readComparison q.1 = q.2)) = true := by decide +kernel
theorem dX4_readComparison_0 : decode cX4_readComparison 0 = .ok (.aload_n 0, 1) := dec_of (decode cX4_readComparison) da_101 0 rfl
theorem dX4_readComparison_1 : decode cX4_readComparison 1 = .ok (.iload_n 1, 1) := dec_of (decode cX4_readComparison) da_101 1 rfl
theorem dX4_readComparison_2 : decode cX4_readComparison 2 = .ok (.invokevirtual 181, 3) := dec_of (decode cX4_readComparison) da_101 2 rfl
theorem dX4_readComparison_5 : decode cX4_readComparison 5 = .ok (.aload_n 0, 1) := dec_of (decode cX4_readComparison) da_101 3 rfl
theorem dX4_readComparison_6 : decode cX4_readComparison 6 = .ok (.getfield 12, 3) := dec_of (decode cX4_readComparison) da_101 4 rfl
theorem dX4_readComparison_9 : decode cX4_readComparison 9 = .ok (.getfield 41, 3) := dec_of (decode cX4_readComparison) da_101 5 rfl
theorem dX4_readComparison_12 : decode cX4_readComparison 12 = .ok (.istore_n 2, 1) := dec_of (decode cX4_readComparison) da_101 6 rfl
theorem dX4_readComparison_13 : decode cX4_readComparison 13 = .ok (.iload_n 2, 1) := dec_of (decode cX4_readComparison) da_101 7 rfl
theorem dX4_readComparison_14 : decode cX4_readComparison 14 = .ok (.bipush 32, 2) := dec_of (decode cX4_readComparison) da_101 8 rfl
theorem dX4_readComparison_16 : decode cX4_readComparison 16 = .ok (.if_icmp .lt 27, 3) := dec_of (decode cX4_readComparison) da_101 9 rfl
theorem dX4_readComparison_19 : decode cX4_readComparison 19 = .ok (.iload_n 2, 1) := dec_of (decode cX4_readComparison) da_101 10 rfl
theorem dX4_readComparison_20 : decode cX4_readComparison 20 = .ok (.bipush 37, 2) := dec_of (decode cX4_readComparison) da_101 11 rfl
theorem dX4_readComparison_22 : decode cX4_readComparison 22 = .ok (.if_icmp .gt 21, 3) := dec_of (decode cX4_readComparison) da_101 12 rfl
theorem dX4_readComparison_25 : decode cX4_readComparison 25 = .ok (.aload_n 0, 1) := dec_of (decode cX4_readComparison) da_101 13 rfl
theorem dX4_readComparison_26 : decode cX4_readComparison 26 = .ok (.invokevirtual 167, 3) := dec_of (decode cX4_readComparison) da_101 14 rfl
theorem dX4_readComparison_29 : decode cX4_readComparison 29 = .ok (.aload_n 0, 1) := dec_of (decode cX4_readComparison) da_101 15 rfl
theorem dX4_readComparison_30 : decode cX4_readComparison 30 = .ok (.iload_n 1, 1) := dec_of (decode cX4_readComparison) da_101 16 rfl
theorem dX4_readComparison_31 : decode cX4_readComparison 31 = .ok (.invokevirtual 181, 3) := dec_of (decode cX4_readComparison) da_101 17 rfl
theorem dX4_readComparison_34 : decode cX4_readComparison 34 = .ok (.aload_n 0, 1) := dec_of (decode cX4_readComparison) da_101 18 rfl
theorem dX4_readComparison_35 : decode cX4_readComparison 35 = .ok (.getfield 154, 3) := dec_of (decode cX4_readComparison) da_101 19 rfl
theorem dX4_readComparison_38 : decode cX4_readComparison 38 = .ok (.iload_n 2, 1) := dec_of (decode cX4_readComparison) da_101 20 rfl
theorem dX4_readComparison_39 : decode cX4_readComparison 39 = .ok (.ineg, 1) := dec_of (decode cX4_readComparison) da_101 21 rfl
theorem dX4_readComparison_40 : decode cX4_readComparison 40 = .ok (.invokevirtual 170, 3) := dec_of (decode cX4_readComparison) da_101 22 rfl
theorem dX4_readComparison_43 : decode cX4_readComparison 43 = .ok (.return_, 1) := dec_of (decode cX4_readComparison) da_101 23 rfl
abbrev dl_102 : List (Nat × Except DecodeError (Instr × Nat)) := [(0, .ok (.aload_n 0, 1)), (1, .ok (.iload_n 1, 1)), (2, .ok (.invokevirtual 184, 3)), (5, .ok (.iconst 0, 1)), (6, .ok (.istore_n 2, 1)), (7, .ok (.iload_n 2, 1)), (8, .ok (.bipush 64, 2)), (10, .ok (.if_icmp .ge 59, 3)), (13, .ok (.aload_n 0, 1)), (14, .ok (.getfield 12, 3)), (17, .ok (.getfield 41, 3)), (20, .ok (.bipush 38, 2)), (22, .ok (.if_icmp .eq 15, 3)), (25, .ok (.aload_n 0, 1)), (26, .ok (.getfield 12, 3)), (29, .ok (.getfield 41, 3)), (32, .ok (.bipush 39, 2)), (34, .ok (.if_icmp .ne 35, 3)), (37, .ok (.aload_n 0, 1)), (38, .ok (.getfield 12, 3)), (41, .ok (.getfield 41, 3)), (44, .ok (.istore_n 3, 1)), (45, .ok (.aload_n 0, 1)), (46, .ok (.invokevirtual 167, 3)), (49, .ok (.aload_n 0, 1)), (50, .ok (.iload_n 1, 1)), (51, .ok (.invokevirtual 184, 3)), (54, .ok (.aload_n 0, 1)), (55, .ok (.getfield 154, 3)), (58, .ok (.iload_n 3, 1)), (59, .ok (.ineg, 1)), (60, .ok (.invokevirtual 170, 3)), (63, .ok (.iinc 2 1, 3)), (66, .ok (.goto (-59), 3)), (69, .ok (.return_, 1))]
theorem da_102 : dl_102.all (fun q => decide (decode cX4_readSum q.1 = q.2)) = true := by decide +kernel
theorem dX4_readSum_0 : decode cX4_readSum 0 = .ok (.aload_n 0, 1) := dec_of (decode cX4_readSum) da_102 0 rfl
theorem dX4_readSum_1 : decode cX4_readSum 1 = .ok (.iload_n 1, 1) := dec_of (decode cX4_readSum) da_102 1 rfl
theorem dX4_readSum_2 : decode cX4_readSum 2 = .ok (.invokevirtual 184, 3) := dec_of (decode cX4_readSum) da_102 2 rfl
theorem dX4_readSum_5 : decode cX4_readSum 5 = .ok (.iconst 0, 1) := dec_of (decode cX4_readSum) da_102 3 rfl
theorem dX4_readSum_6 : decode cX4_readSum 6 = .ok (.istore_n 2, 1) := dec_of (decode cX4_readSum) da_102 4 rfl
theorem dX4_readSum_7 : decode cX4_readSum 7 = .ok (.iload_n 2, 1) := dec_of (decode cX4_readSum) da_102 5 rfl
theorem dX4_readSum_8 : decode cX4_readSum 8 = .ok (.bipush 64, 2) := dec_of (decode cX4_readSum) da_102 6 rfl
theorem dX4_readSum_10 : decode cX4_readSum 10 = .ok (.if_icmp .ge 59, 3) := dec_of (decode cX4_readSum) da_102 7 rfl
theorem dX4_readSum_13 : decode cX4_readSum 13 = .ok (.aload_n 0, 1) := dec_of (decode cX4_readSum) da_102 8 rfl
theorem dX4_readSum_14 : decode cX4_readSum 14 = .ok (.getfield 12, 3) := dec_of (decode cX4_readSum) da_102 9 rfl
theorem dX4_readSum_17 : decode cX4_readSum 17 = .ok (.getfield 41, 3) := dec_of (decode cX4_readSum) da_102 10 rfl
theorem dX4_readSum_20 : decode cX4_readSum 20 = .ok (.bipush 38, 2) := dec_of (decode cX4_readSum) da_102 11 rfl
theorem dX4_readSum_22 : decode cX4_readSum 22 = .ok (.if_icmp .eq 15, 3) := dec_of (decode cX4_readSum) da_102 12 rfl
theorem dX4_readSum_25 : decode cX4_readSum 25 = .ok (.aload_n 0, 1) := dec_of (decode cX4_readSum) da_102 13 rfl
theorem dX4_readSum_26 : decode cX4_readSum 26 = .ok (.getfield 12, 3) := dec_of (decode cX4_readSum) da_102 14 rfl
theorem dX4_readSum_29 : decode cX4_readSum 29 = .ok (.getfield 41, 3) := dec_of (decode cX4_readSum) da_102 15 rfl
theorem dX4_readSum_32 : decode cX4_readSum 32 = .ok (.bipush 39, 2) := dec_of (decode cX4_readSum) da_102 16 rfl
theorem dX4_readSum_34 : decode cX4_readSum 34 = .ok (.if_icmp .ne 35, 3) := dec_of (decode cX4_readSum) da_102 17 rfl
theorem dX4_readSum_37 : decode cX4_readSum 37 = .ok (.aload_n 0, 1) := dec_of (decode cX4_readSum) da_102 18 rfl
theorem dX4_readSum_38 : decode cX4_readSum 38 = .ok (.getfield 12, 3) := dec_of (decode cX4_readSum) da_102 19 rfl
theorem dX4_readSum_41 : decode cX4_readSum 41 = .ok (.getfield 41, 3) := dec_of (decode cX4_readSum) da_102 20 rfl
theorem dX4_readSum_44 : decode cX4_readSum 44 = .ok (.istore_n 3, 1) := dec_of (decode cX4_readSum) da_102 21 rfl
theorem dX4_readSum_45 : decode cX4_readSum 45 = .ok (.aload_n 0, 1) := dec_of (decode cX4_readSum) da_102 22 rfl
theorem dX4_readSum_46 : decode cX4_readSum 46 = .ok (.invokevirtual 167, 3) := dec_of (decode cX4_readSum) da_102 23 rfl
theorem dX4_readSum_49 : decode cX4_readSum 49 = .ok (.aload_n 0, 1) := dec_of (decode cX4_readSum) da_102 24 rfl
theorem dX4_readSum_50 : decode cX4_readSum 50 = .ok (.iload_n 1, 1) := dec_of (decode cX4_readSum) da_102 25 rfl
theorem dX4_readSum_51 : decode cX4_readSum 51 = .ok (.invokevirtual 184, 3) := dec_of (decode cX4_readSum) da_102 26 rfl
theorem dX4_readSum_54 : decode cX4_readSum 54 = .ok (.aload_n 0, 1) := dec_of (decode cX4_readSum) da_102 27 rfl
theorem dX4_readSum_55 : decode cX4_readSum 55 = .ok (.getfield 154, 3) := dec_of (decode cX4_readSum) da_102 28 rfl
theorem dX4_readSum_58 : decode cX4_readSum 58 = .ok (.iload_n 3, 1) := dec_of (decode cX4_readSum) da_102 29 rfl
theorem dX4_readSum_59 : decode cX4_readSum 59 = .ok (.ineg, 1) := dec_of (decode cX4_readSum) da_102 30 rfl
theorem dX4_readSum_60 : decode cX4_readSum 60 = .ok (.invokevirtual 170, 3) := dec_of (decode cX4_readSum) da_102 31 rfl
theorem dX4_readSum_63 : decode cX4_readSum 63 = .ok (.iinc 2 1, 3) := dec_of (decode cX4_readSum) da_102 32 rfl
theorem dX4_readSum_66 : decode cX4_readSum 66 = .ok (.goto (-59), 3) := dec_of (decode cX4_readSum) da_102 33 rfl
theorem dX4_readSum_69 : decode cX4_readSum 69 = .ok (.return_, 1) := dec_of (decode cX4_readSum) da_102 34 rfl
abbrev dl_103 : List (Nat × Except DecodeError (Instr × Nat)) := [(0, .ok (.aload_n 0, 1)), (1, .ok (.iload_n 1, 1)), (2, .ok (.invokevirtual 187, 3)), (5, .ok (.iconst 0, 1)), (6, .ok (.istore_n 2, 1)), (7, .ok (.iload_n 2, 1)), (8, .ok (.bipush 64, 2)), (10, .ok (.if_icmp .ge 59, 3)), (13, .ok (.aload_n 0, 1)), (14, .ok (.getfield 12, 3)), (17, .ok (.getfield 41, 3)), (20, .ok (.bipush 40, 2)), (22, .ok (.if_icmp .eq 15, 3)), (25, .ok (.aload_n 0, 1)), (26, .ok (.getfield 12, 3)), (29, .ok (.getfield 41, 3)), (32, .ok (.bipush 41, 2)), (34, .ok (.if_icmp .ne 35, 3)), (37, .ok (.aload_n 0, 1)), (38, .ok (.getfield 12, 3)), (41, .ok (.getfield 41, 3)), (44, .ok (.istore_n 3, 1)), (45, .ok (.aload_n 0, 1)), (46, .ok (.invokevirtual 167, 3)), (49, .ok (.aload_n 0, 1)), (50, .ok (.iload_n 1, 1)), (51, .ok (.invokevirtual 187, 3)), (54, .ok (.aload_n 0, 1)), (55, .ok (.getfield 154, 3)), (58, .ok (.iload_n 3, 1)), (59, .ok (.ineg, 1)), (60, .ok (.invokevirtual 170, 3)), (63, .ok (.iinc 2 1, 3)), (66, .ok (.goto (-59), 3)), (69, .ok (.return_, 1))]
theorem da_103 : dl_103.all (fun q => decide (decode cX4_readProduct q.1 = q.2)) = true := by decide +kernel
theorem dX4_readProduct_0 : decode cX4_readProduct 0 = .ok (.aload_n 0, 1) := dec_of (decode cX4_readProduct) da_103 0 rfl
theorem dX4_readProduct_1 : decode cX4_readProduct 1 = .ok (.iload_n 1, 1) := dec_of (decode cX4_readProduct) da_103 1 rfl
theorem dX4_readProduct_2 : decode cX4_readProduct 2 = .ok (.invokevirtual 187, 3) := dec_of (decode cX4_readProduct) da_103 2 rfl
theorem dX4_readProduct_5 : decode cX4_readProduct 5 = .ok (.iconst 0, 1) := dec_of (decode cX4_readProduct) da_103 3 rfl
theorem dX4_readProduct_6 : decode cX4_readProduct 6 = .ok (.istore_n 2, 1) := dec_of (decode cX4_readProduct) da_103 4 rfl
theorem dX4_readProduct_7 : decode cX4_readProduct 7 = .ok (.iload_n 2, 1) := dec_of (decode cX4_readProduct) da_103 5 rfl
theorem dX4_readProduct_8 : decode cX4_readProduct 8 = .ok (.bipush 64, 2) := dec_of (decode cX4_readProduct) da_103 6 rfl
theorem dX4_readProduct_10 : decode cX4_readProduct 10 = .ok (.if_icmp .ge 59, 3) := dec_of (decode cX4_readProduct) da_103 7 rfl
theorem dX4_readProduct_13 : decode cX4_readProduct 13 = .ok (.aload_n 0, 1) := dec_of (decode cX4_readProduct) da_103 8 rfl
theorem dX4_readProduct_14 : decode cX4_readProduct 14 = .ok (.getfield 12, 3) := dec_of (decode cX4_readProduct) da_103 9 rfl
theorem dX4_readProduct_17 : decode cX4_readProduct 17 = .ok (.getfield 41, 3) := dec_of (decode cX4_readProduct) da_103 10 rfl
theorem dX4_readProduct_20 : decode cX4_readProduct 20 = .ok (.bipush 40, 2) := dec_of (decode cX4_readProduct) da_103 11 rfl
theorem dX4_readProduct_22 : decode cX4_readProduct 22 = .ok (.if_icmp .eq 15, 3) := dec_of (decode cX4_readProduct) da_103 12 rfl
theorem dX4_readProduct_25 : decode cX4_readProduct 25 = .ok (.aload_n 0, 1) := dec_of (decode cX4_readProduct) da_103 13 rfl
theorem dX4_readProduct_26 : decode cX4_readProduct 26 = .ok (.getfield 12, 3) := dec_of (decode cX4_readProduct) da_103 14 rfl
theorem dX4_readProduct_29 : decode cX4_readProduct 29 = .ok (.getfield 41, 3) := dec_of (decode cX4_readProduct) da_103 15 rfl
theorem dX4_readProduct_32 : decode cX4_readProduct 32 = .ok (.bipush 41, 2) := dec_of (decode cX4_readProduct) da_103 16 rfl
theorem dX4_readProduct_34 : decode cX4_readProduct 34 = .ok (.if_icmp .ne 35, 3) := dec_of (decode cX4_readProduct) da_103 17 rfl
theorem dX4_readProduct_37 : decode cX4_readProduct 37 = .ok (.aload_n 0, 1) := dec_of (decode cX4_readProduct) da_103 18 rfl
theorem dX4_readProduct_38 : decode cX4_readProduct 38 = .ok (.getfield 12, 3) := dec_of (decode cX4_readProduct) da_103 19 rfl
theorem dX4_readProduct_41 : decode cX4_readProduct 41 = .ok (.getfield 41, 3) := dec_of (decode cX4_readProduct) da_103 20 rfl
theorem dX4_readProduct_44 : decode cX4_readProduct 44 = .ok (.istore_n 3, 1) := dec_of (decode cX4_readProduct) da_103 21 rfl
theorem dX4_readProduct_45 : decode cX4_readProduct 45 = .ok (.aload_n 0, 1) := dec_of (decode cX4_readProduct) da_103 22 rfl
theorem dX4_readProduct_46 : decode cX4_readProduct 46 = .ok (.invokevirtual 167, 3) := dec_of (decode cX4_readProduct) da_103 23 rfl
theorem dX4_readProduct_49 : decode cX4_readProduct 49 = .ok (.aload_n 0, 1) := dec_of (decode cX4_readProduct) da_103 24 rfl
theorem dX4_readProduct_50 : decode cX4_readProduct 50 = .ok (.iload_n 1, 1) := dec_of (decode cX4_readProduct) da_103 25 rfl
theorem dX4_readProduct_51 : decode cX4_readProduct 51 = .ok (.invokevirtual 187, 3) := dec_of (decode cX4_readProduct) da_103 26 rfl
theorem dX4_readProduct_54 : decode cX4_readProduct 54 = .ok (.aload_n 0, 1) := dec_of (decode cX4_readProduct) da_103 27 rfl
theorem dX4_readProduct_55 : decode cX4_readProduct 55 = .ok (.getfield 154, 3) := dec_of (decode cX4_readProduct) da_103 28 rfl
theorem dX4_readProduct_58 : decode cX4_readProduct 58 = .ok (.iload_n 3, 1) := dec_of (decode cX4_readProduct) da_103 29 rfl
theorem dX4_readProduct_59 : decode cX4_readProduct 59 = .ok (.ineg, 1) := dec_of (decode cX4_readProduct) da_103 30 rfl
theorem dX4_readProduct_60 : decode cX4_readProduct 60 = .ok (.invokevirtual 170, 3) := dec_of (decode cX4_readProduct) da_103 31 rfl
theorem dX4_readProduct_63 : decode cX4_readProduct 63 = .ok (.iinc 2 1, 3) := dec_of (decode cX4_readProduct) da_103 32 rfl
theorem dX4_readProduct_66 : decode cX4_readProduct 66 = .ok (.goto (-59), 3) := dec_of (decode cX4_readProduct) da_103 33 rfl
theorem dX4_readProduct_69 : decode cX4_readProduct 69 = .ok (.return_, 1) := dec_of (decode cX4_readProduct) da_103 34 rfl
abbrev dl_104 : List (Nat × Except DecodeError (Instr × Nat)) := [(0, .ok (.aload_n 0, 1)), (1, .ok (.getfield 12, 3)), (4, .ok (.getfield 41, 3)), (7, .ok (.istore_n 2, 1)), (8, .ok (.iload_n 2, 1)), (9, .ok (.bipush 30, 2)), (11, .ok (.if_icmp .ne 17, 3)), (14, .ok (.iload_n 1, 1)), (15, .ok (.bipush 8, 2)), (17, .ok (.if_icmp .lt 11, 3)), (20, .ok (.aload_n 0, 1)), (21, .ok (.iconst 2, 1)), (22, .ok (.invokevirtual 82, 3)), (25, .ok (.goto 119, 3)), (28, .ok (.iload_n 2, 1)), (29, .ok (.bipush 30, 2)), (31, .ok (.if_icmp .ne 26, 3)), (34, .ok (.aload_n 0, 1)), (35, .ok (.getfield 12, 3)), (38, .ok (.invokevirtual 92, 3)), (41, .ok (.aload_n 0, 1)), (42, .ok (.iload_n 1, 1)), (43, .ok (.iconst 1, 1)), (44, .ok (.iadd, 1)), (45, .ok (.invokevirtual 158, 3)), (48, .ok (.aload_n 0, 1)), (49, .ok (.bipush 31, 2)), (51, .ok (.invokevirtual 85, 3)), (54, .ok (.goto 90, 3)), (57, .ok (.iload_n 2, 1)), (58, .ok (.bipush 26, 2)), (60, .ok (.if_icmp .ne 24, 3)), (63, .ok (.aload_n 0, 1)), (64, .ok (.getfield 12, 3)), (67, .ok (.getfield 95, 3)), (70, .ok (.sipush 9999, 3)), (73, .ok (.if_icmp .le 11, 3)), (76, .ok (.aload_n 0, 1)), (77, .ok (.iconst 2, 1)), (78, .ok (.invokevirtual 82, 3))]
theorem da_104 : dl_104.all (fun q => decide (decode cX4_readPart q.1 = q.2)) = true := by decide +kernel
theorem dX4_readPart_0 : decode cX4_readPart 0 = .ok (.aload_n 0, 1) := dec_of (decode cX4_readPart) da_104 0 rfl
theorem dX4_readPart_1 : decode cX4_readPart 1 = .ok (.getfield 12, 3) := dec_of (decode cX4_readPart) da_104 1 rfl
theorem dX4_readPart_4 : decode cX4_readPart 4 = .ok (.getfield 41, 3) := dec_of (decode cX4_readPart) da_104 2 rfl
theorem dX4_readPart_7 : decode cX4_readPart 7 = .ok (.istore_n 2, 1) := dec_of (decode cX4_readPart) da_104 3 rfl
theorem dX4_readPart_8 : decode cX4_readPart 8 = .ok (.iload_n 2, 1) := dec_of (decode cX4_readPart) da_104 4 rfl
theorem dX4_readPart_9 : decode cX4_readPart 9 = .ok (.bipush 30, 2) := dec_of (decode cX4_readPart) da_104 5 rfl
theorem dX4_readPart_11 : decode cX4_readPart 11 = .ok (.if_icmp .ne 17, 3) := dec_of (decode cX4_readPart) da_104 6 rfl
theorem dX4_readPart_14 : decode cX4_readPart 14 = .ok (.iload_n 1, 1) := dec_of (decode cX4_readPart) da_104 7 rfl
theorem dX4_readPart_15 : decode cX4_readPart 15 = .ok (.bipush 8, 2) := dec_of (decode cX4_readPart) da_104 8 rfl
theorem dX4_readPart_17 : decode cX4_readPart 17 = .ok (.if_icmp .lt 11, 3) := dec_of (decode cX4_readPart) da_104 9 rfl
theorem dX4_readPart_20 : decode cX4_readPart 20 = .ok (.aload_n 0, 1) := dec_of (decode cX4_readPart) da_104 10 rfl
theorem dX4_readPart_21 : decode cX4_readPart 21 = .ok (.iconst 2, 1) := dec_of (decode cX4_readPart) da_104 11 rfl
theorem dX4_readPart_22 : decode cX4_readPart 22 = .ok (.invokevirtual 82, 3) := dec_of (decode cX4_readPart) da_104 12 rfl
theorem dX4_readPart_25 : decode cX4_readPart 25 = .ok (.goto 119, 3) := dec_of (decode cX4_readPart) da_104 13 rfl
theorem dX4_readPart_28 : decode cX4_readPart 28 = .ok (.iload_n 2, 1) := dec_of (decode cX4_readPart) da_104 14 rfl
theorem dX4_readPart_29 : decode cX4_readPart 29 = .ok (.bipush 30, 2) := dec_of (decode cX4_readPart) da_104 15 rfl
theorem dX4_readPart_31 : decode cX4_readPart 31 = .ok (.if_icmp .ne 26, 3) := dec_of (decode cX4_readPart) da_104 16 rfl
theorem dX4_readPart_34 : decode cX4_readPart 34 = .ok (.aload_n 0, 1) := dec_of (decode cX4_readPart) da_104 17 rfl
theorem dX4_readPart_35 : decode cX4_readPart 35 = .ok (.getfield 12, 3) := dec_of (decode cX4_readPart) da_104 18 rfl
theorem dX4_readPart_38 : decode cX4_readPart 38 = .ok (.invokevirtual 92, 3) := dec_of (decode cX4_readPart) da_104 19 rfl
theorem dX4_readPart_41 : decode cX4_readPart 41 = .ok (.aload_n 0, 1) := dec_of (decode cX4_readPart) da_104 20 rfl
theorem dX4_readPart_42 : decode cX4_readPart 42 = .ok (.iload_n 1, 1) := dec_of (decode cX4_readPart) da_104 21 rfl
theorem dX4_readPart_43 : decode cX4_readPart 43 = .ok (.iconst 1, 1) := dec_of (decode cX4_readPart) da_104 22 rfl
theorem dX4_readPart_44 : decode cX4_readPart 44 = .ok (.iadd, 1) := dec_of (decode cX4_readPart) da_104 23 rfl
theorem dX4_readPart_45 : decode cX4_readPart 45 = .ok (.invokevirtual 158, 3) := dec_of (decode cX4_readPart) da_104 24 rfl
theorem dX4_readPart_48 : decode cX4_readPart 48 = .ok (.aload_n 0, 1) := dec_of (decode cX4_readPart) da_104 25 rfl
theorem dX4_readPart_49 : decode cX4_readPart 49 = .ok (.bipush 31, 2) := dec_of (decode cX4_readPart) da_104 26 rfl
theorem dX4_readPart_51 : decode cX4_readPart 51 = .ok (.invokevirtual 85, 3) := dec_of (decode cX4_readPart) da_104 27 rfl
theorem dX4_readPart_54 : decode cX4_readPart 54 = .ok (.goto 90, 3) := dec_of (decode cX4_readPart) da_104 28 rfl
theorem dX4_readPart_57 : decode cX4_readPart 57 = .ok (.iload_n 2, 1) := dec_of (decode cX4_readPart) da_104 29 rfl
theorem dX4_readPart_58 : decode cX4_readPart 58 = .ok (.bipush 26, 2) := dec_of (decode cX4_readPart) da_104 30 rfl
theorem dX4_readPart_60 : decode cX4_readPart 60 = .ok (.if_icmp .ne 24, 3) := dec_of (decode cX4_readPart) da_104 31 rfl
theorem dX4_readPart_63 : decode cX4_readPart 63 = .ok (.aload_n 0, 1) := dec_of (decode cX4_readPart) da_104 32 rfl
theorem dX4_readPart_64 : decode cX4_readPart 64 = .ok (.getfield 12, 3) := dec_of (decode cX4_readPart) da_104 33 rfl
theorem dX4_readPart_67 : decode cX4_readPart 67 = .ok (.getfield 95, 3) := dec_of (decode cX4_readPart) da_104 34 rfl
theorem dX4_readPart_70 : decode cX4_readPart 70 = .ok (.sipush 9999, 3) := dec_of (decode cX4_readPart) da_104 35 rfl
theorem dX4_readPart_73 : decode cX4_readPart 73 = .ok (.if_icmp .le 11, 3) := dec_of (decode cX4_readPart) da_104 36 rfl
theorem dX4_readPart_76 : decode cX4_readPart 76 = .ok (.aload_n 0, 1) := dec_of (decode cX4_readPart) da_104 37 rfl
theorem dX4_readPart_77 : decode cX4_readPart 77 = .ok (.iconst 2, 1) := dec_of (decode cX4_readPart) da_104 38 rfl
theorem dX4_readPart_78 : decode cX4_readPart 78 = .ok (.invokevirtual 82, 3) := dec_of (decode cX4_readPart) da_104 39 rfl
abbrev dl_105 : List (Nat × Except DecodeError (Instr × Nat)) := [(81, .ok (.goto 63, 3)), (84, .ok (.iload_n 2, 1)), (85, .ok (.bipush 26, 2)), (87, .ok (.if_icmp .ne 24, 3)), (90, .ok (.aload_n 0, 1)), (91, .ok (.getfield 154, 3)), (94, .ok (.aload_n 0, 1)), (95, .ok (.getfield 12, 3)), (98, .ok (.getfield 95, 3)), (101, .ok (.invokevirtual 170, 3)), (104, .ok (.aload_n 0, 1)), (105, .ok (.invokevirtual 167, 3)), (108, .ok (.goto 36, 3)), (111, .ok (.iload_n 2, 1)), (112, .ok (.bipush 16, 2)), (114, .ok (.if_icmp .lt 25, 3)), (117, .ok (.iload_n 2, 1)), (118, .ok (.bipush 21, 2)), (120, .ok (.if_icmp .gt 19, 3)), (123, .ok (.aload_n 0, 1)), (124, .ok (.getfield 154, 3)), (127, .ok (.iload_n 2, 1)), (128, .ok (.ineg, 1)), (129, .ok (.invokevirtual 170, 3)), (132, .ok (.aload_n 0, 1)), (133, .ok (.invokevirtual 167, 3)), (136, .ok (.goto 8, 3)), (139, .ok (.aload_n 0, 1)), (140, .ok (.iconst 1, 1)), (141, .ok (.invokevirtual 82, 3)), (144, .ok (.return_, 1))]
theorem da_105 : dl_105.all (fun q => decide (decode cX4_readPart q.1 = q.2)) = true := by decide +kernel
theorem dX4_readPart_81 : decode cX4_readPart 81 = .ok (.goto 63, 3) := dec_of (decode cX4_readPart) da_105 0 rfl
theorem dX4_readPart_84 : decode cX4_readPart 84 = .ok (.iload_n 2, 1) := dec_of (decode cX4_readPart) da_105 1 rfl
theorem dX4_readPart_85 : decode cX4_readPart 85 = .ok (.bipush 26, 2) := dec_of (decode cX4_readPart) da_105 2 rfl
theorem dX4_readPart_87 : decode cX4_readPart 87 = .ok (.if_icmp .ne 24, 3) := dec_of (decode cX4_readPart) da_105 3 rfl
theorem dX4_readPart_90 : decode cX4_readPart 90 = .ok (.aload_n 0, 1) := dec_of (decode cX4_readPart) da_105 4 rfl
theorem dX4_readPart_91 : decode cX4_readPart 91 = .ok (.getfield 154, 3) := dec_of (decode cX4_readPart) da_105 5 rfl
theorem dX4_readPart_94 : decode cX4_readPart 94 = .ok (.aload_n 0, 1) := dec_of (decode cX4_readPart) da_105 6 rfl
theorem dX4_readPart_95 : decode cX4_readPart 95 = .ok (.getfield 12, 3) := dec_of (decode cX4_readPart) da_105 7 rfl
theorem dX4_readPart_98 : decode cX4_readPart 98 = .ok (.getfield 95, 3) := dec_of (decode cX4_readPart) da_105 8 rfl
theorem dX4_readPart_101 : decode cX4_readPart 101 = .ok (.invokevirtual 170, 3) := dec_of (decode cX4_readPart) da_105 9 rfl
theorem dX4_readPart_104 : decode cX4_readPart 104 = .ok (.aload_n 0, 1) := dec_of (decode cX4_readPart) da_105 10 rfl
theorem dX4_readPart_105 : decode cX4_readPart 105 = .ok (.invokevirtual 167, 3) := dec_of (decode cX4_readPart) da_105 11 rfl
theorem dX4_readPart_108 : decode cX4_readPart 108 = .ok (.goto 36, 3) := dec_of (decode cX4_readPart) da_105 12 rfl
theorem dX4_readPart_111 : decode cX4_readPart 111 = .ok (.iload_n 2, 1) := dec_of (decode cX4_readPart) da_105 13 rfl
theorem dX4_readPart_112 : decode cX4_readPart 112 = .ok (.bipush 16, 2) := dec_of (decode cX4_readPart) da_105 14 rfl
theorem dX4_readPart_114 : decode cX4_readPart 114 = .ok (.if_icmp .lt 25, 3) := dec_of (decode cX4_readPart) da_105 15 rfl
theorem dX4_readPart_117 : decode cX4_readPart 117 = .ok (.iload_n 2, 1) := dec_of (decode cX4_readPart) da_105 16 rfl
theorem dX4_readPart_118 : decode cX4_readPart 118 = .ok (.bipush 21, 2) := dec_of (decode cX4_readPart) da_105 17 rfl
theorem dX4_readPart_120 : decode cX4_readPart 120 = .ok (.if_icmp .gt 19, 3) := dec_of (decode cX4_readPart) da_105 18 rfl
theorem dX4_readPart_123 : decode cX4_readPart 123 = .ok (.aload_n 0, 1) := dec_of (decode cX4_readPart) da_105 19 rfl
theorem dX4_readPart_124 : decode cX4_readPart 124 = .ok (.getfield 154, 3) := dec_of (decode cX4_readPart) da_105 20 rfl
theorem dX4_readPart_127 : decode cX4_readPart 127 = .ok (.iload_n 2, 1) := dec_of (decode cX4_readPart) da_105 21 rfl
theorem dX4_readPart_128 : decode cX4_readPart 128 = .ok (.ineg, 1) := dec_of (decode cX4_readPart) da_105 22 rfl
theorem dX4_readPart_129 : decode cX4_readPart 129 = .ok (.invokevirtual 170, 3) := dec_of (decode cX4_readPart) da_105 23 rfl
theorem dX4_readPart_132 : decode cX4_readPart 132 = .ok (.aload_n 0, 1) := dec_of (decode cX4_readPart) da_105 24 rfl
theorem dX4_readPart_133 : decode cX4_readPart 133 = .ok (.invokevirtual 167, 3) := dec_of (decode cX4_readPart) da_105 25 rfl
theorem dX4_readPart_136 : decode cX4_readPart 136 = .ok (.goto 8, 3) := dec_of (decode cX4_readPart) da_105 26 rfl
theorem dX4_readPart_139 : decode cX4_readPart 139 = .ok (.aload_n 0, 1) := dec_of (decode cX4_readPart) da_105 27 rfl
theorem dX4_readPart_140 : decode cX4_readPart 140 = .ok (.iconst 1, 1) := dec_of (decode cX4_readPart) da_105 28 rfl
theorem dX4_readPart_141 : decode cX4_readPart 141 = .ok (.invokevirtual 82, 3) := dec_of (decode cX4_readPart) da_105 29 rfl
theorem dX4_readPart_144 : decode cX4_readPart 144 = .ok (.return_, 1) := dec_of (decode cX4_readPart) da_105 30 rfl
abbrev dl_106 : List (Nat × Except DecodeError (Instr × Nat)) := [(0, .ok (.aload_n 0, 1)), (1, .ok (.invokespecial 3, 3)), (4, .ok (.aload_n 0, 1)), (5, .ok (.bipush 20, 2)), (7, .ok (.anewarray 9, 3)), (10, .ok (.putfield 11, 3)), (13, .ok (.aload_n 0, 1)), (14, .ok (.iconst 0, 1)), (15, .ok (.putfield 17, 3)), (18, .ok (.aload_n 0, 1)), (19, .ok (.iconst 0, 1)), (20, .ok (.putfield 21, 3)), (23, .ok (.iconst 0, 1)), (24, .ok (.istore_n 1, 1)), (25, .ok (.iload_n 1, 1)), (26, .ok (.bipush 20, 2)), (28, .ok (.if_icmp .ge 22, 3)), (31, .ok (.aload_n 0, 1)), (32, .ok (.getfield 11, 3)), (35, .ok (.iload_n 1, 1)), (36, .ok (.new 9, 3)), (39, .ok (.dup, 1)), (40, .ok (.invokespecial 24, 3)), (43, .ok (.aastore, 1)), (44, .ok (.iinc 1 1, 3)), (47, .ok (.goto (-22), 3)), (50, .ok (.return_, 1))]
theorem da_106 : dl_106.all (fun q => decide (decode cX5_init q.1 = q.2)) = true := by decide +kernel
theorem dX5_init_0 : decode cX5_init 0 = .ok (.aload_n 0, 1) := dec_of (decode cX5_init) da_106 0 rfl
theorem dX5_init_1 : decode cX5_init 1 = .ok (.invokespecial 3, 3) := dec_of (decode cX5_init) da_106 1 rfl
theorem dX5_init_4 : decode cX5_init 4 = .ok (.aload_n 0, 1) := dec_of (decode cX5_init) da_106 2 rfl
theorem dX5_init_5 : decode cX5_init 5 = .ok (.bipush 20, 2) := dec_of (decode cX5_init) da_106 3 rfl
theorem dX5_init_7 : decode cX5_init 7 = .ok (.anewarray 9, 3) := dec_of (decode cX5_init) da_106 4 rfl
theorem dX5_init_10 : decode cX5_init 10 = .ok (.putfield 11, 3) := dec_of (decode cX5_init) da_106 5 rfl
theorem dX5_init_13 : decode cX5_init 13 = .ok (.aload_n 0, 1) := dec_of (decode cX5_init) da_106 6 rfl
theorem dX5_init_14 : decode cX5_init 14 = .ok (.iconst 0, 1) := dec_of (decode cX5_init) da_106 7 rfl
theorem dX5_init_15 : decode cX5_init 15 = .ok (.putfield 17, 3) := dec_of (decode cX5_init) da_106 8 rfl
theorem dX5_init_18 : decode cX5_init 18 = .ok (.aload_n 0, 1) := dec_of (decode cX5_init) da_106 9 rfl
theorem dX5_init_19 : decode cX5_init 19 = .ok (.iconst 0, 1) := dec_of (decode cX5_init) da_106 10 rfl
theorem dX5_init_20 : decode cX5_init 20 = .ok (.putfield 21, 3) := dec_of (decode cX5_init) da_106 11 rfl
theorem dX5_init_23 : decode cX5_init 23 = .ok (.iconst 0, 1) := dec_of (decode cX5_init) da_106 12 rfl
theorem dX5_init_24 : decode cX5_init 24 = .ok (.istore_n 1, 1) := dec_of (decode cX5_init) da_106 13 rfl
theorem dX5_init_25 : decode cX5_init 25 = .ok (.iload_n 1, 1) := dec_of (decode cX5_init) da_106 14 rfl
theorem dX5_init_26 : decode cX5_init 26 = .ok (.bipush 20, 2) := dec_of (decode cX5_init) da_106 15 rfl
theorem dX5_init_28 : decode cX5_init 28 = .ok (.if_icmp .ge 22, 3) := dec_of (decode cX5_init) da_106 16 rfl
theorem dX5_init_31 : decode cX5_init 31 = .ok (.aload_n 0, 1) := dec_of (decode cX5_init) da_106 17 rfl
theorem dX5_init_32 : decode cX5_init 32 = .ok (.getfield 11, 3) := dec_of (decode cX5_init) da_106 18 rfl
theorem dX5_init_35 : decode cX5_init 35 = .ok (.iload_n 1, 1) := dec_of (decode cX5_init) da_106 19 rfl
theorem dX5_init_36 : decode cX5_init 36 = .ok (.new 9, 3) := dec_of (decode cX5_init) da_106 20 rfl
theorem dX5_init_39 : decode cX5_init 39 = .ok (.dup, 1) := dec_of (decode cX5_init) da_106 21 rfl
theorem dX5_init_40 : decode cX5_init 40 = .ok (.invokespecial 24, 3) := dec_of (decode cX5_init) da_106 22 rfl
theorem dX5_init_43 : decode cX5_init 43 = .ok (.aastore, 1) := dec_of (decode cX5_init) da_106 23 rfl
theorem dX5_init_44 : decode cX5_init 44 = .ok (.iinc 1 1, 3) := dec_of (decode cX5_init) da_106 24 rfl
theorem dX5_init_47 : decode cX5_init 47 = .ok (.goto (-22), 3) := dec_of (decode cX5_init) da_106 25 rfl
theorem dX5_init_50 : decode cX5_init 50 = .ok (.return_, 1) := dec_of (decode cX5_init) da_106 26 rfl
abbrev dl_107 : List (Nat × Except DecodeError (Instr × Nat)) := [(0, .ok (.aload_n 0, 1)), (1, .ok (.iconst 0, 1)), (2, .ok (.putfield 21, 3)), (5, .ok (.return_, 1))]
theorem da_107 : dl_107.all (fun q => decide (decode cX5_clear q.1 = q.2)) = true := by decide +kernel
theorem dX5_clear_0 : decode cX5_clear 0 = .ok (.aload_n 0, 1) := dec_of (decode cX5_clear) da_107 0 rfl
theorem dX5_clear_1 : decode cX5_clear 1 = .ok (.iconst 0, 1) := dec_of (decode cX5_clear) da_107 1 rfl
theorem dX5_clear_2 : decode cX5_clear 2 = .ok (.putfield 21, 3) := dec_of (decode cX5_clear) da_107 2 rfl
theorem dX5_clear_5 : decode cX5_clear 5 = .ok (.return_, 1) := dec_of (decode cX5_clear) da_107 3 rfl
abbrev dl_108 : List (Nat × Except DecodeError (Instr × Nat)) := [(0, .ok (.aload_n 0, 1)), (1, .ok (.getfield 11, 3)), (4, .ok (.aload_n 0, 1)), (5, .ok (.getfield 17, 3)), (8, .ok (.aload_n 0, 1)), (9, .ok (.getfield 21, 3)), (12, .ok (.iadd, 1)), (13, .ok (.bipush 20, 2)), (15, .ok (.irem, 1)), (16, .ok (.aaload, 1)), (17, .ok (.aload_n 1, 1)), (18, .ok (.invokevirtual 25, 3)), (21, .ok (.aload_n 0, 1)), (22, .ok (.getfield 21, 3)), (25, .ok (.bipush 20, 2)), (27, .ok (.if_icmp .ge 16, 3)), (30, .ok (.aload_n 0, 1)), (31, .ok (.dup, 1)), (32, .ok (.getfield 21, 3)), (35, .ok (.iconst 1, 1)), (36, .ok (.iadd, 1)), (37, .ok (.putfield 21, 3)), (40, .ok (.goto 16, 3)), (43, .ok (.aload_n 0, 1)), (44, .ok (.aload_n 0, 1)), (45, .ok (.getfield 17, 3)), (48, .ok (.iconst 1, 1)), (49, .ok (.iadd, 1)), (50, .ok (.bipush 20, 2)), (52, .ok (.irem, 1)), (53, .ok (.putfield 17, 3)), (56, .ok (.return_, 1))]
theorem da_108 : dl_108.all (fun q => decide (decode cX5_remember q.1 = q.2)) = true := by decide +kernel
theorem dX5_remember_0 : decode cX5_remember 0 = .ok (.aload_n 0, 1) := dec_of (decode cX5_remember) da_108 0 rfl
theorem dX5_remember_1 : decode cX5_remember 1 = .ok (.getfield 11, 3) := dec_of (decode cX5_remember) da_108 1 rfl
theorem dX5_remember_4 : decode cX5_remember 4 = .ok (.aload_n 0, 1) := dec_of (decode cX5_remember) da_108 2 rfl
theorem dX5_remember_5 : decode cX5_remember 5 = .ok (.getfield 17, 3) := dec_of (decode cX5_remember) da_108 3 rfl
theorem dX5_remember_8 : decode cX5_remember 8 = .ok (.aload_n 0, 1) := dec_of (decode cX5_remember) da_108 4 rfl
theorem dX5_remember_9 : decode cX5_remember 9 = .ok (.getfield 21, 3) := dec_of (decode cX5_remember) da_108 5 rfl
theorem dX5_remember_12 : decode cX5_remember 12 = .ok (.iadd, 1) := dec_of (decode cX5_remember) da_108 6 rfl
theorem dX5_remember_13 : decode cX5_remember 13 = .ok (.bipush 20, 2) := dec_of (decode cX5_remember) da_108 7 rfl
theorem dX5_remember_15 : decode cX5_remember 15 = .ok (.irem, 1) := dec_of (decode cX5_remember) da_108 8 rfl
theorem dX5_remember_16 : decode cX5_remember 16 = .ok (.aaload, 1) := dec_of (decode cX5_remember) da_108 9 rfl
theorem dX5_remember_17 : decode cX5_remember 17 = .ok (.aload_n 1, 1) := dec_of (decode cX5_remember) da_108 10 rfl
theorem dX5_remember_18 : decode cX5_remember 18 = .ok (.invokevirtual 25, 3) := dec_of (decode cX5_remember) da_108 11 rfl
theorem dX5_remember_21 : decode cX5_remember 21 = .ok (.aload_n 0, 1) := dec_of (decode cX5_remember) da_108 12 rfl
theorem dX5_remember_22 : decode cX5_remember 22 = .ok (.getfield 21, 3) := dec_of (decode cX5_remember) da_108 13 rfl
theorem dX5_remember_25 : decode cX5_remember 25 = .ok (.bipush 20, 2) := dec_of (decode cX5_remember) da_108 14 rfl
theorem dX5_remember_27 : decode cX5_remember 27 = .ok (.if_icmp .ge 16, 3) := dec_of (decode cX5_remember) da_108 15 rfl
theorem dX5_remember_30 : decode cX5_remember 30 = .ok (.aload_n 0, 1) := dec_of (decode cX5_remember) da_108 16 rfl
theorem dX5_remember_31 : decode cX5_remember 31 = .ok (.dup, 1) := dec_of (decode cX5_remember) da_108 17 rfl
theorem dX5_remember_32 : decode cX5_remember 32 = .ok (.getfield 21, 3) := dec_of (decode cX5_remember) da_108 18 rfl
theorem dX5_remember_35 : decode cX5_remember 35 = .ok (.iconst 1, 1) := dec_of (decode cX5_remember) da_108 19 rfl
theorem dX5_remember_36 : decode cX5_remember 36 = .ok (.iadd, 1) := dec_of (decode cX5_remember) da_108 20 rfl
theorem dX5_remember_37 : decode cX5_remember 37 = .ok (.putfield 21, 3) := dec_of (decode cX5_remember) da_108 21 rfl
theorem dX5_remember_40 : decode cX5_remember 40 = .ok (.goto 16, 3) := dec_of (decode cX5_remember) da_108 22 rfl
theorem dX5_remember_43 : decode cX5_remember 43 = .ok (.aload_n 0, 1) := dec_of (decode cX5_remember) da_108 23 rfl
theorem dX5_remember_44 : decode cX5_remember 44 = .ok (.aload_n 0, 1) := dec_of (decode cX5_remember) da_108 24 rfl
theorem dX5_remember_45 : decode cX5_remember 45 = .ok (.getfield 17, 3) := dec_of (decode cX5_remember) da_108 25 rfl
theorem dX5_remember_48 : decode cX5_remember 48 = .ok (.iconst 1, 1) := dec_of (decode cX5_remember) da_108 26 rfl
theorem dX5_remember_49 : decode cX5_remember 49 = .ok (.iadd, 1) := dec_of (decode cX5_remember) da_108 27 rfl
theorem dX5_remember_50 : decode cX5_remember 50 = .ok (.bipush 20, 2) := dec_of (decode cX5_remember) da_108 28 rfl
theorem dX5_remember_52 : decode cX5_remember 52 = .ok (.irem, 1) := dec_of (decode cX5_remember) da_108 29 rfl
theorem dX5_remember_53 : decode cX5_remember 53 = .ok (.putfield 17, 3) := dec_of (decode cX5_remember) da_108 30 rfl
theorem dX5_remember_56 : decode cX5_remember 56 = .ok (.return_, 1) := dec_of (decode cX5_remember) da_108 31 rfl
abbrev dl_109 : List (Nat × Except DecodeError (Instr × Nat)) := [(0, .ok (.aload_n 0, 1)), (1, .ok (.getfield 21, 3)), (4, .ok (.ifCond .ne 5, 3)), (7, .ok (.iconst 0, 1)), (8, .ok (.ireturn, 1)), (9, .ok (.aload_n 0, 1)), (10, .ok (.dup, 1)), (11, .ok (.getfield 21, 3)), (14, .ok (.iconst 1, 1)), (15, .ok (.isub, 1)), (16, .ok (.putfield 21, 3)), (19, .ok (.aload_n 1, 1)), (20, .ok (.aload_n 0, 1)), (21, .ok (.getfield 11, 3)), (24, .ok (.aload_n 0, 1)), (25, .ok (.getfield 17, 3)), (28, .ok (.aload_n 0, 1)), (29, .ok (.getfield 21, 3)), (32, .ok (.iadd, 1)), (33, .ok (.bipush 20, 2)), (35, .ok (.irem, 1)), (36, .ok (.aaload, 1)), (37, .ok (.invokevirtual 25, 3)), (40, .ok (.iconst 1, 1)), (41, .ok (.ireturn, 1))]
theorem da_109 : dl_109.all (fun q => decide (decode cX5_takeBack q.1 = q.2)) = true := by decide +kernel
theorem dX5_takeBack_0 : decode cX5_takeBack 0 = .ok (.aload_n 0, 1) := dec_of (decode cX5_takeBack) da_109 0 rfl
theorem dX5_takeBack_1 : decode cX5_takeBack 1 = .ok (.getfield 21, 3) := dec_of (decode cX5_takeBack) da_109 1 rfl
theorem dX5_takeBack_4 : decode cX5_takeBack 4 = .ok (.ifCond .ne 5, 3) := dec_of (decode cX5_takeBack) da_109 2 rfl
theorem dX5_takeBack_7 : decode cX5_takeBack 7 = .ok (.iconst 0, 1) := dec_of (decode cX5_takeBack) da_109 3 rfl
theorem dX5_takeBack_8 : decode cX5_takeBack 8 = .ok (.ireturn, 1) := dec_of (decode cX5_takeBack) da_109 4 rfl
theorem dX5_takeBack_9 : decode cX5_takeBack 9 = .ok (.aload_n 0, 1) := dec_of (decode cX5_takeBack) da_109 5 rfl
theorem dX5_takeBack_10 : decode cX5_takeBack 10 = .ok (.dup, 1) := dec_of (decode cX5_takeBack) da_109 6 rfl
theorem dX5_takeBack_11 : decode cX5_takeBack 11 = .ok (.getfield 21, 3) := dec_of (decode cX5_takeBack) da_109 7 rfl
theorem dX5_takeBack_14 : decode cX5_takeBack 14 = .ok (.iconst 1, 1) := dec_of (decode cX5_takeBack) da_109 8 rfl
theorem dX5_takeBack_15 : decode cX5_takeBack 15 = .ok (.isub, 1) := dec_of (decode cX5_takeBack) da_109 9 rfl
theorem dX5_takeBack_16 : decode cX5_takeBack 16 = .ok (.putfield 21, 3) := dec_of (decode cX5_takeBack) da_109 10 rfl
theorem dX5_takeBack_19 : decode cX5_takeBack 19 = .ok (.aload_n 1, 1) := dec_of (decode cX5_takeBack) da_109 11 rfl
theorem dX5_takeBack_20 : decode cX5_takeBack 20 = .ok (.aload_n 0, 1) := dec_of (decode cX5_takeBack) da_109 12 rfl
theorem dX5_takeBack_21 : decode cX5_takeBack 21 = .ok (.getfield 11, 3) := dec_of (decode cX5_takeBack) da_109 13 rfl
theorem dX5_takeBack_24 : decode cX5_takeBack 24 = .ok (.aload_n 0, 1) := dec_of (decode cX5_takeBack) da_109 14 rfl
theorem dX5_takeBack_25 : decode cX5_takeBack 25 = .ok (.getfield 17, 3) := dec_of (decode cX5_takeBack) da_109 15 rfl
theorem dX5_takeBack_28 : decode cX5_takeBack 28 = .ok (.aload_n 0, 1) := dec_of (decode cX5_takeBack) da_109 16 rfl
theorem dX5_takeBack_29 : decode cX5_takeBack 29 = .ok (.getfield 21, 3) := dec_of (decode cX5_takeBack) da_109 17 rfl
theorem dX5_takeBack_32 : decode cX5_takeBack 32 = .ok (.iadd, 1) := dec_of (decode cX5_takeBack) da_109 18 rfl
theorem dX5_takeBack_33 : decode cX5_takeBack 33 = .ok (.bipush 20, 2) := dec_of (decode cX5_takeBack) da_109 19 rfl
theorem dX5_takeBack_35 : decode cX5_takeBack 35 = .ok (.irem, 1) := dec_of (decode cX5_takeBack) da_109 20 rfl
theorem dX5_takeBack_36 : decode cX5_takeBack 36 = .ok (.aaload, 1) := dec_of (decode cX5_takeBack) da_109 21 rfl
theorem dX5_takeBack_37 : decode cX5_takeBack 37 = .ok (.invokevirtual 25, 3) := dec_of (decode cX5_takeBack) da_109 22 rfl
theorem dX5_takeBack_40 : decode cX5_takeBack 40 = .ok (.iconst 1, 1) := dec_of (decode cX5_takeBack) da_109 23 rfl
theorem dX5_takeBack_41 : decode cX5_takeBack 41 = .ok (.ireturn, 1) := dec_of (decode cX5_takeBack) da_109 24 rfl
abbrev dl_110 : List (Nat × Except DecodeError (Instr × Nat)) := [(0, .ok (.aload_n 0, 1)), (1, .ok (.invokespecial 3, 3)), (4, .ok (.aload_n 0, 1)), (5, .ok (.bipush 24, 2)), (7, .ok (.newarray .int, 2)), (9, .ok (.putfield 9, 3)), (12, .ok (.aload_n 0, 1)), (13, .ok (.bipush 24, 2)), (15, .ok (.newarray .int, 2)), (17, .ok (.putfield 15, 3)), (20, .ok (.aload_n 0, 1)), (21, .ok (.bipush 24, 2)), (23, .ok (.newarray .int, 2)), (25, .ok (.putfield 18, 3)), (28, .ok (.aload_n 0, 1)), (29, .ok (.bipush 24, 2)), (31, .ok (.newarray .int, 2)), (33, .ok (.putfield 21, 3)), (36, .ok (.aload_n 0, 1)), (37, .ok (.iconst 0, 1)), (38, .ok (.putfield 24, 3)), (41, .ok (.aload_n 0, 1)), (42, .ok (.iconst 0, 1)), (43, .ok (.putfield 28, 3)), (46, .ok (.aload_n 0, 1)), (47, .ok (.iconst (-1), 1)), (48, .ok (.putfield 31, 3)), (51, .ok (.aload_n 0, 1)), (52, .ok (.iconst 0, 1)), (53, .ok (.putfield 34, 3)), (56, .ok (.aload_n 0, 1)), (57, .ok (.sipush 480, 3)), (60, .ok (.newarray .int, 2)), (62, .ok (.putfield 38, 3)), (65, .ok (.aload_n 0, 1)), (66, .ok (.sipush 480, 3)), (69, .ok (.newarray .int, 2)), (71, .ok (.putfield 41, 3)), (74, .ok (.aload_n 0, 1)), (75, .ok (.iconst 0, 1))]
theorem da_110 : dl_110.all (fun q => decide (decode cX6_init q.1 = q.2)) = true := by decide +kernel
theorem dX6_init_0 : decode cX6_init 0 = .ok (.aload_n 0, 1) := dec_of (decode cX6_init) da_110 0 rfl
theorem dX6_init_1 : decode cX6_init 1 = .ok (.invokespecial 3, 3) := dec_of (decode cX6_init) da_110 1 rfl
theorem dX6_init_4 : decode cX6_init 4 = .ok (.aload_n 0, 1) := dec_of (decode cX6_init) da_110 2 rfl
theorem dX6_init_5 : decode cX6_init 5 = .ok (.bipush 24, 2) := dec_of (decode cX6_init) da_110 3 rfl
theorem dX6_init_7 : decode cX6_init 7 = .ok (.newarray .int, 2) := dec_of (decode cX6_init) da_110 4 rfl
theorem dX6_init_9 : decode cX6_init 9 = .ok (.putfield 9, 3) := dec_of (decode cX6_init) da_110 5 rfl
theorem dX6_init_12 : decode cX6_init 12 = .ok (.aload_n 0, 1) := dec_of (decode cX6_init) da_110 6 rfl
theorem dX6_init_13 : decode cX6_init 13 = .ok (.bipush 24, 2) := dec_of (decode cX6_init) da_110 7 rfl
theorem dX6_init_15 : decode cX6_init 15 = .ok (.newarray .int, 2) := dec_of (decode cX6_init) da_110 8 rfl
theorem dX6_init_17 : decode cX6_init 17 = .ok (.putfield 15, 3) := dec_of (decode cX6_init) da_110 9 rfl
theorem dX6_init_20 : decode cX6_init 20 = .ok (.aload_n 0, 1) := dec_of (decode cX6_init) da_110 10 rfl
theorem dX6_init_21 : decode cX6_init 21 = .ok (.bipush 24, 2) := dec_of (decode cX6_init) da_110 11 rfl
theorem dX6_init_23 : decode cX6_init 23 = .ok (.newarray .int, 2) := dec_of (decode cX6_init) da_110 12 rfl
theorem dX6_init_25 : decode cX6_init 25 = .ok (.putfield 18, 3) := dec_of (decode cX6_init) da_110 13 rfl
theorem dX6_init_28 : decode cX6_init 28 = .ok (.aload_n 0, 1) := dec_of (decode cX6_init) da_110 14 rfl
theorem dX6_init_29 : decode cX6_init 29 = .ok (.bipush 24, 2) := dec_of (decode cX6_init) da_110 15 rfl
theorem dX6_init_31 : decode cX6_init 31 = .ok (.newarray .int, 2) := dec_of (decode cX6_init) da_110 16 rfl
theorem dX6_init_33 : decode cX6_init 33 = .ok (.putfield 21, 3) := dec_of (decode cX6_init) da_110 17 rfl
theorem dX6_init_36 : decode cX6_init 36 = .ok (.aload_n 0, 1) := dec_of (decode cX6_init) da_110 18 rfl
theorem dX6_init_37 : decode cX6_init 37 = .ok (.iconst 0, 1) := dec_of (decode cX6_init) da_110 19 rfl
theorem dX6_init_38 : decode cX6_init 38 = .ok (.putfield 24, 3) := dec_of (decode cX6_init) da_110 20 rfl
theorem dX6_init_41 : decode cX6_init 41 = .ok (.aload_n 0, 1) := dec_of (decode cX6_init) da_110 21 rfl
theorem dX6_init_42 : decode cX6_init 42 = .ok (.iconst 0, 1) := dec_of (decode cX6_init) da_110 22 rfl
theorem dX6_init_43 : decode cX6_init 43 = .ok (.putfield 28, 3) := dec_of (decode cX6_init) da_110 23 rfl
theorem dX6_init_46 : decode cX6_init 46 = .ok (.aload_n 0, 1) := dec_of (decode cX6_init) da_110 24 rfl
theorem dX6_init_47 : decode cX6_init 47 = .ok (.iconst (-1), 1) := dec_of (decode cX6_init) da_110 25 rfl
theorem dX6_init_48 : decode cX6_init 48 = .ok (.putfield 31, 3) := dec_of (decode cX6_init) da_110 26 rfl
theorem dX6_init_51 : decode cX6_init 51 = .ok (.aload_n 0, 1) := dec_of (decode cX6_init) da_110 27 rfl
theorem dX6_init_52 : decode cX6_init 52 = .ok (.iconst 0, 1) := dec_of (decode cX6_init) da_110 28 rfl
theorem dX6_init_53 : decode cX6_init 53 = .ok (.putfield 34, 3) := dec_of (decode cX6_init) da_110 29 rfl
theorem dX6_init_56 : decode cX6_init 56 = .ok (.aload_n 0, 1) := dec_of (decode cX6_init) da_110 30 rfl
theorem dX6_init_57 : decode cX6_init 57 = .ok (.sipush 480, 3) := dec_of (decode cX6_init) da_110 31 rfl
theorem dX6_init_60 : decode cX6_init 60 = .ok (.newarray .int, 2) := dec_of (decode cX6_init) da_110 32 rfl
theorem dX6_init_62 : decode cX6_init 62 = .ok (.putfield 38, 3) := dec_of (decode cX6_init) da_110 33 rfl
theorem dX6_init_65 : decode cX6_init 65 = .ok (.aload_n 0, 1) := dec_of (decode cX6_init) da_110 34 rfl
theorem dX6_init_66 : decode cX6_init 66 = .ok (.sipush 480, 3) := dec_of (decode cX6_init) da_110 35 rfl
theorem dX6_init_69 : decode cX6_init 69 = .ok (.newarray .int, 2) := dec_of (decode cX6_init) da_110 36 rfl
theorem dX6_init_71 : decode cX6_init 71 = .ok (.putfield 41, 3) := dec_of (decode cX6_init) da_110 37 rfl
theorem dX6_init_74 : decode cX6_init 74 = .ok (.aload_n 0, 1) := dec_of (decode cX6_init) da_110 38 rfl
theorem dX6_init_75 : decode cX6_init 75 = .ok (.iconst 0, 1) := dec_of (decode cX6_init) da_110 39 rfl
abbrev dl_111 : List (Nat × Except DecodeError (Instr × Nat)) := [(76, .ok (.putfield 44, 3)), (79, .ok (.aload_n 0, 1)), (80, .ok (.new 47, 3)), (83, .ok (.dup, 1)), (84, .ok (.invokespecial 49, 3)), (87, .ok (.putfield 50, 3)), (90, .ok (.aload_n 0, 1)), (91, .ok (.new 47, 3)), (94, .ok (.dup, 1)), (95, .ok (.invokespecial 49, 3)), (98, .ok (.putfield 54, 3)), (101, .ok (.return_, 1))]
theorem da_111 : dl_111.all (fun q => decide (decode cX6_init q.1 = q.2)) = true := by decide +kernel
theorem dX6_init_76 : decode cX6_init 76 = .ok (.putfield 44, 3) := dec_of (decode cX6_init) da_111 0 rfl
theorem dX6_init_79 : decode cX6_init 79 = .ok (.aload_n 0, 1) := dec_of (decode cX6_init) da_111 1 rfl
theorem dX6_init_80 : decode cX6_init 80 = .ok (.new 47, 3) := dec_of (decode cX6_init) da_111 2 rfl
theorem dX6_init_83 : decode cX6_init 83 = .ok (.dup, 1) := dec_of (decode cX6_init) da_111 3 rfl
theorem dX6_init_84 : decode cX6_init 84 = .ok (.invokespecial 49, 3) := dec_of (decode cX6_init) da_111 4 rfl
theorem dX6_init_87 : decode cX6_init 87 = .ok (.putfield 50, 3) := dec_of (decode cX6_init) da_111 5 rfl
theorem dX6_init_90 : decode cX6_init 90 = .ok (.aload_n 0, 1) := dec_of (decode cX6_init) da_111 6 rfl
theorem dX6_init_91 : decode cX6_init 91 = .ok (.new 47, 3) := dec_of (decode cX6_init) da_111 7 rfl
theorem dX6_init_94 : decode cX6_init 94 = .ok (.dup, 1) := dec_of (decode cX6_init) da_111 8 rfl
theorem dX6_init_95 : decode cX6_init 95 = .ok (.invokespecial 49, 3) := dec_of (decode cX6_init) da_111 9 rfl
theorem dX6_init_98 : decode cX6_init 98 = .ok (.putfield 54, 3) := dec_of (decode cX6_init) da_111 10 rfl
theorem dX6_init_101 : decode cX6_init 101 = .ok (.return_, 1) := dec_of (decode cX6_init) da_111 11 rfl
abbrev dl_112 : List (Nat × Except DecodeError (Instr × Nat)) := [(0, .ok (.aload_n 0, 1)), (1, .ok (.iconst 0, 1)), (2, .ok (.putfield 28, 3)), (5, .ok (.aload_n 0, 1)), (6, .ok (.iconst (-1), 1)), (7, .ok (.putfield 31, 3)), (10, .ok (.aload_n 0, 1)), (11, .ok (.iconst 0, 1)), (12, .ok (.putfield 34, 3)), (15, .ok (.return_, 1))]
theorem da_112 : dl_112.all (fun q => decide (decode cX6_clear q.1 = q.2)) = true := by decide +kernel
theorem dX6_clear_0 : decode cX6_clear 0 = .ok (.aload_n 0, 1) := dec_of (decode cX6_clear) da_112 0 rfl
theorem dX6_clear_1 : decode cX6_clear 1 = .ok (.iconst 0, 1) := dec_of (decode cX6_clear) da_112 1 rfl
theorem dX6_clear_2 : decode cX6_clear 2 = .ok (.putfield 28, 3) := dec_of (decode cX6_clear) da_112 2 rfl
theorem dX6_clear_5 : decode cX6_clear 5 = .ok (.aload_n 0, 1) := dec_of (decode cX6_clear) da_112 3 rfl
theorem dX6_clear_6 : decode cX6_clear 6 = .ok (.iconst (-1), 1) := dec_of (decode cX6_clear) da_112 4 rfl
theorem dX6_clear_7 : decode cX6_clear 7 = .ok (.putfield 31, 3) := dec_of (decode cX6_clear) da_112 5 rfl
theorem dX6_clear_10 : decode cX6_clear 10 = .ok (.aload_n 0, 1) := dec_of (decode cX6_clear) da_112 6 rfl
theorem dX6_clear_11 : decode cX6_clear 11 = .ok (.iconst 0, 1) := dec_of (decode cX6_clear) da_112 7 rfl
theorem dX6_clear_12 : decode cX6_clear 12 = .ok (.putfield 34, 3) := dec_of (decode cX6_clear) da_112 8 rfl
theorem dX6_clear_15 : decode cX6_clear 15 = .ok (.return_, 1) := dec_of (decode cX6_clear) da_112 9 rfl
abbrev dl_113 : List (Nat × Except DecodeError (Instr × Nat)) := [(0, .ok (.aload_n 0, 1)), (1, .ok (.getfield 28, 3)), (4, .ok (.bipush 24, 2)), (6, .ok (.if_icmp .lt 5, 3)), (9, .ok (.iconst (-1), 1)), (10, .ok (.ireturn, 1)), (11, .ok (.aload_n 0, 1)), (12, .ok (.getfield 9, 3)), (15, .ok (.aload_n 0, 1)), (16, .ok (.getfield 28, 3)), (19, .ok (.iload_n 1, 1)), (20, .ok (.iastore, 1)), (21, .ok (.aload_n 0, 1)), (22, .ok (.getfield 15, 3)), (25, .ok (.aload_n 0, 1)), (26, .ok (.getfield 28, 3)), (29, .ok (.iload_n 2, 1)), (30, .ok (.iastore, 1)), (31, .ok (.aload_n 0, 1)), (32, .ok (.getfield 18, 3)), (35, .ok (.aload_n 0, 1)), (36, .ok (.getfield 28, 3)), (39, .ok (.iload_n 3, 1)), (40, .ok (.iastore, 1)), (41, .ok (.aload_n 0, 1)), (42, .ok (.getfield 21, 3)), (45, .ok (.aload_n 0, 1)), (46, .ok (.getfield 28, 3)), (49, .ok (.iconst (-1), 1)), (50, .ok (.iastore, 1)), (51, .ok (.aload_n 0, 1)), (52, .ok (.iconst 0, 1)), (53, .ok (.putfield 34, 3)), (56, .ok (.aload_n 0, 1)), (57, .ok (.dup, 1)), (58, .ok (.getfield 28, 3)), (61, .ok (.iconst 1, 1)), (62, .ok (.iadd, 1)), (63, .ok (.putfield 28, 3)), (66, .ok (.aload_n 0, 1))]
theorem da_113 : dl_113.all (fun q => decide (decode cX6_lay q.1 = q.2)) = true := by decide +kernel
theorem dX6_lay_0 : decode cX6_lay 0 = .ok (.aload_n 0, 1) := dec_of (decode cX6_lay) da_113 0 rfl
theorem dX6_lay_1 : decode cX6_lay 1 = .ok (.getfield 28, 3) := dec_of (decode cX6_lay) da_113 1 rfl
theorem dX6_lay_4 : decode cX6_lay 4 = .ok (.bipush 24, 2) := dec_of (decode cX6_lay) da_113 2 rfl
theorem dX6_lay_6 : decode cX6_lay 6 = .ok (.if_icmp .lt 5, 3) := dec_of (decode cX6_lay) da_113 3 rfl
theorem dX6_lay_9 : decode cX6_lay 9 = .ok (.iconst (-1), 1) := dec_of (decode cX6_lay) da_113 4 rfl
theorem dX6_lay_10 : decode cX6_lay 10 = .ok (.ireturn, 1) := dec_of (decode cX6_lay) da_113 5 rfl
theorem dX6_lay_11 : decode cX6_lay 11 = .ok (.aload_n 0, 1) := dec_of (decode cX6_lay) da_113 6 rfl
theorem dX6_lay_12 : decode cX6_lay 12 = .ok (.getfield 9, 3) := dec_of (decode cX6_lay) da_113 7 rfl
theorem dX6_lay_15 : decode cX6_lay 15 = .ok (.aload_n 0, 1) := dec_of (decode cX6_lay) da_113 8 rfl
theorem dX6_lay_16 : decode cX6_lay 16 = .ok (.getfield 28, 3) := dec_of (decode cX6_lay) da_113 9 rfl
theorem dX6_lay_19 : decode cX6_lay 19 = .ok (.iload_n 1, 1) := dec_of (decode cX6_lay) da_113 10 rfl
theorem dX6_lay_20 : decode cX6_lay 20 = .ok (.iastore, 1) := dec_of (decode cX6_lay) da_113 11 rfl
theorem dX6_lay_21 : decode cX6_lay 21 = .ok (.aload_n 0, 1) := dec_of (decode cX6_lay) da_113 12 rfl
theorem dX6_lay_22 : decode cX6_lay 22 = .ok (.getfield 15, 3) := dec_of (decode cX6_lay) da_113 13 rfl
theorem dX6_lay_25 : decode cX6_lay 25 = .ok (.aload_n 0, 1) := dec_of (decode cX6_lay) da_113 14 rfl
theorem dX6_lay_26 : decode cX6_lay 26 = .ok (.getfield 28, 3) := dec_of (decode cX6_lay) da_113 15 rfl
theorem dX6_lay_29 : decode cX6_lay 29 = .ok (.iload_n 2, 1) := dec_of (decode cX6_lay) da_113 16 rfl
theorem dX6_lay_30 : decode cX6_lay 30 = .ok (.iastore, 1) := dec_of (decode cX6_lay) da_113 17 rfl
theorem dX6_lay_31 : decode cX6_lay 31 = .ok (.aload_n 0, 1) := dec_of (decode cX6_lay) da_113 18 rfl
theorem dX6_lay_32 : decode cX6_lay 32 = .ok (.getfield 18, 3) := dec_of (decode cX6_lay) da_113 19 rfl
theorem dX6_lay_35 : decode cX6_lay 35 = .ok (.aload_n 0, 1) := dec_of (decode cX6_lay) da_113 20 rfl
theorem dX6_lay_36 : decode cX6_lay 36 = .ok (.getfield 28, 3) := dec_of (decode cX6_lay) da_113 21 rfl
theorem dX6_lay_39 : decode cX6_lay 39 = .ok (.iload_n 3, 1) := dec_of (decode cX6_lay) da_113 22 rfl
theorem dX6_lay_40 : decode cX6_lay 40 = .ok (.iastore, 1) := dec_of (decode cX6_lay) da_113 23 rfl
theorem dX6_lay_41 : decode cX6_lay 41 = .ok (.aload_n 0, 1) := dec_of (decode cX6_lay) da_113 24 rfl
theorem dX6_lay_42 : decode cX6_lay 42 = .ok (.getfield 21, 3) := dec_of (decode cX6_lay) da_113 25 rfl
theorem dX6_lay_45 : decode cX6_lay 45 = .ok (.aload_n 0, 1) := dec_of (decode cX6_lay) da_113 26 rfl
theorem dX6_lay_46 : decode cX6_lay 46 = .ok (.getfield 28, 3) := dec_of (decode cX6_lay) da_113 27 rfl
theorem dX6_lay_49 : decode cX6_lay 49 = .ok (.iconst (-1), 1) := dec_of (decode cX6_lay) da_113 28 rfl
theorem dX6_lay_50 : decode cX6_lay 50 = .ok (.iastore, 1) := dec_of (decode cX6_lay) da_113 29 rfl
theorem dX6_lay_51 : decode cX6_lay 51 = .ok (.aload_n 0, 1) := dec_of (decode cX6_lay) da_113 30 rfl
theorem dX6_lay_52 : decode cX6_lay 52 = .ok (.iconst 0, 1) := dec_of (decode cX6_lay) da_113 31 rfl
theorem dX6_lay_53 : decode cX6_lay 53 = .ok (.putfield 34, 3) := dec_of (decode cX6_lay) da_113 32 rfl
theorem dX6_lay_56 : decode cX6_lay 56 = .ok (.aload_n 0, 1) := dec_of (decode cX6_lay) da_113 33 rfl
theorem dX6_lay_57 : decode cX6_lay 57 = .ok (.dup, 1) := dec_of (decode cX6_lay) da_113 34 rfl
theorem dX6_lay_58 : decode cX6_lay 58 = .ok (.getfield 28, 3) := dec_of (decode cX6_lay) da_113 35 rfl
theorem dX6_lay_61 : decode cX6_lay 61 = .ok (.iconst 1, 1) := dec_of (decode cX6_lay) da_113 36 rfl
theorem dX6_lay_62 : decode cX6_lay 62 = .ok (.iadd, 1) := dec_of (decode cX6_lay) da_113 37 rfl
theorem dX6_lay_63 : decode cX6_lay 63 = .ok (.putfield 28, 3) := dec_of (decode cX6_lay) da_113 38 rfl
theorem dX6_lay_66 : decode cX6_lay 66 = .ok (.aload_n 0, 1) := dec_of (decode cX6_lay) da_113 39 rfl
abbrev dl_114 : List (Nat × Except DecodeError (Instr × Nat)) := [(67, .ok (.getfield 28, 3)), (70, .ok (.iconst 1, 1)), (71, .ok (.isub, 1)), (72, .ok (.ireturn, 1))]
theorem da_114 : dl_114.all (fun q => decide (decode cX6_lay q.1 = q.2)) = true := by decide +kernel
theorem dX6_lay_67 : decode cX6_lay 67 = .ok (.getfield 28, 3) := dec_of (decode cX6_lay) da_114 0 rfl
theorem dX6_lay_70 : decode cX6_lay 70 = .ok (.iconst 1, 1) := dec_of (decode cX6_lay) da_114 1 rfl
theorem dX6_lay_71 : decode cX6_lay 71 = .ok (.isub, 1) := dec_of (decode cX6_lay) da_114 2 rfl
theorem dX6_lay_72 : decode cX6_lay 72 = .ok (.ireturn, 1) := dec_of (decode cX6_lay) da_114 3 rfl
abbrev dl_115 : List (Nat × Except DecodeError (Instr × Nat)) := [(0, .ok (.iload_n 1, 1)), (1, .ok (.ifCond .lt 20, 3)), (4, .ok (.iload_n 1, 1)), (5, .ok (.aload_n 0, 1)), (6, .ok (.getfield 28, 3)), (9, .ok (.if_icmp .ge 12, 3)), (12, .ok (.aload_n 0, 1)), (13, .ok (.getfield 28, 3)), (16, .ok (.bipush 24, 2)), (18, .ok (.if_icmp .lt 5, 3)), (21, .ok (.iconst (-1), 1)), (22, .ok (.ireturn, 1)), (23, .ok (.aload_n 0, 1)), (24, .ok (.getfield 21, 3)), (27, .ok (.aload_n 0, 1)), (28, .ok (.getfield 28, 3)), (31, .ok (.iload_n 1, 1)), (32, .ok (.iastore, 1)), (33, .ok (.aload_n 0, 1)), (34, .ok (.iconst 0, 1)), (35, .ok (.putfield 34, 3)), (38, .ok (.aload_n 0, 1)), (39, .ok (.dup, 1)), (40, .ok (.getfield 28, 3)), (43, .ok (.iconst 1, 1)), (44, .ok (.iadd, 1)), (45, .ok (.putfield 28, 3)), (48, .ok (.aload_n 0, 1)), (49, .ok (.getfield 28, 3)), (52, .ok (.iconst 1, 1)), (53, .ok (.isub, 1)), (54, .ok (.ireturn, 1))]
theorem da_115 : dl_115.all (fun q => decide (decode cX6_layStrike q.1 = q.2)) = true := by decide +kernel
theorem dX6_layStrike_0 : decode cX6_layStrike 0 = .ok (.iload_n 1, 1) := dec_of (decode cX6_layStrike) da_115 0 rfl
theorem dX6_layStrike_1 : decode cX6_layStrike 1 = .ok (.ifCond .lt 20, 3) := dec_of (decode cX6_layStrike) da_115 1 rfl
theorem dX6_layStrike_4 : decode cX6_layStrike 4 = .ok (.iload_n 1, 1) := dec_of (decode cX6_layStrike) da_115 2 rfl
theorem dX6_layStrike_5 : decode cX6_layStrike 5 = .ok (.aload_n 0, 1) := dec_of (decode cX6_layStrike) da_115 3 rfl
theorem dX6_layStrike_6 : decode cX6_layStrike 6 = .ok (.getfield 28, 3) := dec_of (decode cX6_layStrike) da_115 4 rfl
theorem dX6_layStrike_9 : decode cX6_layStrike 9 = .ok (.if_icmp .ge 12, 3) := dec_of (decode cX6_layStrike) da_115 5 rfl
theorem dX6_layStrike_12 : decode cX6_layStrike 12 = .ok (.aload_n 0, 1) := dec_of (decode cX6_layStrike) da_115 6 rfl
theorem dX6_layStrike_13 : decode cX6_layStrike 13 = .ok (.getfield 28, 3) := dec_of (decode cX6_layStrike) da_115 7 rfl
theorem dX6_layStrike_16 : decode cX6_layStrike 16 = .ok (.bipush 24, 2) := dec_of (decode cX6_layStrike) da_115 8 rfl
theorem dX6_layStrike_18 : decode cX6_layStrike 18 = .ok (.if_icmp .lt 5, 3) := dec_of (decode cX6_layStrike) da_115 9 rfl
theorem dX6_layStrike_21 : decode cX6_layStrike 21 = .ok (.iconst (-1), 1) := dec_of (decode cX6_layStrike) da_115 10 rfl
theorem dX6_layStrike_22 : decode cX6_layStrike 22 = .ok (.ireturn, 1) := dec_of (decode cX6_layStrike) da_115 11 rfl
theorem dX6_layStrike_23 : decode cX6_layStrike 23 = .ok (.aload_n 0, 1) := dec_of (decode cX6_layStrike) da_115 12 rfl
theorem dX6_layStrike_24 : decode cX6_layStrike 24 = .ok (.getfield 21, 3) := dec_of (decode cX6_layStrike) da_115 13 rfl
theorem dX6_layStrike_27 : decode cX6_layStrike 27 = .ok (.aload_n 0, 1) := dec_of (decode cX6_layStrike) da_115 14 rfl
theorem dX6_layStrike_28 : decode cX6_layStrike 28 = .ok (.getfield 28, 3) := dec_of (decode cX6_layStrike) da_115 15 rfl
theorem dX6_layStrike_31 : decode cX6_layStrike 31 = .ok (.iload_n 1, 1) := dec_of (decode cX6_layStrike) da_115 16 rfl
theorem dX6_layStrike_32 : decode cX6_layStrike 32 = .ok (.iastore, 1) := dec_of (decode cX6_layStrike) da_115 17 rfl
theorem dX6_layStrike_33 : decode cX6_layStrike 33 = .ok (.aload_n 0, 1) := dec_of (decode cX6_layStrike) da_115 18 rfl
theorem dX6_layStrike_34 : decode cX6_layStrike 34 = .ok (.iconst 0, 1) := dec_of (decode cX6_layStrike) da_115 19 rfl
theorem dX6_layStrike_35 : decode cX6_layStrike 35 = .ok (.putfield 34, 3) := dec_of (decode cX6_layStrike) da_115 20 rfl
theorem dX6_layStrike_38 : decode cX6_layStrike 38 = .ok (.aload_n 0, 1) := dec_of (decode cX6_layStrike) da_115 21 rfl
theorem dX6_layStrike_39 : decode cX6_layStrike 39 = .ok (.dup, 1) := dec_of (decode cX6_layStrike) da_115 22 rfl
theorem dX6_layStrike_40 : decode cX6_layStrike 40 = .ok (.getfield 28, 3) := dec_of (decode cX6_layStrike) da_115 23 rfl
theorem dX6_layStrike_43 : decode cX6_layStrike 43 = .ok (.iconst 1, 1) := dec_of (decode cX6_layStrike) da_115 24 rfl
theorem dX6_layStrike_44 : decode cX6_layStrike 44 = .ok (.iadd, 1) := dec_of (decode cX6_layStrike) da_115 25 rfl
theorem dX6_layStrike_45 : decode cX6_layStrike 45 = .ok (.putfield 28, 3) := dec_of (decode cX6_layStrike) da_115 26 rfl
theorem dX6_layStrike_48 : decode cX6_layStrike 48 = .ok (.aload_n 0, 1) := dec_of (decode cX6_layStrike) da_115 27 rfl
theorem dX6_layStrike_49 : decode cX6_layStrike 49 = .ok (.getfield 28, 3) := dec_of (decode cX6_layStrike) da_115 28 rfl
theorem dX6_layStrike_52 : decode cX6_layStrike 52 = .ok (.iconst 1, 1) := dec_of (decode cX6_layStrike) da_115 29 rfl
theorem dX6_layStrike_53 : decode cX6_layStrike 53 = .ok (.isub, 1) := dec_of (decode cX6_layStrike) da_115 30 rfl
theorem dX6_layStrike_54 : decode cX6_layStrike 54 = .ok (.ireturn, 1) := dec_of (decode cX6_layStrike) da_115 31 rfl
abbrev dl_116 : List (Nat × Except DecodeError (Instr × Nat)) := [(0, .ok (.iload_n 1, 1)), (1, .ok (.iconst (-1), 1)), (2, .ok (.if_icmp .lt 11, 3)), (5, .ok (.iload_n 1, 1)), (6, .ok (.aload_n 0, 1)), (7, .ok (.getfield 28, 3)), (10, .ok (.if_icmp .le 5, 3)), (13, .ok (.iconst 0, 1)), (14, .ok (.ireturn, 1)), (15, .ok (.aload_n 0, 1)), (16, .ok (.iload_n 1, 1)), (17, .ok (.putfield 31, 3)), (20, .ok (.aload_n 0, 1)), (21, .ok (.iconst 0, 1)), (22, .ok (.putfield 34, 3)), (25, .ok (.iconst 1, 1)), (26, .ok (.ireturn, 1))]
theorem da_116 : dl_116.all (fun q => decide (decode cX6_knowBy q.1 = q.2)) = true := by decide +kernel
theorem dX6_knowBy_0 : decode cX6_knowBy 0 = .ok (.iload_n 1, 1) := dec_of (decode cX6_knowBy) da_116 0 rfl
theorem dX6_knowBy_1 : decode cX6_knowBy 1 = .ok (.iconst (-1), 1) := dec_of (decode cX6_knowBy) da_116 1 rfl
theorem dX6_knowBy_2 : decode cX6_knowBy 2 = .ok (.if_icmp .lt 11, 3) := dec_of (decode cX6_knowBy) da_116 2 rfl
theorem dX6_knowBy_5 : decode cX6_knowBy 5 = .ok (.iload_n 1, 1) := dec_of (decode cX6_knowBy) da_116 3 rfl
theorem dX6_knowBy_6 : decode cX6_knowBy 6 = .ok (.aload_n 0, 1) := dec_of (decode cX6_knowBy) da_116 4 rfl
theorem dX6_knowBy_7 : decode cX6_knowBy 7 = .ok (.getfield 28, 3) := dec_of (decode cX6_knowBy) da_116 5 rfl
theorem dX6_knowBy_10 : decode cX6_knowBy 10 = .ok (.if_icmp .le 5, 3) := dec_of (decode cX6_knowBy) da_116 6 rfl
theorem dX6_knowBy_13 : decode cX6_knowBy 13 = .ok (.iconst 0, 1) := dec_of (decode cX6_knowBy) da_116 7 rfl
theorem dX6_knowBy_14 : decode cX6_knowBy 14 = .ok (.ireturn, 1) := dec_of (decode cX6_knowBy) da_116 8 rfl
theorem dX6_knowBy_15 : decode cX6_knowBy 15 = .ok (.aload_n 0, 1) := dec_of (decode cX6_knowBy) da_116 9 rfl
theorem dX6_knowBy_16 : decode cX6_knowBy 16 = .ok (.iload_n 1, 1) := dec_of (decode cX6_knowBy) da_116 10 rfl
theorem dX6_knowBy_17 : decode cX6_knowBy 17 = .ok (.putfield 31, 3) := dec_of (decode cX6_knowBy) da_116 11 rfl
theorem dX6_knowBy_20 : decode cX6_knowBy 20 = .ok (.aload_n 0, 1) := dec_of (decode cX6_knowBy) da_116 12 rfl
theorem dX6_knowBy_21 : decode cX6_knowBy 21 = .ok (.iconst 0, 1) := dec_of (decode cX6_knowBy) da_116 13 rfl
theorem dX6_knowBy_22 : decode cX6_knowBy 22 = .ok (.putfield 34, 3) := dec_of (decode cX6_knowBy) da_116 14 rfl
theorem dX6_knowBy_25 : decode cX6_knowBy 25 = .ok (.iconst 1, 1) := dec_of (decode cX6_knowBy) da_116 15 rfl
theorem dX6_knowBy_26 : decode cX6_knowBy 26 = .ok (.ireturn, 1) := dec_of (decode cX6_knowBy) da_116 16 rfl
abbrev dl_117 : List (Nat × Except DecodeError (Instr × Nat)) := [(0, .ok (.aload_n 0, 1)), (1, .ok (.getfield 31, 3)), (4, .ok (.iconst (-1), 1)), (5, .ok (.if_icmp .ne 10, 3)), (8, .ok (.aload_n 0, 1)), (9, .ok (.getfield 28, 3)), (12, .ok (.goto 7, 3)), (15, .ok (.aload_n 0, 1)), (16, .ok (.getfield 31, 3)), (19, .ok (.ireturn, 1))]
theorem da_117 : dl_117.all (fun q => decide (decode cX6_knownBy q.1 = q.2)) = true := by decide +kernel
theorem dX6_knownBy_0 : decode cX6_knownBy 0 = .ok (.aload_n 0, 1) := dec_of (decode cX6_knownBy) da_117 0 rfl
theorem dX6_knownBy_1 : decode cX6_knownBy 1 = .ok (.getfield 31, 3) := dec_of (decode cX6_knownBy) da_117 1 rfl
theorem dX6_knownBy_4 : decode cX6_knownBy 4 = .ok (.iconst (-1), 1) := dec_of (decode cX6_knownBy) da_117 2 rfl
theorem dX6_knownBy_5 : decode cX6_knownBy 5 = .ok (.if_icmp .ne 10, 3) := dec_of (decode cX6_knownBy) da_117 3 rfl
theorem dX6_knownBy_8 : decode cX6_knownBy 8 = .ok (.aload_n 0, 1) := dec_of (decode cX6_knownBy) da_117 4 rfl
theorem dX6_knownBy_9 : decode cX6_knownBy 9 = .ok (.getfield 28, 3) := dec_of (decode cX6_knownBy) da_117 5 rfl
theorem dX6_knownBy_12 : decode cX6_knownBy 12 = .ok (.goto 7, 3) := dec_of (decode cX6_knownBy) da_117 6 rfl
theorem dX6_knownBy_15 : decode cX6_knownBy 15 = .ok (.aload_n 0, 1) := dec_of (decode cX6_knownBy) da_117 7 rfl
theorem dX6_knownBy_16 : decode cX6_knownBy 16 = .ok (.getfield 31, 3) := dec_of (decode cX6_knownBy) da_117 8 rfl
theorem dX6_knownBy_19 : decode cX6_knownBy 19 = .ok (.ireturn, 1) := dec_of (decode cX6_knownBy) da_117 9 rfl
abbrev dl_118 : List (Nat × Except DecodeError (Instr × Nat)) := [(0, .ok (.aload_n 0, 1)), (1, .ok (.getfield 34, 3)), (4, .ok (.ifCond .eq 4, 3)), (7, .ok (.return_, 1)), (8, .ok (.aload_n 0, 1)), (9, .ok (.iconst 1, 1)), (10, .ok (.putfield 34, 3)), (13, .ok (.aload_n 0, 1)), (14, .ok (.iconst 0, 1)), (15, .ok (.putfield 44, 3)), (18, .ok (.aload_n 0, 1)), (19, .ok (.invokevirtual 57, 3)), (22, .ok (.aload_n 0, 1)), (23, .ok (.invokevirtual 60, 3)), (26, .ok (.istore_n 2, 1)), (27, .ok (.iconst 0, 1)), (28, .ok (.istore_n 3, 1)), (29, .ok (.iload_n 3, 1)), (30, .ok (.aload_n 1, 1)), (31, .ok (.getfield 64, 3)), (34, .ok (.if_icmp .ge 119, 3)), (37, .ok (.aload_n 0, 1)), (38, .ok (.getfield 50, 3)), (41, .ok (.aload_n 1, 1)), (42, .ok (.invokevirtual 69, 3)), (45, .ok (.aload_n 0, 1)), (46, .ok (.getfield 50, 3)), (49, .ok (.iconst 3, 1)), (50, .ok (.putfield 73, 3)), (53, .ok (.aload_n 0, 1)), (54, .ok (.getfield 50, 3)), (57, .ok (.getfield 76, 3)), (60, .ok (.iload_n 3, 1)), (61, .ok (.iconst (-1), 1)), (62, .ok (.iastore, 1)), (63, .ok (.iconst 1, 1)), (64, .ok (.istore 4, 2)), (66, .ok (.iconst 0, 1)), (67, .ok (.istore 5, 2)), (69, .ok (.iload 5, 2))]
theorem da_118 : dl_118.all (fun q => decide (decode cX6_search q.1 = q.2)) = true := by decide +kernel
theorem dX6_search_0 : decode cX6_search 0 = .ok (.aload_n 0, 1) := dec_of (decode cX6_search) da_118 0 rfl
theorem dX6_search_1 : decode cX6_search 1 = .ok (.getfield 34, 3) := dec_of (decode cX6_search) da_118 1 rfl
theorem dX6_search_4 : decode cX6_search 4 = .ok (.ifCond .eq 4, 3) := dec_of (decode cX6_search) da_118 2 rfl
theorem dX6_search_7 : decode cX6_search 7 = .ok (.return_, 1) := dec_of (decode cX6_search) da_118 3 rfl
theorem dX6_search_8 : decode cX6_search 8 = .ok (.aload_n 0, 1) := dec_of (decode cX6_search) da_118 4 rfl
theorem dX6_search_9 : decode cX6_search 9 = .ok (.iconst 1, 1) := dec_of (decode cX6_search) da_118 5 rfl
theorem dX6_search_10 : decode cX6_search 10 = .ok (.putfield 34, 3) := dec_of (decode cX6_search) da_118 6 rfl
theorem dX6_search_13 : decode cX6_search 13 = .ok (.aload_n 0, 1) := dec_of (decode cX6_search) da_118 7 rfl
theorem dX6_search_14 : decode cX6_search 14 = .ok (.iconst 0, 1) := dec_of (decode cX6_search) da_118 8 rfl
theorem dX6_search_15 : decode cX6_search 15 = .ok (.putfield 44, 3) := dec_of (decode cX6_search) da_118 9 rfl
theorem dX6_search_18 : decode cX6_search 18 = .ok (.aload_n 0, 1) := dec_of (decode cX6_search) da_118 10 rfl
theorem dX6_search_19 : decode cX6_search 19 = .ok (.invokevirtual 57, 3) := dec_of (decode cX6_search) da_118 11 rfl
theorem dX6_search_22 : decode cX6_search 22 = .ok (.aload_n 0, 1) := dec_of (decode cX6_search) da_118 12 rfl
theorem dX6_search_23 : decode cX6_search 23 = .ok (.invokevirtual 60, 3) := dec_of (decode cX6_search) da_118 13 rfl
theorem dX6_search_26 : decode cX6_search 26 = .ok (.istore_n 2, 1) := dec_of (decode cX6_search) da_118 14 rfl
theorem dX6_search_27 : decode cX6_search 27 = .ok (.iconst 0, 1) := dec_of (decode cX6_search) da_118 15 rfl
theorem dX6_search_28 : decode cX6_search 28 = .ok (.istore_n 3, 1) := dec_of (decode cX6_search) da_118 16 rfl
theorem dX6_search_29 : decode cX6_search 29 = .ok (.iload_n 3, 1) := dec_of (decode cX6_search) da_118 17 rfl
theorem dX6_search_30 : decode cX6_search 30 = .ok (.aload_n 1, 1) := dec_of (decode cX6_search) da_118 18 rfl
theorem dX6_search_31 : decode cX6_search 31 = .ok (.getfield 64, 3) := dec_of (decode cX6_search) da_118 19 rfl
theorem dX6_search_34 : decode cX6_search 34 = .ok (.if_icmp .ge 119, 3) := dec_of (decode cX6_search) da_118 20 rfl
theorem dX6_search_37 : decode cX6_search 37 = .ok (.aload_n 0, 1) := dec_of (decode cX6_search) da_118 21 rfl
theorem dX6_search_38 : decode cX6_search 38 = .ok (.getfield 50, 3) := dec_of (decode cX6_search) da_118 22 rfl
theorem dX6_search_41 : decode cX6_search 41 = .ok (.aload_n 1, 1) := dec_of (decode cX6_search) da_118 23 rfl
theorem dX6_search_42 : decode cX6_search 42 = .ok (.invokevirtual 69, 3) := dec_of (decode cX6_search) da_118 24 rfl
theorem dX6_search_45 : decode cX6_search 45 = .ok (.aload_n 0, 1) := dec_of (decode cX6_search) da_118 25 rfl
theorem dX6_search_46 : decode cX6_search 46 = .ok (.getfield 50, 3) := dec_of (decode cX6_search) da_118 26 rfl
theorem dX6_search_49 : decode cX6_search 49 = .ok (.iconst 3, 1) := dec_of (decode cX6_search) da_118 27 rfl
theorem dX6_search_50 : decode cX6_search 50 = .ok (.putfield 73, 3) := dec_of (decode cX6_search) da_118 28 rfl
theorem dX6_search_53 : decode cX6_search 53 = .ok (.aload_n 0, 1) := dec_of (decode cX6_search) da_118 29 rfl
theorem dX6_search_54 : decode cX6_search 54 = .ok (.getfield 50, 3) := dec_of (decode cX6_search) da_118 30 rfl
theorem dX6_search_57 : decode cX6_search 57 = .ok (.getfield 76, 3) := dec_of (decode cX6_search) da_118 31 rfl
theorem dX6_search_60 : decode cX6_search 60 = .ok (.iload_n 3, 1) := dec_of (decode cX6_search) da_118 32 rfl
theorem dX6_search_61 : decode cX6_search 61 = .ok (.iconst (-1), 1) := dec_of (decode cX6_search) da_118 33 rfl
theorem dX6_search_62 : decode cX6_search 62 = .ok (.iastore, 1) := dec_of (decode cX6_search) da_118 34 rfl
theorem dX6_search_63 : decode cX6_search 63 = .ok (.iconst 1, 1) := dec_of (decode cX6_search) da_118 35 rfl
theorem dX6_search_64 : decode cX6_search 64 = .ok (.istore 4, 2) := dec_of (decode cX6_search) da_118 36 rfl
theorem dX6_search_66 : decode cX6_search 66 = .ok (.iconst 0, 1) := dec_of (decode cX6_search) da_118 37 rfl
theorem dX6_search_67 : decode cX6_search 67 = .ok (.istore 5, 2) := dec_of (decode cX6_search) da_118 38 rfl
theorem dX6_search_69 : decode cX6_search 69 = .ok (.iload 5, 2) := dec_of (decode cX6_search) da_118 39 rfl
abbrev dl_119 : List (Nat × Except DecodeError (Instr × Nat)) := [(71, .ok (.bipush 59, 2)), (73, .ok (.if_icmp .gt 74, 3)), (76, .ok (.iload 4, 2)), (78, .ok (.ifCond .eq 69, 3)), (81, .ok (.aload_n 0, 1)), (82, .ok (.getfield 54, 3)), (85, .ok (.aload_n 0, 1)), (86, .ok (.getfield 50, 3)), (89, .ok (.invokevirtual 79, 3)), (92, .ok (.aload_n 0, 1)), (93, .ok (.getfield 54, 3)), (96, .ok (.getfield 76, 3)), (99, .ok (.iload_n 3, 1)), (100, .ok (.iload 5, 2)), (102, .ok (.iastore, 1)), (103, .ok (.aload_n 0, 1)), (104, .ok (.iload_n 2, 1)), (105, .ok (.invokevirtual 83, 3)), (108, .ok (.ifCond .eq 10, 3)), (111, .ok (.aload_n 0, 1)), (112, .ok (.iload_n 3, 1)), (113, .ok (.iload 5, 2)), (115, .ok (.invokevirtual 87, 3)), (118, .ok (.iload 5, 2)), (120, .ok (.iload_n 2, 1)), (121, .ok (.if_icmp .gt 20, 3)), (124, .ok (.aload_n 0, 1)), (125, .ok (.getfield 50, 3)), (128, .ok (.invokevirtual 91, 3)), (131, .ok (.aload_n 0, 1)), (132, .ok (.aload_n 0, 1)), (133, .ok (.getfield 50, 3)), (136, .ok (.invokevirtual 94, 3)), (139, .ok (.istore 4, 2)), (141, .ok (.iinc 5 1, 3)), (144, .ok (.goto (-75), 3)), (147, .ok (.iinc 3 1, 3)), (150, .ok (.goto (-121), 3)), (153, .ok (.return_, 1))]
theorem da_119 : dl_119.all (fun q => decide (decode cX6_search q.1 = q.2)) = true := by decide +kernel
theorem dX6_search_71 : decode cX6_search 71 = .ok (.bipush 59, 2) := dec_of (decode cX6_search) da_119 0 rfl
theorem dX6_search_73 : decode cX6_search 73 = .ok (.if_icmp .gt 74, 3) := dec_of (decode cX6_search) da_119 1 rfl
theorem dX6_search_76 : decode cX6_search 76 = .ok (.iload 4, 2) := dec_of (decode cX6_search) da_119 2 rfl
theorem dX6_search_78 : decode cX6_search 78 = .ok (.ifCond .eq 69, 3) := dec_of (decode cX6_search) da_119 3 rfl
theorem dX6_search_81 : decode cX6_search 81 = .ok (.aload_n 0, 1) := dec_of (decode cX6_search) da_119 4 rfl
theorem dX6_search_82 : decode cX6_search 82 = .ok (.getfield 54, 3) := dec_of (decode cX6_search) da_119 5 rfl
theorem dX6_search_85 : decode cX6_search 85 = .ok (.aload_n 0, 1) := dec_of (decode cX6_search) da_119 6 rfl
theorem dX6_search_86 : decode cX6_search 86 = .ok (.getfield 50, 3) := dec_of (decode cX6_search) da_119 7 rfl
theorem dX6_search_89 : decode cX6_search 89 = .ok (.invokevirtual 79, 3) := dec_of (decode cX6_search) da_119 8 rfl
theorem dX6_search_92 : decode cX6_search 92 = .ok (.aload_n 0, 1) := dec_of (decode cX6_search) da_119 9 rfl
theorem dX6_search_93 : decode cX6_search 93 = .ok (.getfield 54, 3) := dec_of (decode cX6_search) da_119 10 rfl
theorem dX6_search_96 : decode cX6_search 96 = .ok (.getfield 76, 3) := dec_of (decode cX6_search) da_119 11 rfl
theorem dX6_search_99 : decode cX6_search 99 = .ok (.iload_n 3, 1) := dec_of (decode cX6_search) da_119 12 rfl
theorem dX6_search_100 : decode cX6_search 100 = .ok (.iload 5, 2) := dec_of (decode cX6_search) da_119 13 rfl
theorem dX6_search_102 : decode cX6_search 102 = .ok (.iastore, 1) := dec_of (decode cX6_search) da_119 14 rfl
theorem dX6_search_103 : decode cX6_search 103 = .ok (.aload_n 0, 1) := dec_of (decode cX6_search) da_119 15 rfl
theorem dX6_search_104 : decode cX6_search 104 = .ok (.iload_n 2, 1) := dec_of (decode cX6_search) da_119 16 rfl
theorem dX6_search_105 : decode cX6_search 105 = .ok (.invokevirtual 83, 3) := dec_of (decode cX6_search) da_119 17 rfl
theorem dX6_search_108 : decode cX6_search 108 = .ok (.ifCond .eq 10, 3) := dec_of (decode cX6_search) da_119 18 rfl
theorem dX6_search_111 : decode cX6_search 111 = .ok (.aload_n 0, 1) := dec_of (decode cX6_search) da_119 19 rfl
theorem dX6_search_112 : decode cX6_search 112 = .ok (.iload_n 3, 1) := dec_of (decode cX6_search) da_119 20 rfl
theorem dX6_search_113 : decode cX6_search 113 = .ok (.iload 5, 2) := dec_of (decode cX6_search) da_119 21 rfl
theorem dX6_search_115 : decode cX6_search 115 = .ok (.invokevirtual 87, 3) := dec_of (decode cX6_search) da_119 22 rfl
theorem dX6_search_118 : decode cX6_search 118 = .ok (.iload 5, 2) := dec_of (decode cX6_search) da_119 23 rfl
theorem dX6_search_120 : decode cX6_search 120 = .ok (.iload_n 2, 1) := dec_of (decode cX6_search) da_119 24 rfl
theorem dX6_search_121 : decode cX6_search 121 = .ok (.if_icmp .gt 20, 3) := dec_of (decode cX6_search) da_119 25 rfl
theorem dX6_search_124 : decode cX6_search 124 = .ok (.aload_n 0, 1) := dec_of (decode cX6_search) da_119 26 rfl
theorem dX6_search_125 : decode cX6_search 125 = .ok (.getfield 50, 3) := dec_of (decode cX6_search) da_119 27 rfl
theorem dX6_search_128 : decode cX6_search 128 = .ok (.invokevirtual 91, 3) := dec_of (decode cX6_search) da_119 28 rfl
theorem dX6_search_131 : decode cX6_search 131 = .ok (.aload_n 0, 1) := dec_of (decode cX6_search) da_119 29 rfl
theorem dX6_search_132 : decode cX6_search 132 = .ok (.aload_n 0, 1) := dec_of (decode cX6_search) da_119 30 rfl
theorem dX6_search_133 : decode cX6_search 133 = .ok (.getfield 50, 3) := dec_of (decode cX6_search) da_119 31 rfl
theorem dX6_search_136 : decode cX6_search 136 = .ok (.invokevirtual 94, 3) := dec_of (decode cX6_search) da_119 32 rfl
theorem dX6_search_139 : decode cX6_search 139 = .ok (.istore 4, 2) := dec_of (decode cX6_search) da_119 33 rfl
theorem dX6_search_141 : decode cX6_search 141 = .ok (.iinc 5 1, 3) := dec_of (decode cX6_search) da_119 34 rfl
theorem dX6_search_144 : decode cX6_search 144 = .ok (.goto (-75), 3) := dec_of (decode cX6_search) da_119 35 rfl
theorem dX6_search_147 : decode cX6_search 147 = .ok (.iinc 3 1, 3) := dec_of (decode cX6_search) da_119 36 rfl
theorem dX6_search_150 : decode cX6_search 150 = .ok (.goto (-121), 3) := dec_of (decode cX6_search) da_119 37 rfl
theorem dX6_search_153 : decode cX6_search 153 = .ok (.return_, 1) := dec_of (decode cX6_search) da_119 38 rfl
abbrev dl_120 : List (Nat × Except DecodeError (Instr × Nat)) := [(0, .ok (.aload_n 0, 1)), (1, .ok (.iconst 0, 1)), (2, .ok (.putfield 24, 3)), (5, .ok (.aload_n 0, 1)), (6, .ok (.invokevirtual 98, 3)), (9, .ok (.iconst 1, 1)), (10, .ok (.isub, 1)), (11, .ok (.istore_n 1, 1)), (12, .ok (.iload_n 1, 1)), (13, .ok (.ifCond .lt 47, 3)), (16, .ok (.aload_n 0, 1)), (17, .ok (.getfield 24, 3)), (20, .ok (.iload_n 1, 1)), (21, .ok (.ishr, 1)), (22, .ok (.iconst 1, 1)), (23, .ok (.iand, 1)), (24, .ok (.ifCond .ne 30, 3)), (27, .ok (.aload_n 0, 1)), (28, .ok (.getfield 21, 3)), (31, .ok (.iload_n 1, 1)), (32, .ok (.iaload, 1)), (33, .ok (.iconst (-1), 1)), (34, .ok (.if_icmp .eq 20, 3)), (37, .ok (.aload_n 0, 1)), (38, .ok (.dup, 1)), (39, .ok (.getfield 24, 3)), (42, .ok (.iconst 1, 1)), (43, .ok (.aload_n 0, 1)), (44, .ok (.getfield 21, 3)), (47, .ok (.iload_n 1, 1)), (48, .ok (.iaload, 1)), (49, .ok (.ishl, 1)), (50, .ok (.ior, 1)), (51, .ok (.putfield 24, 3)), (54, .ok (.iinc 1 (-1), 3)), (57, .ok (.goto (-45), 3)), (60, .ok (.return_, 1))]
theorem da_120 : dl_120.all (fun q => decide (decode cX6_markStruck q.1 = q.2)) = true := by decide +kernel
theorem dX6_markStruck_0 : decode cX6_markStruck 0 = .ok (.aload_n 0, 1) := dec_of (decode cX6_markStruck) da_120 0 rfl
theorem dX6_markStruck_1 : decode cX6_markStruck 1 = .ok (.iconst 0, 1) := dec_of (decode cX6_markStruck) da_120 1 rfl
theorem dX6_markStruck_2 : decode cX6_markStruck 2 = .ok (.putfield 24, 3) := dec_of (decode cX6_markStruck) da_120 2 rfl
theorem dX6_markStruck_5 : decode cX6_markStruck 5 = .ok (.aload_n 0, 1) := dec_of (decode cX6_markStruck) da_120 3 rfl
theorem dX6_markStruck_6 : decode cX6_markStruck 6 = .ok (.invokevirtual 98, 3) := dec_of (decode cX6_markStruck) da_120 4 rfl
theorem dX6_markStruck_9 : decode cX6_markStruck 9 = .ok (.iconst 1, 1) := dec_of (decode cX6_markStruck) da_120 5 rfl
theorem dX6_markStruck_10 : decode cX6_markStruck 10 = .ok (.isub, 1) := dec_of (decode cX6_markStruck) da_120 6 rfl
theorem dX6_markStruck_11 : decode cX6_markStruck 11 = .ok (.istore_n 1, 1) := dec_of (decode cX6_markStruck) da_120 7 rfl
theorem dX6_markStruck_12 : decode cX6_markStruck 12 = .ok (.iload_n 1, 1) := dec_of (decode cX6_markStruck) da_120 8 rfl
theorem dX6_markStruck_13 : decode cX6_markStruck 13 = .ok (.ifCond .lt 47, 3) := dec_of (decode cX6_markStruck) da_120 9 rfl
theorem dX6_markStruck_16 : decode cX6_markStruck 16 = .ok (.aload_n 0, 1) := dec_of (decode cX6_markStruck) da_120 10 rfl
theorem dX6_markStruck_17 : decode cX6_markStruck 17 = .ok (.getfield 24, 3) := dec_of (decode cX6_markStruck) da_120 11 rfl
theorem dX6_markStruck_20 : decode cX6_markStruck 20 = .ok (.iload_n 1, 1) := dec_of (decode cX6_markStruck) da_120 12 rfl
theorem dX6_markStruck_21 : decode cX6_markStruck 21 = .ok (.ishr, 1) := dec_of (decode cX6_markStruck) da_120 13 rfl
theorem dX6_markStruck_22 : decode cX6_markStruck 22 = .ok (.iconst 1, 1) := dec_of (decode cX6_markStruck) da_120 14 rfl
theorem dX6_markStruck_23 : decode cX6_markStruck 23 = .ok (.iand, 1) := dec_of (decode cX6_markStruck) da_120 15 rfl
theorem dX6_markStruck_24 : decode cX6_markStruck 24 = .ok (.ifCond .ne 30, 3) := dec_of (decode cX6_markStruck) da_120 16 rfl
theorem dX6_markStruck_27 : decode cX6_markStruck 27 = .ok (.aload_n 0, 1) := dec_of (decode cX6_markStruck) da_120 17 rfl
theorem dX6_markStruck_28 : decode cX6_markStruck 28 = .ok (.getfield 21, 3) := dec_of (decode cX6_markStruck) da_120 18 rfl
theorem dX6_markStruck_31 : decode cX6_markStruck 31 = .ok (.iload_n 1, 1) := dec_of (decode cX6_markStruck) da_120 19 rfl
theorem dX6_markStruck_32 : decode cX6_markStruck 32 = .ok (.iaload, 1) := dec_of (decode cX6_markStruck) da_120 20 rfl
theorem dX6_markStruck_33 : decode cX6_markStruck 33 = .ok (.iconst (-1), 1) := dec_of (decode cX6_markStruck) da_120 21 rfl
theorem dX6_markStruck_34 : decode cX6_markStruck 34 = .ok (.if_icmp .eq 20, 3) := dec_of (decode cX6_markStruck) da_120 22 rfl
theorem dX6_markStruck_37 : decode cX6_markStruck 37 = .ok (.aload_n 0, 1) := dec_of (decode cX6_markStruck) da_120 23 rfl
theorem dX6_markStruck_38 : decode cX6_markStruck 38 = .ok (.dup, 1) := dec_of (decode cX6_markStruck) da_120 24 rfl
theorem dX6_markStruck_39 : decode cX6_markStruck 39 = .ok (.getfield 24, 3) := dec_of (decode cX6_markStruck) da_120 25 rfl
theorem dX6_markStruck_42 : decode cX6_markStruck 42 = .ok (.iconst 1, 1) := dec_of (decode cX6_markStruck) da_120 26 rfl
theorem dX6_markStruck_43 : decode cX6_markStruck 43 = .ok (.aload_n 0, 1) := dec_of (decode cX6_markStruck) da_120 27 rfl
theorem dX6_markStruck_44 : decode cX6_markStruck 44 = .ok (.getfield 21, 3) := dec_of (decode cX6_markStruck) da_120 28 rfl
theorem dX6_markStruck_47 : decode cX6_markStruck 47 = .ok (.iload_n 1, 1) := dec_of (decode cX6_markStruck) da_120 29 rfl
theorem dX6_markStruck_48 : decode cX6_markStruck 48 = .ok (.iaload, 1) := dec_of (decode cX6_markStruck) da_120 30 rfl
theorem dX6_markStruck_49 : decode cX6_markStruck 49 = .ok (.ishl, 1) := dec_of (decode cX6_markStruck) da_120 31 rfl
theorem dX6_markStruck_50 : decode cX6_markStruck 50 = .ok (.ior, 1) := dec_of (decode cX6_markStruck) da_120 32 rfl
theorem dX6_markStruck_51 : decode cX6_markStruck 51 = .ok (.putfield 24, 3) := dec_of (decode cX6_markStruck) da_120 33 rfl
theorem dX6_markStruck_54 : decode cX6_markStruck 54 = .ok (.iinc 1 (-1), 3) := dec_of (decode cX6_markStruck) da_120 34 rfl
theorem dX6_markStruck_57 : decode cX6_markStruck 57 = .ok (.goto (-45), 3) := dec_of (decode cX6_markStruck) da_120 35 rfl
theorem dX6_markStruck_60 : decode cX6_markStruck 60 = .ok (.return_, 1) := dec_of (decode cX6_markStruck) da_120 36 rfl
abbrev dl_121 : List (Nat × Except DecodeError (Instr × Nat)) := [(0, .ok (.aload_n 0, 1)), (1, .ok (.getfield 24, 3)), (4, .ok (.iload_n 1, 1)), (5, .ok (.ishr, 1)), (6, .ok (.iconst 1, 1)), (7, .ok (.iand, 1)), (8, .ok (.ifCond .ne 17, 3)), (11, .ok (.aload_n 0, 1)), (12, .ok (.getfield 21, 3)), (15, .ok (.iload_n 1, 1)), (16, .ok (.iaload, 1)), (17, .ok (.iconst (-1), 1)), (18, .ok (.if_icmp .ne 7, 3)), (21, .ok (.iconst 1, 1)), (22, .ok (.goto 4, 3)), (25, .ok (.iconst 0, 1)), (26, .ok (.ireturn, 1))]
theorem da_121 : dl_121.all (fun q => decide (decode cX6_tells q.1 = q.2)) = true := by decide +kernel
theorem dX6_tells_0 : decode cX6_tells 0 = .ok (.aload_n 0, 1) := dec_of (decode cX6_tells) da_121 0 rfl
theorem dX6_tells_1 : decode cX6_tells 1 = .ok (.getfield 24, 3) := dec_of (decode cX6_tells) da_121 1 rfl
theorem dX6_tells_4 : decode cX6_tells 4 = .ok (.iload_n 1, 1) := dec_of (decode cX6_tells) da_121 2 rfl
theorem dX6_tells_5 : decode cX6_tells 5 = .ok (.ishr, 1) := dec_of (decode cX6_tells) da_121 3 rfl
theorem dX6_tells_6 : decode cX6_tells 6 = .ok (.iconst 1, 1) := dec_of (decode cX6_tells) da_121 4 rfl
theorem dX6_tells_7 : decode cX6_tells 7 = .ok (.iand, 1) := dec_of (decode cX6_tells) da_121 5 rfl
theorem dX6_tells_8 : decode cX6_tells 8 = .ok (.ifCond .ne 17, 3) := dec_of (decode cX6_tells) da_121 6 rfl
theorem dX6_tells_11 : decode cX6_tells 11 = .ok (.aload_n 0, 1) := dec_of (decode cX6_tells) da_121 7 rfl
theorem dX6_tells_12 : decode cX6_tells 12 = .ok (.getfield 21, 3) := dec_of (decode cX6_tells) da_121 8 rfl
theorem dX6_tells_15 : decode cX6_tells 15 = .ok (.iload_n 1, 1) := dec_of (decode cX6_tells) da_121 9 rfl
theorem dX6_tells_16 : decode cX6_tells 16 = .ok (.iaload, 1) := dec_of (decode cX6_tells) da_121 10 rfl
theorem dX6_tells_17 : decode cX6_tells 17 = .ok (.iconst (-1), 1) := dec_of (decode cX6_tells) da_121 11 rfl
theorem dX6_tells_18 : decode cX6_tells 18 = .ok (.if_icmp .ne 7, 3) := dec_of (decode cX6_tells) da_121 12 rfl
theorem dX6_tells_21 : decode cX6_tells 21 = .ok (.iconst 1, 1) := dec_of (decode cX6_tells) da_121 13 rfl
theorem dX6_tells_22 : decode cX6_tells 22 = .ok (.goto 4, 3) := dec_of (decode cX6_tells) da_121 14 rfl
theorem dX6_tells_25 : decode cX6_tells 25 = .ok (.iconst 0, 1) := dec_of (decode cX6_tells) da_121 15 rfl
theorem dX6_tells_26 : decode cX6_tells 26 = .ok (.ireturn, 1) := dec_of (decode cX6_tells) da_121 16 rfl
abbrev dl_122 : List (Nat × Except DecodeError (Instr × Nat)) := [(0, .ok (.iconst (-1), 1)), (1, .ok (.istore_n 1, 1)), (2, .ok (.aload_n 0, 1)), (3, .ok (.invokevirtual 98, 3)), (6, .ok (.istore_n 2, 1)), (7, .ok (.iconst 0, 1)), (8, .ok (.istore_n 3, 1)), (9, .ok (.iload_n 3, 1)), (10, .ok (.iload_n 2, 1)), (11, .ok (.if_icmp .ge 28, 3)), (14, .ok (.aload_n 0, 1)), (15, .ok (.iload_n 3, 1)), (16, .ok (.invokevirtual 101, 3)), (19, .ok (.ifCond .eq 14, 3)), (22, .ok (.iload_n 1, 1)), (23, .ok (.aload_n 0, 1)), (24, .ok (.getfield 9, 3)), (27, .ok (.iload_n 3, 1)), (28, .ok (.iaload, 1)), (29, .ok (.invokestatic 104, 3)), (32, .ok (.istore_n 1, 1)), (33, .ok (.iinc 3 1, 3)), (36, .ok (.goto (-27), 3)), (39, .ok (.iload_n 1, 1)), (40, .ok (.ireturn, 1))]
theorem da_122 : dl_122.all (fun q => decide (decode cX6_lastMinute q.1 = q.2)) = true := by decide +kernel
theorem dX6_lastMinute_0 : decode cX6_lastMinute 0 = .ok (.iconst (-1), 1) := dec_of (decode cX6_lastMinute) da_122 0 rfl
theorem dX6_lastMinute_1 : decode cX6_lastMinute 1 = .ok (.istore_n 1, 1) := dec_of (decode cX6_lastMinute) da_122 1 rfl
theorem dX6_lastMinute_2 : decode cX6_lastMinute 2 = .ok (.aload_n 0, 1) := dec_of (decode cX6_lastMinute) da_122 2 rfl
theorem dX6_lastMinute_3 : decode cX6_lastMinute 3 = .ok (.invokevirtual 98, 3) := dec_of (decode cX6_lastMinute) da_122 3 rfl
theorem dX6_lastMinute_6 : decode cX6_lastMinute 6 = .ok (.istore_n 2, 1) := dec_of (decode cX6_lastMinute) da_122 4 rfl
theorem dX6_lastMinute_7 : decode cX6_lastMinute 7 = .ok (.iconst 0, 1) := dec_of (decode cX6_lastMinute) da_122 5 rfl
theorem dX6_lastMinute_8 : decode cX6_lastMinute 8 = .ok (.istore_n 3, 1) := dec_of (decode cX6_lastMinute) da_122 6 rfl
theorem dX6_lastMinute_9 : decode cX6_lastMinute 9 = .ok (.iload_n 3, 1) := dec_of (decode cX6_lastMinute) da_122 7 rfl
theorem dX6_lastMinute_10 : decode cX6_lastMinute 10 = .ok (.iload_n 2, 1) := dec_of (decode cX6_lastMinute) da_122 8 rfl
theorem dX6_lastMinute_11 : decode cX6_lastMinute 11 = .ok (.if_icmp .ge 28, 3) := dec_of (decode cX6_lastMinute) da_122 9 rfl
theorem dX6_lastMinute_14 : decode cX6_lastMinute 14 = .ok (.aload_n 0, 1) := dec_of (decode cX6_lastMinute) da_122 10 rfl
theorem dX6_lastMinute_15 : decode cX6_lastMinute 15 = .ok (.iload_n 3, 1) := dec_of (decode cX6_lastMinute) da_122 11 rfl
theorem dX6_lastMinute_16 : decode cX6_lastMinute 16 = .ok (.invokevirtual 101, 3) := dec_of (decode cX6_lastMinute) da_122 12 rfl
theorem dX6_lastMinute_19 : decode cX6_lastMinute 19 = .ok (.ifCond .eq 14, 3) := dec_of (decode cX6_lastMinute) da_122 13 rfl
theorem dX6_lastMinute_22 : decode cX6_lastMinute 22 = .ok (.iload_n 1, 1) := dec_of (decode cX6_lastMinute) da_122 14 rfl
theorem dX6_lastMinute_23 : decode cX6_lastMinute 23 = .ok (.aload_n 0, 1) := dec_of (decode cX6_lastMinute) da_122 15 rfl
theorem dX6_lastMinute_24 : decode cX6_lastMinute 24 = .ok (.getfield 9, 3) := dec_of (decode cX6_lastMinute) da_122 16 rfl
theorem dX6_lastMinute_27 : decode cX6_lastMinute 27 = .ok (.iload_n 3, 1) := dec_of (decode cX6_lastMinute) da_122 17 rfl
theorem dX6_lastMinute_28 : decode cX6_lastMinute 28 = .ok (.iaload, 1) := dec_of (decode cX6_lastMinute) da_122 18 rfl
theorem dX6_lastMinute_29 : decode cX6_lastMinute 29 = .ok (.invokestatic 104, 3) := dec_of (decode cX6_lastMinute) da_122 19 rfl
theorem dX6_lastMinute_32 : decode cX6_lastMinute 32 = .ok (.istore_n 1, 1) := dec_of (decode cX6_lastMinute) da_122 20 rfl
theorem dX6_lastMinute_33 : decode cX6_lastMinute 33 = .ok (.iinc 3 1, 3) := dec_of (decode cX6_lastMinute) da_122 21 rfl
theorem dX6_lastMinute_36 : decode cX6_lastMinute 36 = .ok (.goto (-27), 3) := dec_of (decode cX6_lastMinute) da_122 22 rfl
theorem dX6_lastMinute_39 : decode cX6_lastMinute 39 = .ok (.iload_n 1, 1) := dec_of (decode cX6_lastMinute) da_122 23 rfl
theorem dX6_lastMinute_40 : decode cX6_lastMinute 40 = .ok (.ireturn, 1) := dec_of (decode cX6_lastMinute) da_122 24 rfl
abbrev dl_123 : List (Nat × Except DecodeError (Instr × Nat)) := [(0, .ok (.aload_n 0, 1)), (1, .ok (.getfield 54, 3)), (4, .ok (.getfield 110, 3)), (7, .ok (.istore_n 2, 1)), (8, .ok (.iload_n 2, 1)), (9, .ok (.iload_n 1, 1)), (10, .ok (.if_icmp .gt 29, 3)), (13, .ok (.aload_n 0, 1)), (14, .ok (.getfield 54, 3)), (17, .ok (.invokevirtual 91, 3)), (20, .ok (.aload_n 0, 1)), (21, .ok (.aload_n 0, 1)), (22, .ok (.getfield 54, 3)), (25, .ok (.invokevirtual 94, 3)), (28, .ok (.ifCond .ne 5, 3)), (31, .ok (.iconst 0, 1)), (32, .ok (.ireturn, 1)), (33, .ok (.iinc 2 1, 3)), (36, .ok (.goto (-28), 3)), (39, .ok (.iconst 1, 1)), (40, .ok (.ireturn, 1))]
theorem da_123 : dl_123.all (fun q => decide (decode cX6_fitsThrough q.1 = q.2)) = true := by decide +kernel
theorem dX6_fitsThrough_0 : decode cX6_fitsThrough 0 = .ok (.aload_n 0, 1) := dec_of (decode cX6_fitsThrough) da_123 0 rfl
theorem dX6_fitsThrough_1 : decode cX6_fitsThrough 1 = .ok (.getfield 54, 3) := dec_of (decode cX6_fitsThrough) da_123 1 rfl
theorem dX6_fitsThrough_4 : decode cX6_fitsThrough 4 = .ok (.getfield 110, 3) := dec_of (decode cX6_fitsThrough) da_123 2 rfl
theorem dX6_fitsThrough_7 : decode cX6_fitsThrough 7 = .ok (.istore_n 2, 1) := dec_of (decode cX6_fitsThrough) da_123 3 rfl
theorem dX6_fitsThrough_8 : decode cX6_fitsThrough 8 = .ok (.iload_n 2, 1) := dec_of (decode cX6_fitsThrough) da_123 4 rfl
theorem dX6_fitsThrough_9 : decode cX6_fitsThrough 9 = .ok (.iload_n 1, 1) := dec_of (decode cX6_fitsThrough) da_123 5 rfl
theorem dX6_fitsThrough_10 : decode cX6_fitsThrough 10 = .ok (.if_icmp .gt 29, 3) := dec_of (decode cX6_fitsThrough) da_123 6 rfl
theorem dX6_fitsThrough_13 : decode cX6_fitsThrough 13 = .ok (.aload_n 0, 1) := dec_of (decode cX6_fitsThrough) da_123 7 rfl
theorem dX6_fitsThrough_14 : decode cX6_fitsThrough 14 = .ok (.getfield 54, 3) := dec_of (decode cX6_fitsThrough) da_123 8 rfl
theorem dX6_fitsThrough_17 : decode cX6_fitsThrough 17 = .ok (.invokevirtual 91, 3) := dec_of (decode cX6_fitsThrough) da_123 9 rfl
theorem dX6_fitsThrough_20 : decode cX6_fitsThrough 20 = .ok (.aload_n 0, 1) := dec_of (decode cX6_fitsThrough) da_123 10 rfl
theorem dX6_fitsThrough_21 : decode cX6_fitsThrough 21 = .ok (.aload_n 0, 1) := dec_of (decode cX6_fitsThrough) da_123 11 rfl
theorem dX6_fitsThrough_22 : decode cX6_fitsThrough 22 = .ok (.getfield 54, 3) := dec_of (decode cX6_fitsThrough) da_123 12 rfl
theorem dX6_fitsThrough_25 : decode cX6_fitsThrough 25 = .ok (.invokevirtual 94, 3) := dec_of (decode cX6_fitsThrough) da_123 13 rfl
theorem dX6_fitsThrough_28 : decode cX6_fitsThrough 28 = .ok (.ifCond .ne 5, 3) := dec_of (decode cX6_fitsThrough) da_123 14 rfl
theorem dX6_fitsThrough_31 : decode cX6_fitsThrough 31 = .ok (.iconst 0, 1) := dec_of (decode cX6_fitsThrough) da_123 15 rfl
theorem dX6_fitsThrough_32 : decode cX6_fitsThrough 32 = .ok (.ireturn, 1) := dec_of (decode cX6_fitsThrough) da_123 16 rfl
theorem dX6_fitsThrough_33 : decode cX6_fitsThrough 33 = .ok (.iinc 2 1, 3) := dec_of (decode cX6_fitsThrough) da_123 17 rfl
theorem dX6_fitsThrough_36 : decode cX6_fitsThrough 36 = .ok (.goto (-28), 3) := dec_of (decode cX6_fitsThrough) da_123 18 rfl
theorem dX6_fitsThrough_39 : decode cX6_fitsThrough 39 = .ok (.iconst 1, 1) := dec_of (decode cX6_fitsThrough) da_123 19 rfl
theorem dX6_fitsThrough_40 : decode cX6_fitsThrough 40 = .ok (.ireturn, 1) := dec_of (decode cX6_fitsThrough) da_123 20 rfl
abbrev dl_124 : List (Nat × Except DecodeError (Instr × Nat)) := [(0, .ok (.aload_n 0, 1)), (1, .ok (.invokevirtual 98, 3)), (4, .ok (.istore_n 2, 1)), (5, .ok (.iconst 0, 1)), (6, .ok (.istore_n 3, 1)), (7, .ok (.iload_n 3, 1)), (8, .ok (.iload_n 2, 1)), (9, .ok (.if_icmp .ge 53, 3)), (12, .ok (.aload_n 0, 1)), (13, .ok (.iload_n 3, 1)), (14, .ok (.invokevirtual 101, 3)), (17, .ok (.ifCond .eq 39, 3)), (20, .ok (.aload_n 0, 1)), (21, .ok (.getfield 9, 3)), (24, .ok (.iload_n 3, 1)), (25, .ok (.iaload, 1)), (26, .ok (.aload_n 1, 1)), (27, .ok (.getfield 110, 3)), (30, .ok (.iconst 1, 1)), (31, .ok (.isub, 1)), (32, .ok (.if_icmp .ne 24, 3)), (35, .ok (.aload_n 1, 1)), (36, .ok (.aload_n 0, 1)), (37, .ok (.getfield 15, 3)), (40, .ok (.iload_n 3, 1)), (41, .ok (.iaload, 1)), (42, .ok (.invokevirtual 113, 3)), (45, .ok (.aload_n 0, 1)), (46, .ok (.getfield 18, 3)), (49, .ok (.iload_n 3, 1)), (50, .ok (.iaload, 1)), (51, .ok (.if_icmp .eq 5, 3)), (54, .ok (.iconst 0, 1)), (55, .ok (.ireturn, 1)), (56, .ok (.iinc 3 1, 3)), (59, .ok (.goto (-52), 3)), (62, .ok (.iconst 1, 1)), (63, .ok (.ireturn, 1))]
theorem da_124 : dl_124.all (fun q => decide (decode cX6_fitsBehindLast q.1 = q.2)) = true := by decide +kernel
theorem dX6_fitsBehindLast_0 : decode cX6_fitsBehindLast 0 = .ok (.aload_n 0, 1) := dec_of (decode cX6_fitsBehindLast) da_124 0 rfl
theorem dX6_fitsBehindLast_1 : decode cX6_fitsBehindLast 1 = .ok (.invokevirtual 98, 3) := dec_of (decode cX6_fitsBehindLast) da_124 1 rfl
theorem dX6_fitsBehindLast_4 : decode cX6_fitsBehindLast 4 = .ok (.istore_n 2, 1) := dec_of (decode cX6_fitsBehindLast) da_124 2 rfl
theorem dX6_fitsBehindLast_5 : decode cX6_fitsBehindLast 5 = .ok (.iconst 0, 1) := dec_of (decode cX6_fitsBehindLast) da_124 3 rfl
theorem dX6_fitsBehindLast_6 : decode cX6_fitsBehindLast 6 = .ok (.istore_n 3, 1) := dec_of (decode cX6_fitsBehindLast) da_124 4 rfl
theorem dX6_fitsBehindLast_7 : decode cX6_fitsBehindLast 7 = .ok (.iload_n 3, 1) := dec_of (decode cX6_fitsBehindLast) da_124 5 rfl
theorem dX6_fitsBehindLast_8 : decode cX6_fitsBehindLast 8 = .ok (.iload_n 2, 1) := dec_of (decode cX6_fitsBehindLast) da_124 6 rfl
theorem dX6_fitsBehindLast_9 : decode cX6_fitsBehindLast 9 = .ok (.if_icmp .ge 53, 3) := dec_of (decode cX6_fitsBehindLast) da_124 7 rfl
theorem dX6_fitsBehindLast_12 : decode cX6_fitsBehindLast 12 = .ok (.aload_n 0, 1) := dec_of (decode cX6_fitsBehindLast) da_124 8 rfl
theorem dX6_fitsBehindLast_13 : decode cX6_fitsBehindLast 13 = .ok (.iload_n 3, 1) := dec_of (decode cX6_fitsBehindLast) da_124 9 rfl
theorem dX6_fitsBehindLast_14 : decode cX6_fitsBehindLast 14 = .ok (.invokevirtual 101, 3) := dec_of (decode cX6_fitsBehindLast) da_124 10 rfl
theorem dX6_fitsBehindLast_17 : decode cX6_fitsBehindLast 17 = .ok (.ifCond .eq 39, 3) := dec_of (decode cX6_fitsBehindLast) da_124 11 rfl
theorem dX6_fitsBehindLast_20 : decode cX6_fitsBehindLast 20 = .ok (.aload_n 0, 1) := dec_of (decode cX6_fitsBehindLast) da_124 12 rfl
theorem dX6_fitsBehindLast_21 : decode cX6_fitsBehindLast 21 = .ok (.getfield 9, 3) := dec_of (decode cX6_fitsBehindLast) da_124 13 rfl
theorem dX6_fitsBehindLast_24 : decode cX6_fitsBehindLast 24 = .ok (.iload_n 3, 1) := dec_of (decode cX6_fitsBehindLast) da_124 14 rfl
theorem dX6_fitsBehindLast_25 : decode cX6_fitsBehindLast 25 = .ok (.iaload, 1) := dec_of (decode cX6_fitsBehindLast) da_124 15 rfl
theorem dX6_fitsBehindLast_26 : decode cX6_fitsBehindLast 26 = .ok (.aload_n 1, 1) := dec_of (decode cX6_fitsBehindLast) da_124 16 rfl
theorem dX6_fitsBehindLast_27 : decode cX6_fitsBehindLast 27 = .ok (.getfield 110, 3) := dec_of (decode cX6_fitsBehindLast) da_124 17 rfl
theorem dX6_fitsBehindLast_30 : decode cX6_fitsBehindLast 30 = .ok (.iconst 1, 1) := dec_of (decode cX6_fitsBehindLast) da_124 18 rfl
theorem dX6_fitsBehindLast_31 : decode cX6_fitsBehindLast 31 = .ok (.isub, 1) := dec_of (decode cX6_fitsBehindLast) da_124 19 rfl
theorem dX6_fitsBehindLast_32 : decode cX6_fitsBehindLast 32 = .ok (.if_icmp .ne 24, 3) := dec_of (decode cX6_fitsBehindLast) da_124 20 rfl
theorem dX6_fitsBehindLast_35 : decode cX6_fitsBehindLast 35 = .ok (.aload_n 1, 1) := dec_of (decode cX6_fitsBehindLast) da_124 21 rfl
theorem dX6_fitsBehindLast_36 : decode cX6_fitsBehindLast 36 = .ok (.aload_n 0, 1) := dec_of (decode cX6_fitsBehindLast) da_124 22 rfl
theorem dX6_fitsBehindLast_37 : decode cX6_fitsBehindLast 37 = .ok (.getfield 15, 3) := dec_of (decode cX6_fitsBehindLast) da_124 23 rfl
theorem dX6_fitsBehindLast_40 : decode cX6_fitsBehindLast 40 = .ok (.iload_n 3, 1) := dec_of (decode cX6_fitsBehindLast) da_124 24 rfl
theorem dX6_fitsBehindLast_41 : decode cX6_fitsBehindLast 41 = .ok (.iaload, 1) := dec_of (decode cX6_fitsBehindLast) da_124 25 rfl
theorem dX6_fitsBehindLast_42 : decode cX6_fitsBehindLast 42 = .ok (.invokevirtual 113, 3) := dec_of (decode cX6_fitsBehindLast) da_124 26 rfl
theorem dX6_fitsBehindLast_45 : decode cX6_fitsBehindLast 45 = .ok (.aload_n 0, 1) := dec_of (decode cX6_fitsBehindLast) da_124 27 rfl
theorem dX6_fitsBehindLast_46 : decode cX6_fitsBehindLast 46 = .ok (.getfield 18, 3) := dec_of (decode cX6_fitsBehindLast) da_124 28 rfl
theorem dX6_fitsBehindLast_49 : decode cX6_fitsBehindLast 49 = .ok (.iload_n 3, 1) := dec_of (decode cX6_fitsBehindLast) da_124 29 rfl
theorem dX6_fitsBehindLast_50 : decode cX6_fitsBehindLast 50 = .ok (.iaload, 1) := dec_of (decode cX6_fitsBehindLast) da_124 30 rfl
theorem dX6_fitsBehindLast_51 : decode cX6_fitsBehindLast 51 = .ok (.if_icmp .eq 5, 3) := dec_of (decode cX6_fitsBehindLast) da_124 31 rfl
theorem dX6_fitsBehindLast_54 : decode cX6_fitsBehindLast 54 = .ok (.iconst 0, 1) := dec_of (decode cX6_fitsBehindLast) da_124 32 rfl
theorem dX6_fitsBehindLast_55 : decode cX6_fitsBehindLast 55 = .ok (.ireturn, 1) := dec_of (decode cX6_fitsBehindLast) da_124 33 rfl
theorem dX6_fitsBehindLast_56 : decode cX6_fitsBehindLast 56 = .ok (.iinc 3 1, 3) := dec_of (decode cX6_fitsBehindLast) da_124 34 rfl
theorem dX6_fitsBehindLast_59 : decode cX6_fitsBehindLast 59 = .ok (.goto (-52), 3) := dec_of (decode cX6_fitsBehindLast) da_124 35 rfl
theorem dX6_fitsBehindLast_62 : decode cX6_fitsBehindLast 62 = .ok (.iconst 1, 1) := dec_of (decode cX6_fitsBehindLast) da_124 36 rfl
theorem dX6_fitsBehindLast_63 : decode cX6_fitsBehindLast 63 = .ok (.ireturn, 1) := dec_of (decode cX6_fitsBehindLast) da_124 37 rfl
abbrev dl_125 : List (Nat × Except DecodeError (Instr × Nat)) := [(0, .ok (.aload_n 0, 1)), (1, .ok (.getfield 44, 3)), (4, .ok (.sipush 480, 3)), (7, .ok (.if_icmp .ge 33, 3)), (10, .ok (.aload_n 0, 1)), (11, .ok (.getfield 38, 3)), (14, .ok (.aload_n 0, 1)), (15, .ok (.getfield 44, 3)), (18, .ok (.iload_n 1, 1)), (19, .ok (.iastore, 1)), (20, .ok (.aload_n 0, 1)), (21, .ok (.getfield 41, 3)), (24, .ok (.aload_n 0, 1)), (25, .ok (.getfield 44, 3)), (28, .ok (.iload_n 2, 1)), (29, .ok (.iastore, 1)), (30, .ok (.aload_n 0, 1)), (31, .ok (.dup, 1)), (32, .ok (.getfield 44, 3)), (35, .ok (.iconst 1, 1)), (36, .ok (.iadd, 1)), (37, .ok (.putfield 44, 3)), (40, .ok (.return_, 1))]
theorem da_125 : dl_125.all (fun q => decide (decode cX6_addWay q.1 = q.2)) = true := by decide +kernel
theorem dX6_addWay_0 : decode cX6_addWay 0 = .ok (.aload_n 0, 1) := dec_of (decode cX6_addWay) da_125 0 rfl
theorem dX6_addWay_1 : decode cX6_addWay 1 = .ok (.getfield 44, 3) := dec_of (decode cX6_addWay) da_125 1 rfl
theorem dX6_addWay_4 : decode cX6_addWay 4 = .ok (.sipush 480, 3) := dec_of (decode cX6_addWay) da_125 2 rfl
theorem dX6_addWay_7 : decode cX6_addWay 7 = .ok (.if_icmp .ge 33, 3) := dec_of (decode cX6_addWay) da_125 3 rfl
theorem dX6_addWay_10 : decode cX6_addWay 10 = .ok (.aload_n 0, 1) := dec_of (decode cX6_addWay) da_125 4 rfl
theorem dX6_addWay_11 : decode cX6_addWay 11 = .ok (.getfield 38, 3) := dec_of (decode cX6_addWay) da_125 5 rfl
theorem dX6_addWay_14 : decode cX6_addWay 14 = .ok (.aload_n 0, 1) := dec_of (decode cX6_addWay) da_125 6 rfl
theorem dX6_addWay_15 : decode cX6_addWay 15 = .ok (.getfield 44, 3) := dec_of (decode cX6_addWay) da_125 7 rfl
theorem dX6_addWay_18 : decode cX6_addWay 18 = .ok (.iload_n 1, 1) := dec_of (decode cX6_addWay) da_125 8 rfl
theorem dX6_addWay_19 : decode cX6_addWay 19 = .ok (.iastore, 1) := dec_of (decode cX6_addWay) da_125 9 rfl
theorem dX6_addWay_20 : decode cX6_addWay 20 = .ok (.aload_n 0, 1) := dec_of (decode cX6_addWay) da_125 10 rfl
theorem dX6_addWay_21 : decode cX6_addWay 21 = .ok (.getfield 41, 3) := dec_of (decode cX6_addWay) da_125 11 rfl
theorem dX6_addWay_24 : decode cX6_addWay 24 = .ok (.aload_n 0, 1) := dec_of (decode cX6_addWay) da_125 12 rfl
theorem dX6_addWay_25 : decode cX6_addWay 25 = .ok (.getfield 44, 3) := dec_of (decode cX6_addWay) da_125 13 rfl
theorem dX6_addWay_28 : decode cX6_addWay 28 = .ok (.iload_n 2, 1) := dec_of (decode cX6_addWay) da_125 14 rfl
theorem dX6_addWay_29 : decode cX6_addWay 29 = .ok (.iastore, 1) := dec_of (decode cX6_addWay) da_125 15 rfl
theorem dX6_addWay_30 : decode cX6_addWay 30 = .ok (.aload_n 0, 1) := dec_of (decode cX6_addWay) da_125 16 rfl
theorem dX6_addWay_31 : decode cX6_addWay 31 = .ok (.dup, 1) := dec_of (decode cX6_addWay) da_125 17 rfl
theorem dX6_addWay_32 : decode cX6_addWay 32 = .ok (.getfield 44, 3) := dec_of (decode cX6_addWay) da_125 18 rfl
theorem dX6_addWay_35 : decode cX6_addWay 35 = .ok (.iconst 1, 1) := dec_of (decode cX6_addWay) da_125 19 rfl
theorem dX6_addWay_36 : decode cX6_addWay 36 = .ok (.iadd, 1) := dec_of (decode cX6_addWay) da_125 20 rfl
theorem dX6_addWay_37 : decode cX6_addWay 37 = .ok (.putfield 44, 3) := dec_of (decode cX6_addWay) da_125 21 rfl
theorem dX6_addWay_40 : decode cX6_addWay 40 = .ok (.return_, 1) := dec_of (decode cX6_addWay) da_125 22 rfl
abbrev dl_126 : List (Nat × Except DecodeError (Instr × Nat)) := [(0, .ok (.aload_n 0, 1)), (1, .ok (.invokespecial 3, 3)), (4, .ok (.aload_n 0, 1)), (5, .ok (.sipush 700, 3)), (8, .ok (.newarray .byte, 2)), (10, .ok (.putfield 9, 3)), (13, .ok (.aload_n 0, 1)), (14, .ok (.iconst 0, 1)), (15, .ok (.putfield 15, 3)), (18, .ok (.aload_n 0, 1)), (19, .ok (.iconst 0, 1)), (20, .ok (.putfield 19, 3)), (23, .ok (.aload_n 0, 1)), (24, .ok (.iconst 0, 1)), (25, .ok (.putfield 22, 3)), (28, .ok (.return_, 1))]
theorem da_126 : dl_126.all (fun q => decide (decode cX7_init q.1 = q.2)) = true := by decide +kernel
theorem dX7_init_0 : decode cX7_init 0 = .ok (.aload_n 0, 1) := dec_of (decode cX7_init) da_126 0 rfl
theorem dX7_init_1 : decode cX7_init 1 = .ok (.invokespecial 3, 3) := dec_of (decode cX7_init) da_126 1 rfl
theorem dX7_init_4 : decode cX7_init 4 = .ok (.aload_n 0, 1) := dec_of (decode cX7_init) da_126 2 rfl
theorem dX7_init_5 : decode cX7_init 5 = .ok (.sipush 700, 3) := dec_of (decode cX7_init) da_126 3 rfl
theorem dX7_init_8 : decode cX7_init 8 = .ok (.newarray .byte, 2) := dec_of (decode cX7_init) da_126 4 rfl
theorem dX7_init_10 : decode cX7_init 10 = .ok (.putfield 9, 3) := dec_of (decode cX7_init) da_126 5 rfl
theorem dX7_init_13 : decode cX7_init 13 = .ok (.aload_n 0, 1) := dec_of (decode cX7_init) da_126 6 rfl
theorem dX7_init_14 : decode cX7_init 14 = .ok (.iconst 0, 1) := dec_of (decode cX7_init) da_126 7 rfl
theorem dX7_init_15 : decode cX7_init 15 = .ok (.putfield 15, 3) := dec_of (decode cX7_init) da_126 8 rfl
theorem dX7_init_18 : decode cX7_init 18 = .ok (.aload_n 0, 1) := dec_of (decode cX7_init) da_126 9 rfl
theorem dX7_init_19 : decode cX7_init 19 = .ok (.iconst 0, 1) := dec_of (decode cX7_init) da_126 10 rfl
theorem dX7_init_20 : decode cX7_init 20 = .ok (.putfield 19, 3) := dec_of (decode cX7_init) da_126 11 rfl
theorem dX7_init_23 : decode cX7_init 23 = .ok (.aload_n 0, 1) := dec_of (decode cX7_init) da_126 12 rfl
theorem dX7_init_24 : decode cX7_init 24 = .ok (.iconst 0, 1) := dec_of (decode cX7_init) da_126 13 rfl
theorem dX7_init_25 : decode cX7_init 25 = .ok (.putfield 22, 3) := dec_of (decode cX7_init) da_126 14 rfl
theorem dX7_init_28 : decode cX7_init 28 = .ok (.return_, 1) := dec_of (decode cX7_init) da_126 15 rfl
abbrev dl_127 : List (Nat × Except DecodeError (Instr × Nat)) := [(0, .ok (.bipush 24, 2)), (2, .ok (.istore_n 2, 1)), (3, .ok (.iload_n 2, 1)), (4, .ok (.ifCond .lt 42, 3)), (7, .ok (.aload_n 0, 1)), (8, .ok (.getfield 15, 3)), (11, .ok (.sipush 700, 3)), (14, .ok (.if_icmp .ge 26, 3)), (17, .ok (.aload_n 0, 1)), (18, .ok (.getfield 9, 3)), (21, .ok (.aload_n 0, 1)), (22, .ok (.getfield 15, 3)), (25, .ok (.iload_n 1, 1)), (26, .ok (.iload_n 2, 1)), (27, .ok (.ishr, 1)), (28, .ok (.i2b, 1)), (29, .ok (.bastore, 1)), (30, .ok (.aload_n 0, 1)), (31, .ok (.dup, 1)), (32, .ok (.getfield 15, 3)), (35, .ok (.iconst 1, 1)), (36, .ok (.iadd, 1)), (37, .ok (.putfield 15, 3)), (40, .ok (.iinc 2 (-8), 3)), (43, .ok (.goto (-40), 3)), (46, .ok (.return_, 1))]
theorem da_127 : dl_127.all (fun q => decide (decode cX7_put q.1 = q.2)) = true := by decide +kernel
theorem dX7_put_0 : decode cX7_put 0 = .ok (.bipush 24, 2) := dec_of (decode cX7_put) da_127 0 rfl
theorem dX7_put_2 : decode cX7_put 2 = .ok (.istore_n 2, 1) := dec_of (decode cX7_put) da_127 1 rfl
theorem dX7_put_3 : decode cX7_put 3 = .ok (.iload_n 2, 1) := dec_of (decode cX7_put) da_127 2 rfl
theorem dX7_put_4 : decode cX7_put 4 = .ok (.ifCond .lt 42, 3) := dec_of (decode cX7_put) da_127 3 rfl
theorem dX7_put_7 : decode cX7_put 7 = .ok (.aload_n 0, 1) := dec_of (decode cX7_put) da_127 4 rfl
theorem dX7_put_8 : decode cX7_put 8 = .ok (.getfield 15, 3) := dec_of (decode cX7_put) da_127 5 rfl
theorem dX7_put_11 : decode cX7_put 11 = .ok (.sipush 700, 3) := dec_of (decode cX7_put) da_127 6 rfl
theorem dX7_put_14 : decode cX7_put 14 = .ok (.if_icmp .ge 26, 3) := dec_of (decode cX7_put) da_127 7 rfl
theorem dX7_put_17 : decode cX7_put 17 = .ok (.aload_n 0, 1) := dec_of (decode cX7_put) da_127 8 rfl
theorem dX7_put_18 : decode cX7_put 18 = .ok (.getfield 9, 3) := dec_of (decode cX7_put) da_127 9 rfl
theorem dX7_put_21 : decode cX7_put 21 = .ok (.aload_n 0, 1) := dec_of (decode cX7_put) da_127 10 rfl
theorem dX7_put_22 : decode cX7_put 22 = .ok (.getfield 15, 3) := dec_of (decode cX7_put) da_127 11 rfl
theorem dX7_put_25 : decode cX7_put 25 = .ok (.iload_n 1, 1) := dec_of (decode cX7_put) da_127 12 rfl
theorem dX7_put_26 : decode cX7_put 26 = .ok (.iload_n 2, 1) := dec_of (decode cX7_put) da_127 13 rfl
theorem dX7_put_27 : decode cX7_put 27 = .ok (.ishr, 1) := dec_of (decode cX7_put) da_127 14 rfl
theorem dX7_put_28 : decode cX7_put 28 = .ok (.i2b, 1) := dec_of (decode cX7_put) da_127 15 rfl
theorem dX7_put_29 : decode cX7_put 29 = .ok (.bastore, 1) := dec_of (decode cX7_put) da_127 16 rfl
theorem dX7_put_30 : decode cX7_put 30 = .ok (.aload_n 0, 1) := dec_of (decode cX7_put) da_127 17 rfl
theorem dX7_put_31 : decode cX7_put 31 = .ok (.dup, 1) := dec_of (decode cX7_put) da_127 18 rfl
theorem dX7_put_32 : decode cX7_put 32 = .ok (.getfield 15, 3) := dec_of (decode cX7_put) da_127 19 rfl
theorem dX7_put_35 : decode cX7_put 35 = .ok (.iconst 1, 1) := dec_of (decode cX7_put) da_127 20 rfl
theorem dX7_put_36 : decode cX7_put 36 = .ok (.iadd, 1) := dec_of (decode cX7_put) da_127 21 rfl
theorem dX7_put_37 : decode cX7_put 37 = .ok (.putfield 15, 3) := dec_of (decode cX7_put) da_127 22 rfl
theorem dX7_put_40 : decode cX7_put 40 = .ok (.iinc 2 (-8), 3) := dec_of (decode cX7_put) da_127 23 rfl
theorem dX7_put_43 : decode cX7_put 43 = .ok (.goto (-40), 3) := dec_of (decode cX7_put) da_127 24 rfl
theorem dX7_put_46 : decode cX7_put 46 = .ok (.return_, 1) := dec_of (decode cX7_put) da_127 25 rfl
abbrev dl_128 : List (Nat × Except DecodeError (Instr × Nat)) := [(0, .ok (.aload_n 0, 1)), (1, .ok (.iload_n 1, 1)), (2, .ok (.sipush 700, 3)), (5, .ok (.invokestatic 25, 3)), (8, .ok (.putfield 19, 3)), (11, .ok (.aload_n 0, 1)), (12, .ok (.iconst 0, 1)), (13, .ok (.putfield 22, 3)), (16, .ok (.aload_n 0, 1)), (17, .ok (.invokevirtual 31, 3)), (20, .ok (.return_, 1))]
theorem da_128 : dl_128.all (fun q => decide (decode cX7_begin q.1 = q.2)) = true := by decide +kernel
theorem dX7_begin_0 : decode cX7_begin 0 = .ok (.aload_n 0, 1) := dec_of (decode cX7_begin) da_128 0 rfl
theorem dX7_begin_1 : decode cX7_begin 1 = .ok (.iload_n 1, 1) := dec_of (decode cX7_begin) da_128 1 rfl
theorem dX7_begin_2 : decode cX7_begin 2 = .ok (.sipush 700, 3) := dec_of (decode cX7_begin) da_128 2 rfl
theorem dX7_begin_5 : decode cX7_begin 5 = .ok (.invokestatic 25, 3) := dec_of (decode cX7_begin) da_128 3 rfl
theorem dX7_begin_8 : decode cX7_begin 8 = .ok (.putfield 19, 3) := dec_of (decode cX7_begin) da_128 4 rfl
theorem dX7_begin_11 : decode cX7_begin 11 = .ok (.aload_n 0, 1) := dec_of (decode cX7_begin) da_128 5 rfl
theorem dX7_begin_12 : decode cX7_begin 12 = .ok (.iconst 0, 1) := dec_of (decode cX7_begin) da_128 6 rfl
theorem dX7_begin_13 : decode cX7_begin 13 = .ok (.putfield 22, 3) := dec_of (decode cX7_begin) da_128 7 rfl
theorem dX7_begin_16 : decode cX7_begin 16 = .ok (.aload_n 0, 1) := dec_of (decode cX7_begin) da_128 8 rfl
theorem dX7_begin_17 : decode cX7_begin 17 = .ok (.invokevirtual 31, 3) := dec_of (decode cX7_begin) da_128 9 rfl
theorem dX7_begin_20 : decode cX7_begin 20 = .ok (.return_, 1) := dec_of (decode cX7_begin) da_128 10 rfl
abbrev dl_129 : List (Nat × Except DecodeError (Instr × Nat)) := [(0, .ok (.aload_n 0, 1)), (1, .ok (.getfield 22, 3)), (4, .ok (.aload_n 0, 1)), (5, .ok (.getfield 19, 3)), (8, .ok (.if_icmp .ge 34, 3)), (11, .ok (.aload_n 0, 1)), (12, .ok (.invokevirtual 34, 3)), (15, .ok (.bipush 32, 2)), (17, .ok (.if_icmp .eq 12, 3)), (20, .ok (.aload_n 0, 1)), (21, .ok (.invokevirtual 34, 3)), (24, .ok (.bipush 10, 2)), (26, .ok (.if_icmp .ne 16, 3)), (29, .ok (.aload_n 0, 1)), (30, .ok (.dup, 1)), (31, .ok (.getfield 22, 3)), (34, .ok (.iconst 1, 1)), (35, .ok (.iadd, 1)), (36, .ok (.putfield 22, 3)), (39, .ok (.goto (-39), 3)), (42, .ok (.aload_n 0, 1)), (43, .ok (.aload_n 0, 1)), (44, .ok (.getfield 22, 3)), (47, .ok (.putfield 38, 3)), (50, .ok (.aload_n 0, 1)), (51, .ok (.iconst 0, 1)), (52, .ok (.putfield 41, 3)), (55, .ok (.aload_n 0, 1)), (56, .ok (.invokevirtual 34, 3)), (59, .ok (.istore_n 1, 1)), (60, .ok (.iload_n 1, 1)), (61, .ok (.iconst (-1), 1)), (62, .ok (.if_icmp .ne 12, 3)), (65, .ok (.aload_n 0, 1)), (66, .ok (.bipush 27, 2)), (68, .ok (.putfield 44, 3)), (71, .ok (.goto 50, 3)), (74, .ok (.iload_n 1, 1)), (75, .ok (.invokestatic 47, 3)), (78, .ok (.ifCond .eq 10, 3))]
theorem da_129 : dl_129.all (fun q => decide (decode cX7_advance q.1 = q.2)) = true := by decide +kernel
theorem dX7_advance_0 : decode cX7_advance 0 = .ok (.aload_n 0, 1) := dec_of (decode cX7_advance) da_129 0 rfl
theorem dX7_advance_1 : decode cX7_advance 1 = .ok (.getfield 22, 3) := dec_of (decode cX7_advance) da_129 1 rfl
theorem dX7_advance_4 : decode cX7_advance 4 = .ok (.aload_n 0, 1) := dec_of (decode cX7_advance) da_129 2 rfl
theorem dX7_advance_5 : decode cX7_advance 5 = .ok (.getfield 19, 3) := dec_of (decode cX7_advance) da_129 3 rfl
theorem dX7_advance_8 : decode cX7_advance 8 = .ok (.if_icmp .ge 34, 3) := dec_of (decode cX7_advance) da_129 4 rfl
theorem dX7_advance_11 : decode cX7_advance 11 = .ok (.aload_n 0, 1) := dec_of (decode cX7_advance) da_129 5 rfl
theorem dX7_advance_12 : decode cX7_advance 12 = .ok (.invokevirtual 34, 3) := dec_of (decode cX7_advance) da_129 6 rfl
theorem dX7_advance_15 : decode cX7_advance 15 = .ok (.bipush 32, 2) := dec_of (decode cX7_advance) da_129 7 rfl
theorem dX7_advance_17 : decode cX7_advance 17 = .ok (.if_icmp .eq 12, 3) := dec_of (decode cX7_advance) da_129 8 rfl
theorem dX7_advance_20 : decode cX7_advance 20 = .ok (.aload_n 0, 1) := dec_of (decode cX7_advance) da_129 9 rfl
theorem dX7_advance_21 : decode cX7_advance 21 = .ok (.invokevirtual 34, 3) := dec_of (decode cX7_advance) da_129 10 rfl
theorem dX7_advance_24 : decode cX7_advance 24 = .ok (.bipush 10, 2) := dec_of (decode cX7_advance) da_129 11 rfl
theorem dX7_advance_26 : decode cX7_advance 26 = .ok (.if_icmp .ne 16, 3) := dec_of (decode cX7_advance) da_129 12 rfl
theorem dX7_advance_29 : decode cX7_advance 29 = .ok (.aload_n 0, 1) := dec_of (decode cX7_advance) da_129 13 rfl
theorem dX7_advance_30 : decode cX7_advance 30 = .ok (.dup, 1) := dec_of (decode cX7_advance) da_129 14 rfl
theorem dX7_advance_31 : decode cX7_advance 31 = .ok (.getfield 22, 3) := dec_of (decode cX7_advance) da_129 15 rfl
theorem dX7_advance_34 : decode cX7_advance 34 = .ok (.iconst 1, 1) := dec_of (decode cX7_advance) da_129 16 rfl
theorem dX7_advance_35 : decode cX7_advance 35 = .ok (.iadd, 1) := dec_of (decode cX7_advance) da_129 17 rfl
theorem dX7_advance_36 : decode cX7_advance 36 = .ok (.putfield 22, 3) := dec_of (decode cX7_advance) da_129 18 rfl
theorem dX7_advance_39 : decode cX7_advance 39 = .ok (.goto (-39), 3) := dec_of (decode cX7_advance) da_129 19 rfl
theorem dX7_advance_42 : decode cX7_advance 42 = .ok (.aload_n 0, 1) := dec_of (decode cX7_advance) da_129 20 rfl
theorem dX7_advance_43 : decode cX7_advance 43 = .ok (.aload_n 0, 1) := dec_of (decode cX7_advance) da_129 21 rfl
theorem dX7_advance_44 : decode cX7_advance 44 = .ok (.getfield 22, 3) := dec_of (decode cX7_advance) da_129 22 rfl
theorem dX7_advance_47 : decode cX7_advance 47 = .ok (.putfield 38, 3) := dec_of (decode cX7_advance) da_129 23 rfl
theorem dX7_advance_50 : decode cX7_advance 50 = .ok (.aload_n 0, 1) := dec_of (decode cX7_advance) da_129 24 rfl
theorem dX7_advance_51 : decode cX7_advance 51 = .ok (.iconst 0, 1) := dec_of (decode cX7_advance) da_129 25 rfl
theorem dX7_advance_52 : decode cX7_advance 52 = .ok (.putfield 41, 3) := dec_of (decode cX7_advance) da_129 26 rfl
theorem dX7_advance_55 : decode cX7_advance 55 = .ok (.aload_n 0, 1) := dec_of (decode cX7_advance) da_129 27 rfl
theorem dX7_advance_56 : decode cX7_advance 56 = .ok (.invokevirtual 34, 3) := dec_of (decode cX7_advance) da_129 28 rfl
theorem dX7_advance_59 : decode cX7_advance 59 = .ok (.istore_n 1, 1) := dec_of (decode cX7_advance) da_129 29 rfl
theorem dX7_advance_60 : decode cX7_advance 60 = .ok (.iload_n 1, 1) := dec_of (decode cX7_advance) da_129 30 rfl
theorem dX7_advance_61 : decode cX7_advance 61 = .ok (.iconst (-1), 1) := dec_of (decode cX7_advance) da_129 31 rfl
theorem dX7_advance_62 : decode cX7_advance 62 = .ok (.if_icmp .ne 12, 3) := dec_of (decode cX7_advance) da_129 32 rfl
theorem dX7_advance_65 : decode cX7_advance 65 = .ok (.aload_n 0, 1) := dec_of (decode cX7_advance) da_129 33 rfl
theorem dX7_advance_66 : decode cX7_advance 66 = .ok (.bipush 27, 2) := dec_of (decode cX7_advance) da_129 34 rfl
theorem dX7_advance_68 : decode cX7_advance 68 = .ok (.putfield 44, 3) := dec_of (decode cX7_advance) da_129 35 rfl
theorem dX7_advance_71 : decode cX7_advance 71 = .ok (.goto 50, 3) := dec_of (decode cX7_advance) da_129 36 rfl
theorem dX7_advance_74 : decode cX7_advance 74 = .ok (.iload_n 1, 1) := dec_of (decode cX7_advance) da_129 37 rfl
theorem dX7_advance_75 : decode cX7_advance 75 = .ok (.invokestatic 47, 3) := dec_of (decode cX7_advance) da_129 38 rfl
theorem dX7_advance_78 : decode cX7_advance 78 = .ok (.ifCond .eq 10, 3) := dec_of (decode cX7_advance) da_129 39 rfl
abbrev dl_130 : List (Nat × Except DecodeError (Instr × Nat)) := [(81, .ok (.aload_n 0, 1)), (82, .ok (.invokevirtual 51, 3)), (85, .ok (.goto 36, 3)), (88, .ok (.iload_n 1, 1)), (89, .ok (.invokestatic 54, 3)), (92, .ok (.ifCond .eq 10, 3)), (95, .ok (.aload_n 0, 1)), (96, .ok (.invokevirtual 57, 3)), (99, .ok (.goto 22, 3)), (102, .ok (.aload_n 0, 1)), (103, .ok (.dup, 1)), (104, .ok (.getfield 22, 3)), (107, .ok (.iconst 1, 1)), (108, .ok (.iadd, 1)), (109, .ok (.putfield 22, 3)), (112, .ok (.aload_n 0, 1)), (113, .ok (.aload_n 0, 1)), (114, .ok (.iload_n 1, 1)), (115, .ok (.invokevirtual 60, 3)), (118, .ok (.putfield 44, 3)), (121, .ok (.return_, 1))]
theorem da_130 : dl_130.all (fun q => decide (decode cX7_advance q.1 = q.2)) = true := by decide +kernel
theorem dX7_advance_81 : decode cX7_advance 81 = .ok (.aload_n 0, 1) := dec_of (decode cX7_advance) da_130 0 rfl
theorem dX7_advance_82 : decode cX7_advance 82 = .ok (.invokevirtual 51, 3) := dec_of (decode cX7_advance) da_130 1 rfl
theorem dX7_advance_85 : decode cX7_advance 85 = .ok (.goto 36, 3) := dec_of (decode cX7_advance) da_130 2 rfl
theorem dX7_advance_88 : decode cX7_advance 88 = .ok (.iload_n 1, 1) := dec_of (decode cX7_advance) da_130 3 rfl
theorem dX7_advance_89 : decode cX7_advance 89 = .ok (.invokestatic 54, 3) := dec_of (decode cX7_advance) da_130 4 rfl
theorem dX7_advance_92 : decode cX7_advance 92 = .ok (.ifCond .eq 10, 3) := dec_of (decode cX7_advance) da_130 5 rfl
theorem dX7_advance_95 : decode cX7_advance 95 = .ok (.aload_n 0, 1) := dec_of (decode cX7_advance) da_130 6 rfl
theorem dX7_advance_96 : decode cX7_advance 96 = .ok (.invokevirtual 57, 3) := dec_of (decode cX7_advance) da_130 7 rfl
theorem dX7_advance_99 : decode cX7_advance 99 = .ok (.goto 22, 3) := dec_of (decode cX7_advance) da_130 8 rfl
theorem dX7_advance_102 : decode cX7_advance 102 = .ok (.aload_n 0, 1) := dec_of (decode cX7_advance) da_130 9 rfl
theorem dX7_advance_103 : decode cX7_advance 103 = .ok (.dup, 1) := dec_of (decode cX7_advance) da_130 10 rfl
theorem dX7_advance_104 : decode cX7_advance 104 = .ok (.getfield 22, 3) := dec_of (decode cX7_advance) da_130 11 rfl
theorem dX7_advance_107 : decode cX7_advance 107 = .ok (.iconst 1, 1) := dec_of (decode cX7_advance) da_130 12 rfl
theorem dX7_advance_108 : decode cX7_advance 108 = .ok (.iadd, 1) := dec_of (decode cX7_advance) da_130 13 rfl
theorem dX7_advance_109 : decode cX7_advance 109 = .ok (.putfield 22, 3) := dec_of (decode cX7_advance) da_130 14 rfl
theorem dX7_advance_112 : decode cX7_advance 112 = .ok (.aload_n 0, 1) := dec_of (decode cX7_advance) da_130 15 rfl
theorem dX7_advance_113 : decode cX7_advance 113 = .ok (.aload_n 0, 1) := dec_of (decode cX7_advance) da_130 16 rfl
theorem dX7_advance_114 : decode cX7_advance 114 = .ok (.iload_n 1, 1) := dec_of (decode cX7_advance) da_130 17 rfl
theorem dX7_advance_115 : decode cX7_advance 115 = .ok (.invokevirtual 60, 3) := dec_of (decode cX7_advance) da_130 18 rfl
theorem dX7_advance_118 : decode cX7_advance 118 = .ok (.putfield 44, 3) := dec_of (decode cX7_advance) da_130 19 rfl
theorem dX7_advance_121 : decode cX7_advance 121 = .ok (.return_, 1) := dec_of (decode cX7_advance) da_130 20 rfl
abbrev dl_131 : List (Nat × Except DecodeError (Instr × Nat)) := [(0, .ok (.aload_n 0, 1)), (1, .ok (.getfield 22, 3)), (4, .ok (.aload_n 0, 1)), (5, .ok (.getfield 19, 3)), (8, .ok (.if_icmp .ge 19, 3)), (11, .ok (.aload_n 0, 1)), (12, .ok (.getfield 9, 3)), (15, .ok (.aload_n 0, 1)), (16, .ok (.getfield 22, 3)), (19, .ok (.baload, 1)), (20, .ok (.sipush 255, 3)), (23, .ok (.iand, 1)), (24, .ok (.goto 4, 3)), (27, .ok (.iconst (-1), 1)), (28, .ok (.ireturn, 1))]
theorem da_131 : dl_131.all (fun q => decide (decode cX7_peek q.1 = q.2)) = true := by decide +kernel
theorem dX7_peek_0 : decode cX7_peek 0 = .ok (.aload_n 0, 1) := dec_of (decode cX7_peek) da_131 0 rfl
theorem dX7_peek_1 : decode cX7_peek 1 = .ok (.getfield 22, 3) := dec_of (decode cX7_peek) da_131 1 rfl
theorem dX7_peek_4 : decode cX7_peek 4 = .ok (.aload_n 0, 1) := dec_of (decode cX7_peek) da_131 2 rfl
theorem dX7_peek_5 : decode cX7_peek 5 = .ok (.getfield 19, 3) := dec_of (decode cX7_peek) da_131 3 rfl
theorem dX7_peek_8 : decode cX7_peek 8 = .ok (.if_icmp .ge 19, 3) := dec_of (decode cX7_peek) da_131 4 rfl
theorem dX7_peek_11 : decode cX7_peek 11 = .ok (.aload_n 0, 1) := dec_of (decode cX7_peek) da_131 5 rfl
theorem dX7_peek_12 : decode cX7_peek 12 = .ok (.getfield 9, 3) := dec_of (decode cX7_peek) da_131 6 rfl
theorem dX7_peek_15 : decode cX7_peek 15 = .ok (.aload_n 0, 1) := dec_of (decode cX7_peek) da_131 7 rfl
theorem dX7_peek_16 : decode cX7_peek 16 = .ok (.getfield 22, 3) := dec_of (decode cX7_peek) da_131 8 rfl
theorem dX7_peek_19 : decode cX7_peek 19 = .ok (.baload, 1) := dec_of (decode cX7_peek) da_131 9 rfl
theorem dX7_peek_20 : decode cX7_peek 20 = .ok (.sipush 255, 3) := dec_of (decode cX7_peek) da_131 10 rfl
theorem dX7_peek_23 : decode cX7_peek 23 = .ok (.iand, 1) := dec_of (decode cX7_peek) da_131 11 rfl
theorem dX7_peek_24 : decode cX7_peek 24 = .ok (.goto 4, 3) := dec_of (decode cX7_peek) da_131 12 rfl
theorem dX7_peek_27 : decode cX7_peek 27 = .ok (.iconst (-1), 1) := dec_of (decode cX7_peek) da_131 13 rfl
theorem dX7_peek_28 : decode cX7_peek 28 = .ok (.ireturn, 1) := dec_of (decode cX7_peek) da_131 14 rfl
abbrev dl_132 : List (Nat × Except DecodeError (Instr × Nat)) := [(0, .ok (.iload_n 0, 1)), (1, .ok (.bipush 97, 2)), (3, .ok (.if_icmp .lt 13, 3)), (6, .ok (.iload_n 0, 1)), (7, .ok (.bipush 122, 2)), (9, .ok (.if_icmp .gt 7, 3)), (12, .ok (.iconst 1, 1)), (13, .ok (.goto 4, 3)), (16, .ok (.iconst 0, 1)), (17, .ok (.ireturn, 1))]
theorem da_132 : dl_132.all (fun q => decide (decode cX7_isLetter q.1 = q.2)) = true := by decide +kernel
theorem dX7_isLetter_0 : decode cX7_isLetter 0 = .ok (.iload_n 0, 1) := dec_of (decode cX7_isLetter) da_132 0 rfl
theorem dX7_isLetter_1 : decode cX7_isLetter 1 = .ok (.bipush 97, 2) := dec_of (decode cX7_isLetter) da_132 1 rfl
theorem dX7_isLetter_3 : decode cX7_isLetter 3 = .ok (.if_icmp .lt 13, 3) := dec_of (decode cX7_isLetter) da_132 2 rfl
theorem dX7_isLetter_6 : decode cX7_isLetter 6 = .ok (.iload_n 0, 1) := dec_of (decode cX7_isLetter) da_132 3 rfl
theorem dX7_isLetter_7 : decode cX7_isLetter 7 = .ok (.bipush 122, 2) := dec_of (decode cX7_isLetter) da_132 4 rfl
theorem dX7_isLetter_9 : decode cX7_isLetter 9 = .ok (.if_icmp .gt 7, 3) := dec_of (decode cX7_isLetter) da_132 5 rfl
theorem dX7_isLetter_12 : decode cX7_isLetter 12 = .ok (.iconst 1, 1) := dec_of (decode cX7_isLetter) da_132 6 rfl
theorem dX7_isLetter_13 : decode cX7_isLetter 13 = .ok (.goto 4, 3) := dec_of (decode cX7_isLetter) da_132 7 rfl
theorem dX7_isLetter_16 : decode cX7_isLetter 16 = .ok (.iconst 0, 1) := dec_of (decode cX7_isLetter) da_132 8 rfl
theorem dX7_isLetter_17 : decode cX7_isLetter 17 = .ok (.ireturn, 1) := dec_of (decode cX7_isLetter) da_132 9 rfl
abbrev dl_133 : List (Nat × Except DecodeError (Instr × Nat)) := [(0, .ok (.iload_n 0, 1)), (1, .ok (.bipush 48, 2)), (3, .ok (.if_icmp .lt 13, 3)), (6, .ok (.iload_n 0, 1)), (7, .ok (.bipush 57, 2)), (9, .ok (.if_icmp .gt 7, 3)), (12, .ok (.iconst 1, 1)), (13, .ok (.goto 4, 3)), (16, .ok (.iconst 0, 1)), (17, .ok (.ireturn, 1))]
theorem da_133 : dl_133.all (fun q => decide (decode cX7_isDigit q.1 = q.2)) = true := by decide +kernel
theorem dX7_isDigit_0 : decode cX7_isDigit 0 = .ok (.iload_n 0, 1) := dec_of (decode cX7_isDigit) da_133 0 rfl
theorem dX7_isDigit_1 : decode cX7_isDigit 1 = .ok (.bipush 48, 2) := dec_of (decode cX7_isDigit) da_133 1 rfl
theorem dX7_isDigit_3 : decode cX7_isDigit 3 = .ok (.if_icmp .lt 13, 3) := dec_of (decode cX7_isDigit) da_133 2 rfl
theorem dX7_isDigit_6 : decode cX7_isDigit 6 = .ok (.iload_n 0, 1) := dec_of (decode cX7_isDigit) da_133 3 rfl
theorem dX7_isDigit_7 : decode cX7_isDigit 7 = .ok (.bipush 57, 2) := dec_of (decode cX7_isDigit) da_133 4 rfl
theorem dX7_isDigit_9 : decode cX7_isDigit 9 = .ok (.if_icmp .gt 7, 3) := dec_of (decode cX7_isDigit) da_133 5 rfl
theorem dX7_isDigit_12 : decode cX7_isDigit 12 = .ok (.iconst 1, 1) := dec_of (decode cX7_isDigit) da_133 6 rfl
theorem dX7_isDigit_13 : decode cX7_isDigit 13 = .ok (.goto 4, 3) := dec_of (decode cX7_isDigit) da_133 7 rfl
theorem dX7_isDigit_16 : decode cX7_isDigit 16 = .ok (.iconst 0, 1) := dec_of (decode cX7_isDigit) da_133 8 rfl
theorem dX7_isDigit_17 : decode cX7_isDigit 17 = .ok (.ireturn, 1) := dec_of (decode cX7_isDigit) da_133 9 rfl
abbrev dl_134 : List (Nat × Except DecodeError (Instr × Nat)) := [(0, .ok (.aload_n 0, 1)), (1, .ok (.bipush 26, 2)), (3, .ok (.putfield 44, 3)), (6, .ok (.aload_n 0, 1)), (7, .ok (.getfield 22, 3)), (10, .ok (.aload_n 0, 1)), (11, .ok (.getfield 19, 3)), (14, .ok (.if_icmp .ge 50, 3)), (17, .ok (.aload_n 0, 1)), (18, .ok (.invokevirtual 34, 3)), (21, .ok (.invokestatic 54, 3)), (24, .ok (.ifCond .eq 40, 3)), (27, .ok (.aload_n 0, 1)), (28, .ok (.aload_n 0, 1)), (29, .ok (.getfield 41, 3)), (32, .ok (.bipush 10, 2)), (34, .ok (.imul, 1)), (35, .ok (.aload_n 0, 1)), (36, .ok (.invokevirtual 34, 3)), (39, .ok (.iadd, 1)), (40, .ok (.bipush 48, 2)), (42, .ok (.isub, 1)), (43, .ok (.ldc 64, 2)), (45, .ok (.invokestatic 25, 3)), (48, .ok (.putfield 41, 3)), (51, .ok (.aload_n 0, 1)), (52, .ok (.dup, 1)), (53, .ok (.getfield 22, 3)), (56, .ok (.iconst 1, 1)), (57, .ok (.iadd, 1)), (58, .ok (.putfield 22, 3)), (61, .ok (.goto (-55), 3)), (64, .ok (.return_, 1))]
theorem da_134 : dl_134.all (fun q => decide (decode cX7_readNumber q.1 = q.2)) = true := by decide +kernel
theorem dX7_readNumber_0 : decode cX7_readNumber 0 = .ok (.aload_n 0, 1) := dec_of (decode cX7_readNumber) da_134 0 rfl
theorem dX7_readNumber_1 : decode cX7_readNumber 1 = .ok (.bipush 26, 2) := dec_of (decode cX7_readNumber) da_134 1 rfl
theorem dX7_readNumber_3 : decode cX7_readNumber 3 = .ok (.putfield 44, 3) := dec_of (decode cX7_readNumber) da_134 2 rfl
theorem dX7_readNumber_6 : decode cX7_readNumber 6 = .ok (.aload_n 0, 1) := dec_of (decode cX7_readNumber) da_134 3 rfl
theorem dX7_readNumber_7 : decode cX7_readNumber 7 = .ok (.getfield 22, 3) := dec_of (decode cX7_readNumber) da_134 4 rfl
theorem dX7_readNumber_10 : decode cX7_readNumber 10 = .ok (.aload_n 0, 1) := dec_of (decode cX7_readNumber) da_134 5 rfl
theorem dX7_readNumber_11 : decode cX7_readNumber 11 = .ok (.getfield 19, 3) := dec_of (decode cX7_readNumber) da_134 6 rfl
theorem dX7_readNumber_14 : decode cX7_readNumber 14 = .ok (.if_icmp .ge 50, 3) := dec_of (decode cX7_readNumber) da_134 7 rfl
theorem dX7_readNumber_17 : decode cX7_readNumber 17 = .ok (.aload_n 0, 1) := dec_of (decode cX7_readNumber) da_134 8 rfl
theorem dX7_readNumber_18 : decode cX7_readNumber 18 = .ok (.invokevirtual 34, 3) := dec_of (decode cX7_readNumber) da_134 9 rfl
theorem dX7_readNumber_21 : decode cX7_readNumber 21 = .ok (.invokestatic 54, 3) := dec_of (decode cX7_readNumber) da_134 10 rfl
theorem dX7_readNumber_24 : decode cX7_readNumber 24 = .ok (.ifCond .eq 40, 3) := dec_of (decode cX7_readNumber) da_134 11 rfl
theorem dX7_readNumber_27 : decode cX7_readNumber 27 = .ok (.aload_n 0, 1) := dec_of (decode cX7_readNumber) da_134 12 rfl
theorem dX7_readNumber_28 : decode cX7_readNumber 28 = .ok (.aload_n 0, 1) := dec_of (decode cX7_readNumber) da_134 13 rfl
theorem dX7_readNumber_29 : decode cX7_readNumber 29 = .ok (.getfield 41, 3) := dec_of (decode cX7_readNumber) da_134 14 rfl
theorem dX7_readNumber_32 : decode cX7_readNumber 32 = .ok (.bipush 10, 2) := dec_of (decode cX7_readNumber) da_134 15 rfl
theorem dX7_readNumber_34 : decode cX7_readNumber 34 = .ok (.imul, 1) := dec_of (decode cX7_readNumber) da_134 16 rfl
theorem dX7_readNumber_35 : decode cX7_readNumber 35 = .ok (.aload_n 0, 1) := dec_of (decode cX7_readNumber) da_134 17 rfl
theorem dX7_readNumber_36 : decode cX7_readNumber 36 = .ok (.invokevirtual 34, 3) := dec_of (decode cX7_readNumber) da_134 18 rfl
theorem dX7_readNumber_39 : decode cX7_readNumber 39 = .ok (.iadd, 1) := dec_of (decode cX7_readNumber) da_134 19 rfl
theorem dX7_readNumber_40 : decode cX7_readNumber 40 = .ok (.bipush 48, 2) := dec_of (decode cX7_readNumber) da_134 20 rfl
theorem dX7_readNumber_42 : decode cX7_readNumber 42 = .ok (.isub, 1) := dec_of (decode cX7_readNumber) da_134 21 rfl
theorem dX7_readNumber_43 : decode cX7_readNumber 43 = .ok (.ldc 64, 2) := dec_of (decode cX7_readNumber) da_134 22 rfl
theorem dX7_readNumber_45 : decode cX7_readNumber 45 = .ok (.invokestatic 25, 3) := dec_of (decode cX7_readNumber) da_134 23 rfl
theorem dX7_readNumber_48 : decode cX7_readNumber 48 = .ok (.putfield 41, 3) := dec_of (decode cX7_readNumber) da_134 24 rfl
theorem dX7_readNumber_51 : decode cX7_readNumber 51 = .ok (.aload_n 0, 1) := dec_of (decode cX7_readNumber) da_134 25 rfl
theorem dX7_readNumber_52 : decode cX7_readNumber 52 = .ok (.dup, 1) := dec_of (decode cX7_readNumber) da_134 26 rfl
theorem dX7_readNumber_53 : decode cX7_readNumber 53 = .ok (.getfield 22, 3) := dec_of (decode cX7_readNumber) da_134 27 rfl
theorem dX7_readNumber_56 : decode cX7_readNumber 56 = .ok (.iconst 1, 1) := dec_of (decode cX7_readNumber) da_134 28 rfl
theorem dX7_readNumber_57 : decode cX7_readNumber 57 = .ok (.iadd, 1) := dec_of (decode cX7_readNumber) da_134 29 rfl
theorem dX7_readNumber_58 : decode cX7_readNumber 58 = .ok (.putfield 22, 3) := dec_of (decode cX7_readNumber) da_134 30 rfl
theorem dX7_readNumber_61 : decode cX7_readNumber 61 = .ok (.goto (-55), 3) := dec_of (decode cX7_readNumber) da_134 31 rfl
theorem dX7_readNumber_64 : decode cX7_readNumber 64 = .ok (.return_, 1) := dec_of (decode cX7_readNumber) da_134 32 rfl
abbrev dl_135 : List (Nat × Except DecodeError (Instr × Nat)) := [(0, .ok (.iconst 0, 1)), (1, .ok (.istore_n 1, 1)), (2, .ok (.aload_n 0, 1)), (3, .ok (.getfield 22, 3)), (6, .ok (.aload_n 0, 1)), (7, .ok (.getfield 19, 3)), (10, .ok (.if_icmp .ge 59, 3)), (13, .ok (.aload_n 0, 1)), (14, .ok (.invokevirtual 34, 3)), (17, .ok (.invokestatic 47, 3)), (20, .ok (.ifCond .eq 49, 3)), (23, .ok (.iload_n 1, 1)), (24, .ok (.bipush 6, 2)), (26, .ok (.if_icmp .ge 27, 3)), (29, .ok (.aload_n 0, 1)), (30, .ok (.dup, 1)), (31, .ok (.getfield 41, 3)), (34, .ok (.aload_n 0, 1)), (35, .ok (.invokevirtual 34, 3)), (38, .ok (.bipush 97, 2)), (40, .ok (.isub, 1)), (41, .ok (.iconst 1, 1)), (42, .ok (.iadd, 1)), (43, .ok (.iconst 5, 1)), (44, .ok (.iconst 5, 1)), (45, .ok (.iload_n 1, 1)), (46, .ok (.isub, 1)), (47, .ok (.imul, 1)), (48, .ok (.ishl, 1)), (49, .ok (.ior, 1)), (50, .ok (.putfield 41, 3)), (53, .ok (.iinc 1 1, 3)), (56, .ok (.aload_n 0, 1)), (57, .ok (.dup, 1)), (58, .ok (.getfield 22, 3)), (61, .ok (.iconst 1, 1)), (62, .ok (.iadd, 1)), (63, .ok (.putfield 22, 3)), (66, .ok (.goto (-64), 3)), (69, .ok (.aload_n 0, 1))]
theorem da_135 : dl_135.all (fun q => decide (decode cX7_readWord q.1 = q.2)) = true := by decide +kernel
theorem dX7_readWord_0 : decode cX7_readWord 0 = .ok (.iconst 0, 1) := dec_of (decode cX7_readWord) da_135 0 rfl
theorem dX7_readWord_1 : decode cX7_readWord 1 = .ok (.istore_n 1, 1) := dec_of (decode cX7_readWord) da_135 1 rfl
theorem dX7_readWord_2 : decode cX7_readWord 2 = .ok (.aload_n 0, 1) := dec_of (decode cX7_readWord) da_135 2 rfl
theorem dX7_readWord_3 : decode cX7_readWord 3 = .ok (.getfield 22, 3) := dec_of (decode cX7_readWord) da_135 3 rfl
theorem dX7_readWord_6 : decode cX7_readWord 6 = .ok (.aload_n 0, 1) := dec_of (decode cX7_readWord) da_135 4 rfl
theorem dX7_readWord_7 : decode cX7_readWord 7 = .ok (.getfield 19, 3) := dec_of (decode cX7_readWord) da_135 5 rfl
theorem dX7_readWord_10 : decode cX7_readWord 10 = .ok (.if_icmp .ge 59, 3) := dec_of (decode cX7_readWord) da_135 6 rfl
theorem dX7_readWord_13 : decode cX7_readWord 13 = .ok (.aload_n 0, 1) := dec_of (decode cX7_readWord) da_135 7 rfl
theorem dX7_readWord_14 : decode cX7_readWord 14 = .ok (.invokevirtual 34, 3) := dec_of (decode cX7_readWord) da_135 8 rfl
theorem dX7_readWord_17 : decode cX7_readWord 17 = .ok (.invokestatic 47, 3) := dec_of (decode cX7_readWord) da_135 9 rfl
theorem dX7_readWord_20 : decode cX7_readWord 20 = .ok (.ifCond .eq 49, 3) := dec_of (decode cX7_readWord) da_135 10 rfl
theorem dX7_readWord_23 : decode cX7_readWord 23 = .ok (.iload_n 1, 1) := dec_of (decode cX7_readWord) da_135 11 rfl
theorem dX7_readWord_24 : decode cX7_readWord 24 = .ok (.bipush 6, 2) := dec_of (decode cX7_readWord) da_135 12 rfl
theorem dX7_readWord_26 : decode cX7_readWord 26 = .ok (.if_icmp .ge 27, 3) := dec_of (decode cX7_readWord) da_135 13 rfl
theorem dX7_readWord_29 : decode cX7_readWord 29 = .ok (.aload_n 0, 1) := dec_of (decode cX7_readWord) da_135 14 rfl
theorem dX7_readWord_30 : decode cX7_readWord 30 = .ok (.dup, 1) := dec_of (decode cX7_readWord) da_135 15 rfl
theorem dX7_readWord_31 : decode cX7_readWord 31 = .ok (.getfield 41, 3) := dec_of (decode cX7_readWord) da_135 16 rfl
theorem dX7_readWord_34 : decode cX7_readWord 34 = .ok (.aload_n 0, 1) := dec_of (decode cX7_readWord) da_135 17 rfl
theorem dX7_readWord_35 : decode cX7_readWord 35 = .ok (.invokevirtual 34, 3) := dec_of (decode cX7_readWord) da_135 18 rfl
theorem dX7_readWord_38 : decode cX7_readWord 38 = .ok (.bipush 97, 2) := dec_of (decode cX7_readWord) da_135 19 rfl
theorem dX7_readWord_40 : decode cX7_readWord 40 = .ok (.isub, 1) := dec_of (decode cX7_readWord) da_135 20 rfl
theorem dX7_readWord_41 : decode cX7_readWord 41 = .ok (.iconst 1, 1) := dec_of (decode cX7_readWord) da_135 21 rfl
theorem dX7_readWord_42 : decode cX7_readWord 42 = .ok (.iadd, 1) := dec_of (decode cX7_readWord) da_135 22 rfl
theorem dX7_readWord_43 : decode cX7_readWord 43 = .ok (.iconst 5, 1) := dec_of (decode cX7_readWord) da_135 23 rfl
theorem dX7_readWord_44 : decode cX7_readWord 44 = .ok (.iconst 5, 1) := dec_of (decode cX7_readWord) da_135 24 rfl
theorem dX7_readWord_45 : decode cX7_readWord 45 = .ok (.iload_n 1, 1) := dec_of (decode cX7_readWord) da_135 25 rfl
theorem dX7_readWord_46 : decode cX7_readWord 46 = .ok (.isub, 1) := dec_of (decode cX7_readWord) da_135 26 rfl
theorem dX7_readWord_47 : decode cX7_readWord 47 = .ok (.imul, 1) := dec_of (decode cX7_readWord) da_135 27 rfl
theorem dX7_readWord_48 : decode cX7_readWord 48 = .ok (.ishl, 1) := dec_of (decode cX7_readWord) da_135 28 rfl
theorem dX7_readWord_49 : decode cX7_readWord 49 = .ok (.ior, 1) := dec_of (decode cX7_readWord) da_135 29 rfl
theorem dX7_readWord_50 : decode cX7_readWord 50 = .ok (.putfield 41, 3) := dec_of (decode cX7_readWord) da_135 30 rfl
theorem dX7_readWord_53 : decode cX7_readWord 53 = .ok (.iinc 1 1, 3) := dec_of (decode cX7_readWord) da_135 31 rfl
theorem dX7_readWord_56 : decode cX7_readWord 56 = .ok (.aload_n 0, 1) := dec_of (decode cX7_readWord) da_135 32 rfl
theorem dX7_readWord_57 : decode cX7_readWord 57 = .ok (.dup, 1) := dec_of (decode cX7_readWord) da_135 33 rfl
theorem dX7_readWord_58 : decode cX7_readWord 58 = .ok (.getfield 22, 3) := dec_of (decode cX7_readWord) da_135 34 rfl
theorem dX7_readWord_61 : decode cX7_readWord 61 = .ok (.iconst 1, 1) := dec_of (decode cX7_readWord) da_135 35 rfl
theorem dX7_readWord_62 : decode cX7_readWord 62 = .ok (.iadd, 1) := dec_of (decode cX7_readWord) da_135 36 rfl
theorem dX7_readWord_63 : decode cX7_readWord 63 = .ok (.putfield 22, 3) := dec_of (decode cX7_readWord) da_135 37 rfl
theorem dX7_readWord_66 : decode cX7_readWord 66 = .ok (.goto (-64), 3) := dec_of (decode cX7_readWord) da_135 38 rfl
theorem dX7_readWord_69 : decode cX7_readWord 69 = .ok (.aload_n 0, 1) := dec_of (decode cX7_readWord) da_135 39 rfl
abbrev dl_136 : List (Nat × Except DecodeError (Instr × Nat)) := [(70, .ok (.iload_n 1, 1)), (71, .ok (.bipush 6, 2)), (73, .ok (.if_icmp .le 8, 3)), (76, .ok (.bipush 28, 2)), (78, .ok (.goto 7, 3)), (81, .ok (.aload_n 0, 1)), (82, .ok (.invokevirtual 65, 3)), (85, .ok (.putfield 44, 3)), (88, .ok (.return_, 1))]
theorem da_136 : dl_136.all (fun q => decide (decode cX7_readWord q.1 = q.2)) = true := by decide +kernel
theorem dX7_readWord_70 : decode cX7_readWord 70 = .ok (.iload_n 1, 1) := dec_of (decode cX7_readWord) da_136 0 rfl
theorem dX7_readWord_71 : decode cX7_readWord 71 = .ok (.bipush 6, 2) := dec_of (decode cX7_readWord) da_136 1 rfl
theorem dX7_readWord_73 : decode cX7_readWord 73 = .ok (.if_icmp .le 8, 3) := dec_of (decode cX7_readWord) da_136 2 rfl
theorem dX7_readWord_76 : decode cX7_readWord 76 = .ok (.bipush 28, 2) := dec_of (decode cX7_readWord) da_136 3 rfl
theorem dX7_readWord_78 : decode cX7_readWord 78 = .ok (.goto 7, 3) := dec_of (decode cX7_readWord) da_136 4 rfl
theorem dX7_readWord_81 : decode cX7_readWord 81 = .ok (.aload_n 0, 1) := dec_of (decode cX7_readWord) da_136 5 rfl
theorem dX7_readWord_82 : decode cX7_readWord 82 = .ok (.invokevirtual 65, 3) := dec_of (decode cX7_readWord) da_136 6 rfl
theorem dX7_readWord_85 : decode cX7_readWord 85 = .ok (.putfield 44, 3) := dec_of (decode cX7_readWord) da_136 7 rfl
theorem dX7_readWord_88 : decode cX7_readWord 88 = .ok (.return_, 1) := dec_of (decode cX7_readWord) da_136 8 rfl
abbrev dl_137 : List (Nat × Except DecodeError (Instr × Nat)) := [(0, .ok (.iconst 0, 1)), (1, .ok (.istore_n 1, 1)), (2, .ok (.iload_n 1, 1)), (3, .ok (.bipush 25, 2)), (5, .ok (.if_icmp .ge 71, 3)), (8, .ok (.iconst 0, 1)), (9, .ok (.istore_n 2, 1)), (10, .ok (.iconst 0, 1)), (11, .ok (.istore_n 3, 1)), (12, .ok (.iload_n 3, 1)), (13, .ok (.bipush 6, 2)), (15, .ok (.if_icmp .ge 45, 3)), (18, .ok (.ldc 68, 2)), (20, .ok (.iload_n 1, 1)), (21, .ok (.bipush 6, 2)), (23, .ok (.imul, 1)), (24, .ok (.iload_n 3, 1)), (25, .ok (.iadd, 1)), (26, .ok (.invokevirtual 70, 3)), (29, .ok (.istore 4, 2)), (31, .ok (.iload_n 2, 1)), (32, .ok (.iconst 5, 1)), (33, .ok (.ishl, 1)), (34, .ok (.iload 4, 2)), (36, .ok (.bipush 32, 2)), (38, .ok (.if_icmp .ne 7, 3)), (41, .ok (.iconst 0, 1)), (42, .ok (.goto 10, 3)), (45, .ok (.iload 4, 2)), (47, .ok (.bipush 97, 2)), (49, .ok (.isub, 1)), (50, .ok (.iconst 1, 1)), (51, .ok (.iadd, 1)), (52, .ok (.ior, 1)), (53, .ok (.istore_n 2, 1)), (54, .ok (.iinc 3 1, 3)), (57, .ok (.goto (-45), 3)), (60, .ok (.iload_n 2, 1)), (61, .ok (.aload_n 0, 1)), (62, .ok (.getfield 41, 3))]
theorem da_137 : dl_137.all (fun q => decide (decode cX7_wordKind q.1 = q.2)) = true := by decide +kernel
theorem dX7_wordKind_0 : decode cX7_wordKind 0 = .ok (.iconst 0, 1) := dec_of (decode cX7_wordKind) da_137 0 rfl
theorem dX7_wordKind_1 : decode cX7_wordKind 1 = .ok (.istore_n 1, 1) := dec_of (decode cX7_wordKind) da_137 1 rfl
theorem dX7_wordKind_2 : decode cX7_wordKind 2 = .ok (.iload_n 1, 1) := dec_of (decode cX7_wordKind) da_137 2 rfl
theorem dX7_wordKind_3 : decode cX7_wordKind 3 = .ok (.bipush 25, 2) := dec_of (decode cX7_wordKind) da_137 3 rfl
theorem dX7_wordKind_5 : decode cX7_wordKind 5 = .ok (.if_icmp .ge 71, 3) := dec_of (decode cX7_wordKind) da_137 4 rfl
theorem dX7_wordKind_8 : decode cX7_wordKind 8 = .ok (.iconst 0, 1) := dec_of (decode cX7_wordKind) da_137 5 rfl
theorem dX7_wordKind_9 : decode cX7_wordKind 9 = .ok (.istore_n 2, 1) := dec_of (decode cX7_wordKind) da_137 6 rfl
theorem dX7_wordKind_10 : decode cX7_wordKind 10 = .ok (.iconst 0, 1) := dec_of (decode cX7_wordKind) da_137 7 rfl
theorem dX7_wordKind_11 : decode cX7_wordKind 11 = .ok (.istore_n 3, 1) := dec_of (decode cX7_wordKind) da_137 8 rfl
theorem dX7_wordKind_12 : decode cX7_wordKind 12 = .ok (.iload_n 3, 1) := dec_of (decode cX7_wordKind) da_137 9 rfl
theorem dX7_wordKind_13 : decode cX7_wordKind 13 = .ok (.bipush 6, 2) := dec_of (decode cX7_wordKind) da_137 10 rfl
theorem dX7_wordKind_15 : decode cX7_wordKind 15 = .ok (.if_icmp .ge 45, 3) := dec_of (decode cX7_wordKind) da_137 11 rfl
theorem dX7_wordKind_18 : decode cX7_wordKind 18 = .ok (.ldc 68, 2) := dec_of (decode cX7_wordKind) da_137 12 rfl
theorem dX7_wordKind_20 : decode cX7_wordKind 20 = .ok (.iload_n 1, 1) := dec_of (decode cX7_wordKind) da_137 13 rfl
theorem dX7_wordKind_21 : decode cX7_wordKind 21 = .ok (.bipush 6, 2) := dec_of (decode cX7_wordKind) da_137 14 rfl
theorem dX7_wordKind_23 : decode cX7_wordKind 23 = .ok (.imul, 1) := dec_of (decode cX7_wordKind) da_137 15 rfl
theorem dX7_wordKind_24 : decode cX7_wordKind 24 = .ok (.iload_n 3, 1) := dec_of (decode cX7_wordKind) da_137 16 rfl
theorem dX7_wordKind_25 : decode cX7_wordKind 25 = .ok (.iadd, 1) := dec_of (decode cX7_wordKind) da_137 17 rfl
theorem dX7_wordKind_26 : decode cX7_wordKind 26 = .ok (.invokevirtual 70, 3) := dec_of (decode cX7_wordKind) da_137 18 rfl
theorem dX7_wordKind_29 : decode cX7_wordKind 29 = .ok (.istore 4, 2) := dec_of (decode cX7_wordKind) da_137 19 rfl
theorem dX7_wordKind_31 : decode cX7_wordKind 31 = .ok (.iload_n 2, 1) := dec_of (decode cX7_wordKind) da_137 20 rfl
theorem dX7_wordKind_32 : decode cX7_wordKind 32 = .ok (.iconst 5, 1) := dec_of (decode cX7_wordKind) da_137 21 rfl
theorem dX7_wordKind_33 : decode cX7_wordKind 33 = .ok (.ishl, 1) := dec_of (decode cX7_wordKind) da_137 22 rfl
theorem dX7_wordKind_34 : decode cX7_wordKind 34 = .ok (.iload 4, 2) := dec_of (decode cX7_wordKind) da_137 23 rfl
theorem dX7_wordKind_36 : decode cX7_wordKind 36 = .ok (.bipush 32, 2) := dec_of (decode cX7_wordKind) da_137 24 rfl
theorem dX7_wordKind_38 : decode cX7_wordKind 38 = .ok (.if_icmp .ne 7, 3) := dec_of (decode cX7_wordKind) da_137 25 rfl
theorem dX7_wordKind_41 : decode cX7_wordKind 41 = .ok (.iconst 0, 1) := dec_of (decode cX7_wordKind) da_137 26 rfl
theorem dX7_wordKind_42 : decode cX7_wordKind 42 = .ok (.goto 10, 3) := dec_of (decode cX7_wordKind) da_137 27 rfl
theorem dX7_wordKind_45 : decode cX7_wordKind 45 = .ok (.iload 4, 2) := dec_of (decode cX7_wordKind) da_137 28 rfl
theorem dX7_wordKind_47 : decode cX7_wordKind 47 = .ok (.bipush 97, 2) := dec_of (decode cX7_wordKind) da_137 29 rfl
theorem dX7_wordKind_49 : decode cX7_wordKind 49 = .ok (.isub, 1) := dec_of (decode cX7_wordKind) da_137 30 rfl
theorem dX7_wordKind_50 : decode cX7_wordKind 50 = .ok (.iconst 1, 1) := dec_of (decode cX7_wordKind) da_137 31 rfl
theorem dX7_wordKind_51 : decode cX7_wordKind 51 = .ok (.iadd, 1) := dec_of (decode cX7_wordKind) da_137 32 rfl
theorem dX7_wordKind_52 : decode cX7_wordKind 52 = .ok (.ior, 1) := dec_of (decode cX7_wordKind) da_137 33 rfl
theorem dX7_wordKind_53 : decode cX7_wordKind 53 = .ok (.istore_n 2, 1) := dec_of (decode cX7_wordKind) da_137 34 rfl
theorem dX7_wordKind_54 : decode cX7_wordKind 54 = .ok (.iinc 3 1, 3) := dec_of (decode cX7_wordKind) da_137 35 rfl
theorem dX7_wordKind_57 : decode cX7_wordKind 57 = .ok (.goto (-45), 3) := dec_of (decode cX7_wordKind) da_137 36 rfl
theorem dX7_wordKind_60 : decode cX7_wordKind 60 = .ok (.iload_n 2, 1) := dec_of (decode cX7_wordKind) da_137 37 rfl
theorem dX7_wordKind_61 : decode cX7_wordKind 61 = .ok (.aload_n 0, 1) := dec_of (decode cX7_wordKind) da_137 38 rfl
theorem dX7_wordKind_62 : decode cX7_wordKind 62 = .ok (.getfield 41, 3) := dec_of (decode cX7_wordKind) da_137 39 rfl
abbrev dl_138 : List (Nat × Except DecodeError (Instr × Nat)) := [(65, .ok (.if_icmp .ne 5, 3)), (68, .ok (.iload_n 1, 1)), (69, .ok (.ireturn, 1)), (70, .ok (.iinc 1 1, 3)), (73, .ok (.goto (-71), 3)), (76, .ok (.bipush 25, 2)), (78, .ok (.ireturn, 1))]
theorem da_138 : dl_138.all (fun q => decide (decode cX7_wordKind q.1 = q.2)) = true := by decide +kernel
theorem dX7_wordKind_65 : decode cX7_wordKind 65 = .ok (.if_icmp .ne 5, 3) := dec_of (decode cX7_wordKind) da_138 0 rfl
theorem dX7_wordKind_68 : decode cX7_wordKind 68 = .ok (.iload_n 1, 1) := dec_of (decode cX7_wordKind) da_138 1 rfl
theorem dX7_wordKind_69 : decode cX7_wordKind 69 = .ok (.ireturn, 1) := dec_of (decode cX7_wordKind) da_138 2 rfl
theorem dX7_wordKind_70 : decode cX7_wordKind 70 = .ok (.iinc 1 1, 3) := dec_of (decode cX7_wordKind) da_138 3 rfl
theorem dX7_wordKind_73 : decode cX7_wordKind 73 = .ok (.goto (-71), 3) := dec_of (decode cX7_wordKind) da_138 4 rfl
theorem dX7_wordKind_76 : decode cX7_wordKind 76 = .ok (.bipush 25, 2) := dec_of (decode cX7_wordKind) da_138 5 rfl
theorem dX7_wordKind_78 : decode cX7_wordKind 78 = .ok (.ireturn, 1) := dec_of (decode cX7_wordKind) da_138 6 rfl
abbrev dl_139 : List (Nat × Except DecodeError (Instr × Nat)) := [(0, .ok (.iload_n 1, 1)), (1, .ok (.tableswitch 179 40 62 #[110, 113, 122, 116, 179, 119, 179, 125, 179, 179, 179, 179, 179, 179, 179, 179, 179, 179, 179, 107, 131, 128, 162], 107)), (108, .ok (.bipush 29, 2)), (110, .ok (.ireturn, 1)), (111, .ok (.bipush 30, 2)), (113, .ok (.ireturn, 1)), (114, .ok (.bipush 31, 2)), (116, .ok (.ireturn, 1)), (117, .ok (.bipush 38, 2)), (119, .ok (.ireturn, 1)), (120, .ok (.bipush 39, 2)), (122, .ok (.ireturn, 1)), (123, .ok (.bipush 40, 2)), (125, .ok (.ireturn, 1)), (126, .ok (.bipush 41, 2)), (128, .ok (.ireturn, 1)), (129, .ok (.bipush 34, 2)), (131, .ok (.ireturn, 1)), (132, .ok (.aload_n 0, 1)), (133, .ok (.bipush 61, 2)), (135, .ok (.invokevirtual 76, 3)), (138, .ok (.ifCond .eq 8, 3)), (141, .ok (.bipush 33, 2)), (143, .ok (.goto 19, 3)), (146, .ok (.aload_n 0, 1)), (147, .ok (.bipush 62, 2)), (149, .ok (.invokevirtual 76, 3)), (152, .ok (.ifCond .eq 8, 3)), (155, .ok (.bipush 35, 2)), (157, .ok (.goto 5, 3)), (160, .ok (.bipush 32, 2)), (162, .ok (.ireturn, 1)), (163, .ok (.aload_n 0, 1)), (164, .ok (.bipush 61, 2)), (166, .ok (.invokevirtual 76, 3)), (169, .ok (.ifCond .eq 8, 3)), (172, .ok (.bipush 36, 2)), (174, .ok (.goto 5, 3)), (177, .ok (.bipush 37, 2)), (179, .ok (.ireturn, 1))]
theorem da_139 : dl_139.all (fun q => decide (decode cX7_signKind q.1 = q.2)) = true := by decide +kernel
theorem dX7_signKind_0 : decode cX7_signKind 0 = .ok (.iload_n 1, 1) := dec_of (decode cX7_signKind) da_139 0 rfl
theorem dX7_signKind_1 : decode cX7_signKind 1 = .ok (.tableswitch 179 40 62 #[110, 113, 122, 116, 179, 119, 179, 125, 179, 179, 179, 179, 179, 179, 179, 179, 179, 179, 179, 107, 131, 128, 162], 107) := dec_of (decode cX7_signKind) da_139 1 rfl
theorem dX7_signKind_108 : decode cX7_signKind 108 = .ok (.bipush 29, 2) := dec_of (decode cX7_signKind) da_139 2 rfl
theorem dX7_signKind_110 : decode cX7_signKind 110 = .ok (.ireturn, 1) := dec_of (decode cX7_signKind) da_139 3 rfl
theorem dX7_signKind_111 : decode cX7_signKind 111 = .ok (.bipush 30, 2) := dec_of (decode cX7_signKind) da_139 4 rfl
theorem dX7_signKind_113 : decode cX7_signKind 113 = .ok (.ireturn, 1) := dec_of (decode cX7_signKind) da_139 5 rfl
theorem dX7_signKind_114 : decode cX7_signKind 114 = .ok (.bipush 31, 2) := dec_of (decode cX7_signKind) da_139 6 rfl
theorem dX7_signKind_116 : decode cX7_signKind 116 = .ok (.ireturn, 1) := dec_of (decode cX7_signKind) da_139 7 rfl
theorem dX7_signKind_117 : decode cX7_signKind 117 = .ok (.bipush 38, 2) := dec_of (decode cX7_signKind) da_139 8 rfl
theorem dX7_signKind_119 : decode cX7_signKind 119 = .ok (.ireturn, 1) := dec_of (decode cX7_signKind) da_139 9 rfl
theorem dX7_signKind_120 : decode cX7_signKind 120 = .ok (.bipush 39, 2) := dec_of (decode cX7_signKind) da_139 10 rfl
theorem dX7_signKind_122 : decode cX7_signKind 122 = .ok (.ireturn, 1) := dec_of (decode cX7_signKind) da_139 11 rfl
theorem dX7_signKind_123 : decode cX7_signKind 123 = .ok (.bipush 40, 2) := dec_of (decode cX7_signKind) da_139 12 rfl
theorem dX7_signKind_125 : decode cX7_signKind 125 = .ok (.ireturn, 1) := dec_of (decode cX7_signKind) da_139 13 rfl
theorem dX7_signKind_126 : decode cX7_signKind 126 = .ok (.bipush 41, 2) := dec_of (decode cX7_signKind) da_139 14 rfl
theorem dX7_signKind_128 : decode cX7_signKind 128 = .ok (.ireturn, 1) := dec_of (decode cX7_signKind) da_139 15 rfl
theorem dX7_signKind_129 : decode cX7_signKind 129 = .ok (.bipush 34, 2) := dec_of (decode cX7_signKind) da_139 16 rfl
theorem dX7_signKind_131 : decode cX7_signKind 131 = .ok (.ireturn, 1) := dec_of (decode cX7_signKind) da_139 17 rfl
theorem dX7_signKind_132 : decode cX7_signKind 132 = .ok (.aload_n 0, 1) := dec_of (decode cX7_signKind) da_139 18 rfl
theorem dX7_signKind_133 : decode cX7_signKind 133 = .ok (.bipush 61, 2) := dec_of (decode cX7_signKind) da_139 19 rfl
theorem dX7_signKind_135 : decode cX7_signKind 135 = .ok (.invokevirtual 76, 3) := dec_of (decode cX7_signKind) da_139 20 rfl
theorem dX7_signKind_138 : decode cX7_signKind 138 = .ok (.ifCond .eq 8, 3) := dec_of (decode cX7_signKind) da_139 21 rfl
theorem dX7_signKind_141 : decode cX7_signKind 141 = .ok (.bipush 33, 2) := dec_of (decode cX7_signKind) da_139 22 rfl
theorem dX7_signKind_143 : decode cX7_signKind 143 = .ok (.goto 19, 3) := dec_of (decode cX7_signKind) da_139 23 rfl
theorem dX7_signKind_146 : decode cX7_signKind 146 = .ok (.aload_n 0, 1) := dec_of (decode cX7_signKind) da_139 24 rfl
theorem dX7_signKind_147 : decode cX7_signKind 147 = .ok (.bipush 62, 2) := dec_of (decode cX7_signKind) da_139 25 rfl
theorem dX7_signKind_149 : decode cX7_signKind 149 = .ok (.invokevirtual 76, 3) := dec_of (decode cX7_signKind) da_139 26 rfl
theorem dX7_signKind_152 : decode cX7_signKind 152 = .ok (.ifCond .eq 8, 3) := dec_of (decode cX7_signKind) da_139 27 rfl
theorem dX7_signKind_155 : decode cX7_signKind 155 = .ok (.bipush 35, 2) := dec_of (decode cX7_signKind) da_139 28 rfl
theorem dX7_signKind_157 : decode cX7_signKind 157 = .ok (.goto 5, 3) := dec_of (decode cX7_signKind) da_139 29 rfl
theorem dX7_signKind_160 : decode cX7_signKind 160 = .ok (.bipush 32, 2) := dec_of (decode cX7_signKind) da_139 30 rfl
theorem dX7_signKind_162 : decode cX7_signKind 162 = .ok (.ireturn, 1) := dec_of (decode cX7_signKind) da_139 31 rfl
theorem dX7_signKind_163 : decode cX7_signKind 163 = .ok (.aload_n 0, 1) := dec_of (decode cX7_signKind) da_139 32 rfl
theorem dX7_signKind_164 : decode cX7_signKind 164 = .ok (.bipush 61, 2) := dec_of (decode cX7_signKind) da_139 33 rfl
theorem dX7_signKind_166 : decode cX7_signKind 166 = .ok (.invokevirtual 76, 3) := dec_of (decode cX7_signKind) da_139 34 rfl
theorem dX7_signKind_169 : decode cX7_signKind 169 = .ok (.ifCond .eq 8, 3) := dec_of (decode cX7_signKind) da_139 35 rfl
theorem dX7_signKind_172 : decode cX7_signKind 172 = .ok (.bipush 36, 2) := dec_of (decode cX7_signKind) da_139 36 rfl
theorem dX7_signKind_174 : decode cX7_signKind 174 = .ok (.goto 5, 3) := dec_of (decode cX7_signKind) da_139 37 rfl
theorem dX7_signKind_177 : decode cX7_signKind 177 = .ok (.bipush 37, 2) := dec_of (decode cX7_signKind) da_139 38 rfl
theorem dX7_signKind_179 : decode cX7_signKind 179 = .ok (.ireturn, 1) := dec_of (decode cX7_signKind) da_139 39 rfl
abbrev dl_140 : List (Nat × Except DecodeError (Instr × Nat)) := [(180, .ok (.bipush 28, 2)), (182, .ok (.ireturn, 1))]
theorem da_140 : dl_140.all (fun q => decide (decode cX7_signKind q.1 = q.2)) = true := by decide +kernel
theorem dX7_signKind_180 : decode cX7_signKind 180 = .ok (.bipush 28, 2) := dec_of (decode cX7_signKind) da_140 0 rfl
theorem dX7_signKind_182 : decode cX7_signKind 182 = .ok (.ireturn, 1) := dec_of (decode cX7_signKind) da_140 1 rfl
abbrev dl_141 : List (Nat × Except DecodeError (Instr × Nat)) := [(0, .ok (.aload_n 0, 1)), (1, .ok (.invokevirtual 34, 3)), (4, .ok (.iload_n 1, 1)), (5, .ok (.if_icmp .eq 5, 3)), (8, .ok (.iconst 0, 1)), (9, .ok (.ireturn, 1)), (10, .ok (.aload_n 0, 1)), (11, .ok (.dup, 1)), (12, .ok (.getfield 22, 3)), (15, .ok (.iconst 1, 1)), (16, .ok (.iadd, 1)), (17, .ok (.putfield 22, 3)), (20, .ok (.iconst 1, 1)), (21, .ok (.ireturn, 1))]
theorem da_141 : dl_141.all (fun q => decide (decode cX7_belongs q.1 = q.2)) = true := by decide +kernel
theorem dX7_belongs_0 : decode cX7_belongs 0 = .ok (.aload_n 0, 1) := dec_of (decode cX7_belongs) da_141 0 rfl
theorem dX7_belongs_1 : decode cX7_belongs 1 = .ok (.invokevirtual 34, 3) := dec_of (decode cX7_belongs) da_141 1 rfl
theorem dX7_belongs_4 : decode cX7_belongs 4 = .ok (.iload_n 1, 1) := dec_of (decode cX7_belongs) da_141 2 rfl
theorem dX7_belongs_5 : decode cX7_belongs 5 = .ok (.if_icmp .eq 5, 3) := dec_of (decode cX7_belongs) da_141 3 rfl
theorem dX7_belongs_8 : decode cX7_belongs 8 = .ok (.iconst 0, 1) := dec_of (decode cX7_belongs) da_141 4 rfl
theorem dX7_belongs_9 : decode cX7_belongs 9 = .ok (.ireturn, 1) := dec_of (decode cX7_belongs) da_141 5 rfl
theorem dX7_belongs_10 : decode cX7_belongs 10 = .ok (.aload_n 0, 1) := dec_of (decode cX7_belongs) da_141 6 rfl
theorem dX7_belongs_11 : decode cX7_belongs 11 = .ok (.dup, 1) := dec_of (decode cX7_belongs) da_141 7 rfl
theorem dX7_belongs_12 : decode cX7_belongs 12 = .ok (.getfield 22, 3) := dec_of (decode cX7_belongs) da_141 8 rfl
theorem dX7_belongs_15 : decode cX7_belongs 15 = .ok (.iconst 1, 1) := dec_of (decode cX7_belongs) da_141 9 rfl
theorem dX7_belongs_16 : decode cX7_belongs 16 = .ok (.iadd, 1) := dec_of (decode cX7_belongs) da_141 10 rfl
theorem dX7_belongs_17 : decode cX7_belongs 17 = .ok (.putfield 22, 3) := dec_of (decode cX7_belongs) da_141 11 rfl
theorem dX7_belongs_20 : decode cX7_belongs 20 = .ok (.iconst 1, 1) := dec_of (decode cX7_belongs) da_141 12 rfl
theorem dX7_belongs_21 : decode cX7_belongs 21 = .ok (.ireturn, 1) := dec_of (decode cX7_belongs) da_141 13 rfl
abbrev dl_142 : List (Nat × Except DecodeError (Instr × Nat)) := [(0, .ok (.aload_n 0, 1)), (1, .ok (.invokespecial 3, 3)), (4, .ok (.aload_n 0, 1)), (5, .ok (.bipush 8, 2)), (7, .ok (.anewarray 9, 3)), (10, .ok (.putfield 11, 3)), (13, .ok (.aload_n 0, 1)), (14, .ok (.iconst 3, 1)), (15, .ok (.newarray .int, 2)), (17, .ok (.putfield 17, 3)), (20, .ok (.aload_n 0, 1)), (21, .ok (.iconst 3, 1)), (22, .ok (.anewarray 21, 3)), (25, .ok (.putfield 23, 3)), (28, .ok (.iconst 0, 1)), (29, .ok (.istore_n 1, 1)), (30, .ok (.iload_n 1, 1)), (31, .ok (.bipush 8, 2)), (33, .ok (.if_icmp .ge 22, 3)), (36, .ok (.aload_n 0, 1)), (37, .ok (.getfield 11, 3)), (40, .ok (.iload_n 1, 1)), (41, .ok (.new 9, 3)), (44, .ok (.dup, 1)), (45, .ok (.invokespecial 27, 3)), (48, .ok (.aastore, 1)), (49, .ok (.iinc 1 1, 3)), (52, .ok (.goto (-22), 3)), (55, .ok (.iconst 0, 1)), (56, .ok (.istore_n 1, 1)), (57, .ok (.iload_n 1, 1)), (58, .ok (.iconst 3, 1)), (59, .ok (.if_icmp .ge 22, 3)), (62, .ok (.aload_n 0, 1)), (63, .ok (.getfield 23, 3)), (66, .ok (.iload_n 1, 1)), (67, .ok (.new 21, 3)), (70, .ok (.dup, 1)), (71, .ok (.invokespecial 28, 3)), (74, .ok (.aastore, 1))]
theorem da_142 : dl_142.all (fun q => decide (decode cX8_init q.1 = q.2)) = true := by decide +kernel
theorem dX8_init_0 : decode cX8_init 0 = .ok (.aload_n 0, 1) := dec_of (decode cX8_init) da_142 0 rfl
theorem dX8_init_1 : decode cX8_init 1 = .ok (.invokespecial 3, 3) := dec_of (decode cX8_init) da_142 1 rfl
theorem dX8_init_4 : decode cX8_init 4 = .ok (.aload_n 0, 1) := dec_of (decode cX8_init) da_142 2 rfl
theorem dX8_init_5 : decode cX8_init 5 = .ok (.bipush 8, 2) := dec_of (decode cX8_init) da_142 3 rfl
theorem dX8_init_7 : decode cX8_init 7 = .ok (.anewarray 9, 3) := dec_of (decode cX8_init) da_142 4 rfl
theorem dX8_init_10 : decode cX8_init 10 = .ok (.putfield 11, 3) := dec_of (decode cX8_init) da_142 5 rfl
theorem dX8_init_13 : decode cX8_init 13 = .ok (.aload_n 0, 1) := dec_of (decode cX8_init) da_142 6 rfl
theorem dX8_init_14 : decode cX8_init 14 = .ok (.iconst 3, 1) := dec_of (decode cX8_init) da_142 7 rfl
theorem dX8_init_15 : decode cX8_init 15 = .ok (.newarray .int, 2) := dec_of (decode cX8_init) da_142 8 rfl
theorem dX8_init_17 : decode cX8_init 17 = .ok (.putfield 17, 3) := dec_of (decode cX8_init) da_142 9 rfl
theorem dX8_init_20 : decode cX8_init 20 = .ok (.aload_n 0, 1) := dec_of (decode cX8_init) da_142 10 rfl
theorem dX8_init_21 : decode cX8_init 21 = .ok (.iconst 3, 1) := dec_of (decode cX8_init) da_142 11 rfl
theorem dX8_init_22 : decode cX8_init 22 = .ok (.anewarray 21, 3) := dec_of (decode cX8_init) da_142 12 rfl
theorem dX8_init_25 : decode cX8_init 25 = .ok (.putfield 23, 3) := dec_of (decode cX8_init) da_142 13 rfl
theorem dX8_init_28 : decode cX8_init 28 = .ok (.iconst 0, 1) := dec_of (decode cX8_init) da_142 14 rfl
theorem dX8_init_29 : decode cX8_init 29 = .ok (.istore_n 1, 1) := dec_of (decode cX8_init) da_142 15 rfl
theorem dX8_init_30 : decode cX8_init 30 = .ok (.iload_n 1, 1) := dec_of (decode cX8_init) da_142 16 rfl
theorem dX8_init_31 : decode cX8_init 31 = .ok (.bipush 8, 2) := dec_of (decode cX8_init) da_142 17 rfl
theorem dX8_init_33 : decode cX8_init 33 = .ok (.if_icmp .ge 22, 3) := dec_of (decode cX8_init) da_142 18 rfl
theorem dX8_init_36 : decode cX8_init 36 = .ok (.aload_n 0, 1) := dec_of (decode cX8_init) da_142 19 rfl
theorem dX8_init_37 : decode cX8_init 37 = .ok (.getfield 11, 3) := dec_of (decode cX8_init) da_142 20 rfl
theorem dX8_init_40 : decode cX8_init 40 = .ok (.iload_n 1, 1) := dec_of (decode cX8_init) da_142 21 rfl
theorem dX8_init_41 : decode cX8_init 41 = .ok (.new 9, 3) := dec_of (decode cX8_init) da_142 22 rfl
theorem dX8_init_44 : decode cX8_init 44 = .ok (.dup, 1) := dec_of (decode cX8_init) da_142 23 rfl
theorem dX8_init_45 : decode cX8_init 45 = .ok (.invokespecial 27, 3) := dec_of (decode cX8_init) da_142 24 rfl
theorem dX8_init_48 : decode cX8_init 48 = .ok (.aastore, 1) := dec_of (decode cX8_init) da_142 25 rfl
theorem dX8_init_49 : decode cX8_init 49 = .ok (.iinc 1 1, 3) := dec_of (decode cX8_init) da_142 26 rfl
theorem dX8_init_52 : decode cX8_init 52 = .ok (.goto (-22), 3) := dec_of (decode cX8_init) da_142 27 rfl
theorem dX8_init_55 : decode cX8_init 55 = .ok (.iconst 0, 1) := dec_of (decode cX8_init) da_142 28 rfl
theorem dX8_init_56 : decode cX8_init 56 = .ok (.istore_n 1, 1) := dec_of (decode cX8_init) da_142 29 rfl
theorem dX8_init_57 : decode cX8_init 57 = .ok (.iload_n 1, 1) := dec_of (decode cX8_init) da_142 30 rfl
theorem dX8_init_58 : decode cX8_init 58 = .ok (.iconst 3, 1) := dec_of (decode cX8_init) da_142 31 rfl
theorem dX8_init_59 : decode cX8_init 59 = .ok (.if_icmp .ge 22, 3) := dec_of (decode cX8_init) da_142 32 rfl
theorem dX8_init_62 : decode cX8_init 62 = .ok (.aload_n 0, 1) := dec_of (decode cX8_init) da_142 33 rfl
theorem dX8_init_63 : decode cX8_init 63 = .ok (.getfield 23, 3) := dec_of (decode cX8_init) da_142 34 rfl
theorem dX8_init_66 : decode cX8_init 66 = .ok (.iload_n 1, 1) := dec_of (decode cX8_init) da_142 35 rfl
theorem dX8_init_67 : decode cX8_init 67 = .ok (.new 21, 3) := dec_of (decode cX8_init) da_142 36 rfl
theorem dX8_init_70 : decode cX8_init 70 = .ok (.dup, 1) := dec_of (decode cX8_init) da_142 37 rfl
theorem dX8_init_71 : decode cX8_init 71 = .ok (.invokespecial 28, 3) := dec_of (decode cX8_init) da_142 38 rfl
theorem dX8_init_74 : decode cX8_init 74 = .ok (.aastore, 1) := dec_of (decode cX8_init) da_142 39 rfl
abbrev dl_143 : List (Nat × Except DecodeError (Instr × Nat)) := [(75, .ok (.iinc 1 1, 3)), (78, .ok (.goto (-21), 3)), (81, .ok (.aload_n 0, 1)), (82, .ok (.invokevirtual 29, 3)), (85, .ok (.return_, 1))]
theorem da_143 : dl_143.all (fun q => decide (decode cX8_init q.1 = q.2)) = true := by decide +kernel
theorem dX8_init_75 : decode cX8_init 75 = .ok (.iinc 1 1, 3) := dec_of (decode cX8_init) da_143 0 rfl
theorem dX8_init_78 : decode cX8_init 78 = .ok (.goto (-21), 3) := dec_of (decode cX8_init) da_143 1 rfl
theorem dX8_init_81 : decode cX8_init 81 = .ok (.aload_n 0, 1) := dec_of (decode cX8_init) da_143 2 rfl
theorem dX8_init_82 : decode cX8_init 82 = .ok (.invokevirtual 29, 3) := dec_of (decode cX8_init) da_143 3 rfl
theorem dX8_init_85 : decode cX8_init 85 = .ok (.return_, 1) := dec_of (decode cX8_init) da_143 4 rfl
abbrev dl_144 : List (Nat × Except DecodeError (Instr × Nat)) := [(0, .ok (.aload_n 0, 1)), (1, .ok (.iconst 0, 1)), (2, .ok (.putfield 32, 3)), (5, .ok (.aload_n 0, 1)), (6, .ok (.iconst 0, 1)), (7, .ok (.putfield 36, 3)), (10, .ok (.aload_n 0, 1)), (11, .ok (.iconst 0, 1)), (12, .ok (.putfield 39, 3)), (15, .ok (.aload_n 0, 1)), (16, .ok (.sipush 200, 3)), (19, .ok (.putfield 42, 3)), (22, .ok (.aload_n 0, 1)), (23, .ok (.iconst 2, 1)), (24, .ok (.putfield 45, 3)), (27, .ok (.aload_n 0, 1)), (28, .ok (.bipush 10, 2)), (30, .ok (.putfield 48, 3)), (33, .ok (.aload_n 0, 1)), (34, .ok (.iconst 3, 1)), (35, .ok (.putfield 51, 3)), (38, .ok (.aload_n 0, 1)), (39, .ok (.iconst 0, 1)), (40, .ok (.putfield 54, 3)), (43, .ok (.aload_n 0, 1)), (44, .ok (.iconst 0, 1)), (45, .ok (.putfield 57, 3)), (48, .ok (.iconst 0, 1)), (49, .ok (.istore_n 1, 1)), (50, .ok (.iload_n 1, 1)), (51, .ok (.iconst 3, 1)), (52, .ok (.if_icmp .ge 16, 3)), (55, .ok (.aload_n 0, 1)), (56, .ok (.getfield 17, 3)), (59, .ok (.iload_n 1, 1)), (60, .ok (.iload_n 1, 1)), (61, .ok (.iastore, 1)), (62, .ok (.iinc 1 1, 3)), (65, .ok (.goto (-15), 3)), (68, .ok (.iconst 0, 1))]
theorem da_144 : dl_144.all (fun q => decide (decode cX8_clear q.1 = q.2)) = true := by decide +kernel
theorem dX8_clear_0 : decode cX8_clear 0 = .ok (.aload_n 0, 1) := dec_of (decode cX8_clear) da_144 0 rfl
theorem dX8_clear_1 : decode cX8_clear 1 = .ok (.iconst 0, 1) := dec_of (decode cX8_clear) da_144 1 rfl
theorem dX8_clear_2 : decode cX8_clear 2 = .ok (.putfield 32, 3) := dec_of (decode cX8_clear) da_144 2 rfl
theorem dX8_clear_5 : decode cX8_clear 5 = .ok (.aload_n 0, 1) := dec_of (decode cX8_clear) da_144 3 rfl
theorem dX8_clear_6 : decode cX8_clear 6 = .ok (.iconst 0, 1) := dec_of (decode cX8_clear) da_144 4 rfl
theorem dX8_clear_7 : decode cX8_clear 7 = .ok (.putfield 36, 3) := dec_of (decode cX8_clear) da_144 5 rfl
theorem dX8_clear_10 : decode cX8_clear 10 = .ok (.aload_n 0, 1) := dec_of (decode cX8_clear) da_144 6 rfl
theorem dX8_clear_11 : decode cX8_clear 11 = .ok (.iconst 0, 1) := dec_of (decode cX8_clear) da_144 7 rfl
theorem dX8_clear_12 : decode cX8_clear 12 = .ok (.putfield 39, 3) := dec_of (decode cX8_clear) da_144 8 rfl
theorem dX8_clear_15 : decode cX8_clear 15 = .ok (.aload_n 0, 1) := dec_of (decode cX8_clear) da_144 9 rfl
theorem dX8_clear_16 : decode cX8_clear 16 = .ok (.sipush 200, 3) := dec_of (decode cX8_clear) da_144 10 rfl
theorem dX8_clear_19 : decode cX8_clear 19 = .ok (.putfield 42, 3) := dec_of (decode cX8_clear) da_144 11 rfl
theorem dX8_clear_22 : decode cX8_clear 22 = .ok (.aload_n 0, 1) := dec_of (decode cX8_clear) da_144 12 rfl
theorem dX8_clear_23 : decode cX8_clear 23 = .ok (.iconst 2, 1) := dec_of (decode cX8_clear) da_144 13 rfl
theorem dX8_clear_24 : decode cX8_clear 24 = .ok (.putfield 45, 3) := dec_of (decode cX8_clear) da_144 14 rfl
theorem dX8_clear_27 : decode cX8_clear 27 = .ok (.aload_n 0, 1) := dec_of (decode cX8_clear) da_144 15 rfl
theorem dX8_clear_28 : decode cX8_clear 28 = .ok (.bipush 10, 2) := dec_of (decode cX8_clear) da_144 16 rfl
theorem dX8_clear_30 : decode cX8_clear 30 = .ok (.putfield 48, 3) := dec_of (decode cX8_clear) da_144 17 rfl
theorem dX8_clear_33 : decode cX8_clear 33 = .ok (.aload_n 0, 1) := dec_of (decode cX8_clear) da_144 18 rfl
theorem dX8_clear_34 : decode cX8_clear 34 = .ok (.iconst 3, 1) := dec_of (decode cX8_clear) da_144 19 rfl
theorem dX8_clear_35 : decode cX8_clear 35 = .ok (.putfield 51, 3) := dec_of (decode cX8_clear) da_144 20 rfl
theorem dX8_clear_38 : decode cX8_clear 38 = .ok (.aload_n 0, 1) := dec_of (decode cX8_clear) da_144 21 rfl
theorem dX8_clear_39 : decode cX8_clear 39 = .ok (.iconst 0, 1) := dec_of (decode cX8_clear) da_144 22 rfl
theorem dX8_clear_40 : decode cX8_clear 40 = .ok (.putfield 54, 3) := dec_of (decode cX8_clear) da_144 23 rfl
theorem dX8_clear_43 : decode cX8_clear 43 = .ok (.aload_n 0, 1) := dec_of (decode cX8_clear) da_144 24 rfl
theorem dX8_clear_44 : decode cX8_clear 44 = .ok (.iconst 0, 1) := dec_of (decode cX8_clear) da_144 25 rfl
theorem dX8_clear_45 : decode cX8_clear 45 = .ok (.putfield 57, 3) := dec_of (decode cX8_clear) da_144 26 rfl
theorem dX8_clear_48 : decode cX8_clear 48 = .ok (.iconst 0, 1) := dec_of (decode cX8_clear) da_144 27 rfl
theorem dX8_clear_49 : decode cX8_clear 49 = .ok (.istore_n 1, 1) := dec_of (decode cX8_clear) da_144 28 rfl
theorem dX8_clear_50 : decode cX8_clear 50 = .ok (.iload_n 1, 1) := dec_of (decode cX8_clear) da_144 29 rfl
theorem dX8_clear_51 : decode cX8_clear 51 = .ok (.iconst 3, 1) := dec_of (decode cX8_clear) da_144 30 rfl
theorem dX8_clear_52 : decode cX8_clear 52 = .ok (.if_icmp .ge 16, 3) := dec_of (decode cX8_clear) da_144 31 rfl
theorem dX8_clear_55 : decode cX8_clear 55 = .ok (.aload_n 0, 1) := dec_of (decode cX8_clear) da_144 32 rfl
theorem dX8_clear_56 : decode cX8_clear 56 = .ok (.getfield 17, 3) := dec_of (decode cX8_clear) da_144 33 rfl
theorem dX8_clear_59 : decode cX8_clear 59 = .ok (.iload_n 1, 1) := dec_of (decode cX8_clear) da_144 34 rfl
theorem dX8_clear_60 : decode cX8_clear 60 = .ok (.iload_n 1, 1) := dec_of (decode cX8_clear) da_144 35 rfl
theorem dX8_clear_61 : decode cX8_clear 61 = .ok (.iastore, 1) := dec_of (decode cX8_clear) da_144 36 rfl
theorem dX8_clear_62 : decode cX8_clear 62 = .ok (.iinc 1 1, 3) := dec_of (decode cX8_clear) da_144 37 rfl
theorem dX8_clear_65 : decode cX8_clear 65 = .ok (.goto (-15), 3) := dec_of (decode cX8_clear) da_144 38 rfl
theorem dX8_clear_68 : decode cX8_clear 68 = .ok (.iconst 0, 1) := dec_of (decode cX8_clear) da_144 39 rfl
abbrev dl_145 : List (Nat × Except DecodeError (Instr × Nat)) := [(69, .ok (.istore_n 1, 1)), (70, .ok (.iload_n 1, 1)), (71, .ok (.iconst 3, 1)), (72, .ok (.if_icmp .ge 19, 3)), (75, .ok (.aload_n 0, 1)), (76, .ok (.getfield 23, 3)), (79, .ok (.iload_n 1, 1)), (80, .ok (.aaload, 1)), (81, .ok (.iconst 0, 1)), (82, .ok (.putfield 60, 3)), (85, .ok (.iinc 1 1, 3)), (88, .ok (.goto (-18), 3)), (91, .ok (.return_, 1))]
theorem da_145 : dl_145.all (fun q => decide (decode cX8_clear q.1 = q.2)) = true := by decide +kernel
theorem dX8_clear_69 : decode cX8_clear 69 = .ok (.istore_n 1, 1) := dec_of (decode cX8_clear) da_145 0 rfl
theorem dX8_clear_70 : decode cX8_clear 70 = .ok (.iload_n 1, 1) := dec_of (decode cX8_clear) da_145 1 rfl
theorem dX8_clear_71 : decode cX8_clear 71 = .ok (.iconst 3, 1) := dec_of (decode cX8_clear) da_145 2 rfl
theorem dX8_clear_72 : decode cX8_clear 72 = .ok (.if_icmp .ge 19, 3) := dec_of (decode cX8_clear) da_145 3 rfl
theorem dX8_clear_75 : decode cX8_clear 75 = .ok (.aload_n 0, 1) := dec_of (decode cX8_clear) da_145 4 rfl
theorem dX8_clear_76 : decode cX8_clear 76 = .ok (.getfield 23, 3) := dec_of (decode cX8_clear) da_145 5 rfl
theorem dX8_clear_79 : decode cX8_clear 79 = .ok (.iload_n 1, 1) := dec_of (decode cX8_clear) da_145 6 rfl
theorem dX8_clear_80 : decode cX8_clear 80 = .ok (.aaload, 1) := dec_of (decode cX8_clear) da_145 7 rfl
theorem dX8_clear_81 : decode cX8_clear 81 = .ok (.iconst 0, 1) := dec_of (decode cX8_clear) da_145 8 rfl
theorem dX8_clear_82 : decode cX8_clear 82 = .ok (.putfield 60, 3) := dec_of (decode cX8_clear) da_145 9 rfl
theorem dX8_clear_85 : decode cX8_clear 85 = .ok (.iinc 1 1, 3) := dec_of (decode cX8_clear) da_145 10 rfl
theorem dX8_clear_88 : decode cX8_clear 88 = .ok (.goto (-18), 3) := dec_of (decode cX8_clear) da_145 11 rfl
theorem dX8_clear_91 : decode cX8_clear 91 = .ok (.return_, 1) := dec_of (decode cX8_clear) da_145 12 rfl
abbrev dl_146 : List (Nat × Except DecodeError (Instr × Nat)) := [(0, .ok (.iconst 0, 1)), (1, .ok (.istore_n 2, 1)), (2, .ok (.iload_n 2, 1)), (3, .ok (.aload_n 0, 1)), (4, .ok (.getfield 36, 3)), (7, .ok (.if_icmp .ge 24, 3)), (10, .ok (.aload_n 0, 1)), (11, .ok (.getfield 11, 3)), (14, .ok (.iload_n 2, 1)), (15, .ok (.aaload, 1)), (16, .ok (.getfield 63, 3)), (19, .ok (.iload_n 1, 1)), (20, .ok (.if_icmp .ne 5, 3)), (23, .ok (.iload_n 2, 1)), (24, .ok (.ireturn, 1)), (25, .ok (.iinc 2 1, 3)), (28, .ok (.goto (-26), 3)), (31, .ok (.iconst (-1), 1)), (32, .ok (.ireturn, 1))]
theorem da_146 : dl_146.all (fun q => decide (decode cX8_find q.1 = q.2)) = true := by decide +kernel
theorem dX8_find_0 : decode cX8_find 0 = .ok (.iconst 0, 1) := dec_of (decode cX8_find) da_146 0 rfl
theorem dX8_find_1 : decode cX8_find 1 = .ok (.istore_n 2, 1) := dec_of (decode cX8_find) da_146 1 rfl
theorem dX8_find_2 : decode cX8_find 2 = .ok (.iload_n 2, 1) := dec_of (decode cX8_find) da_146 2 rfl
theorem dX8_find_3 : decode cX8_find 3 = .ok (.aload_n 0, 1) := dec_of (decode cX8_find) da_146 3 rfl
theorem dX8_find_4 : decode cX8_find 4 = .ok (.getfield 36, 3) := dec_of (decode cX8_find) da_146 4 rfl
theorem dX8_find_7 : decode cX8_find 7 = .ok (.if_icmp .ge 24, 3) := dec_of (decode cX8_find) da_146 5 rfl
theorem dX8_find_10 : decode cX8_find 10 = .ok (.aload_n 0, 1) := dec_of (decode cX8_find) da_146 6 rfl
theorem dX8_find_11 : decode cX8_find 11 = .ok (.getfield 11, 3) := dec_of (decode cX8_find) da_146 7 rfl
theorem dX8_find_14 : decode cX8_find 14 = .ok (.iload_n 2, 1) := dec_of (decode cX8_find) da_146 8 rfl
theorem dX8_find_15 : decode cX8_find 15 = .ok (.aaload, 1) := dec_of (decode cX8_find) da_146 9 rfl
theorem dX8_find_16 : decode cX8_find 16 = .ok (.getfield 63, 3) := dec_of (decode cX8_find) da_146 10 rfl
theorem dX8_find_19 : decode cX8_find 19 = .ok (.iload_n 1, 1) := dec_of (decode cX8_find) da_146 11 rfl
theorem dX8_find_20 : decode cX8_find 20 = .ok (.if_icmp .ne 5, 3) := dec_of (decode cX8_find) da_146 12 rfl
theorem dX8_find_23 : decode cX8_find 23 = .ok (.iload_n 2, 1) := dec_of (decode cX8_find) da_146 13 rfl
theorem dX8_find_24 : decode cX8_find 24 = .ok (.ireturn, 1) := dec_of (decode cX8_find) da_146 14 rfl
theorem dX8_find_25 : decode cX8_find 25 = .ok (.iinc 2 1, 3) := dec_of (decode cX8_find) da_146 15 rfl
theorem dX8_find_28 : decode cX8_find 28 = .ok (.goto (-26), 3) := dec_of (decode cX8_find) da_146 16 rfl
theorem dX8_find_31 : decode cX8_find 31 = .ok (.iconst (-1), 1) := dec_of (decode cX8_find) da_146 17 rfl
theorem dX8_find_32 : decode cX8_find 32 = .ok (.ireturn, 1) := dec_of (decode cX8_find) da_146 18 rfl
abbrev dl_147 : List (Nat × Except DecodeError (Instr × Nat)) := [(0, .ok (.aload_n 0, 1)), (1, .ok (.invokespecial 3, 3)), (4, .ok (.aload_n 0, 1)), (5, .ok (.new 9, 3)), (8, .ok (.dup, 1)), (9, .ok (.invokespecial 11, 3)), (12, .ok (.putfield 12, 3)), (15, .ok (.aload_n 0, 1)), (16, .ok (.new 16, 3)), (19, .ok (.dup, 1)), (20, .ok (.invokespecial 18, 3)), (23, .ok (.putfield 19, 3)), (26, .ok (.aload_n 0, 1)), (27, .ok (.new 16, 3)), (30, .ok (.dup, 1)), (31, .ok (.invokespecial 18, 3)), (34, .ok (.putfield 23, 3)), (37, .ok (.aload_n 0, 1)), (38, .ok (.new 26, 3)), (41, .ok (.dup, 1)), (42, .ok (.invokespecial 28, 3)), (45, .ok (.putfield 29, 3)), (48, .ok (.aload_n 0, 1)), (49, .ok (.sipush 360, 3)), (52, .ok (.newarray .int, 2)), (54, .ok (.putfield 33, 3)), (57, .ok (.aload_n 0, 1)), (58, .ok (.new 37, 3)), (61, .ok (.dup, 1)), (62, .ok (.invokespecial 39, 3)), (65, .ok (.putfield 40, 3)), (68, .ok (.aload_n 0, 1)), (69, .ok (.new 26, 3)), (72, .ok (.dup, 1)), (73, .ok (.invokespecial 28, 3)), (76, .ok (.putfield 44, 3)), (79, .ok (.aload_n 0, 1)), (80, .ok (.iconst 0, 1)), (81, .ok (.putfield 47, 3)), (84, .ok (.aload_n 0, 1))]
theorem da_147 : dl_147.all (fun q => decide (decode cX9_init q.1 = q.2)) = true := by decide +kernel
theorem dX9_init_0 : decode cX9_init 0 = .ok (.aload_n 0, 1) := dec_of (decode cX9_init) da_147 0 rfl
theorem dX9_init_1 : decode cX9_init 1 = .ok (.invokespecial 3, 3) := dec_of (decode cX9_init) da_147 1 rfl
theorem dX9_init_4 : decode cX9_init 4 = .ok (.aload_n 0, 1) := dec_of (decode cX9_init) da_147 2 rfl
theorem dX9_init_5 : decode cX9_init 5 = .ok (.new 9, 3) := dec_of (decode cX9_init) da_147 3 rfl
theorem dX9_init_8 : decode cX9_init 8 = .ok (.dup, 1) := dec_of (decode cX9_init) da_147 4 rfl
theorem dX9_init_9 : decode cX9_init 9 = .ok (.invokespecial 11, 3) := dec_of (decode cX9_init) da_147 5 rfl
theorem dX9_init_12 : decode cX9_init 12 = .ok (.putfield 12, 3) := dec_of (decode cX9_init) da_147 6 rfl
theorem dX9_init_15 : decode cX9_init 15 = .ok (.aload_n 0, 1) := dec_of (decode cX9_init) da_147 7 rfl
theorem dX9_init_16 : decode cX9_init 16 = .ok (.new 16, 3) := dec_of (decode cX9_init) da_147 8 rfl
theorem dX9_init_19 : decode cX9_init 19 = .ok (.dup, 1) := dec_of (decode cX9_init) da_147 9 rfl
theorem dX9_init_20 : decode cX9_init 20 = .ok (.invokespecial 18, 3) := dec_of (decode cX9_init) da_147 10 rfl
theorem dX9_init_23 : decode cX9_init 23 = .ok (.putfield 19, 3) := dec_of (decode cX9_init) da_147 11 rfl
theorem dX9_init_26 : decode cX9_init 26 = .ok (.aload_n 0, 1) := dec_of (decode cX9_init) da_147 12 rfl
theorem dX9_init_27 : decode cX9_init 27 = .ok (.new 16, 3) := dec_of (decode cX9_init) da_147 13 rfl
theorem dX9_init_30 : decode cX9_init 30 = .ok (.dup, 1) := dec_of (decode cX9_init) da_147 14 rfl
theorem dX9_init_31 : decode cX9_init 31 = .ok (.invokespecial 18, 3) := dec_of (decode cX9_init) da_147 15 rfl
theorem dX9_init_34 : decode cX9_init 34 = .ok (.putfield 23, 3) := dec_of (decode cX9_init) da_147 16 rfl
theorem dX9_init_37 : decode cX9_init 37 = .ok (.aload_n 0, 1) := dec_of (decode cX9_init) da_147 17 rfl
theorem dX9_init_38 : decode cX9_init 38 = .ok (.new 26, 3) := dec_of (decode cX9_init) da_147 18 rfl
theorem dX9_init_41 : decode cX9_init 41 = .ok (.dup, 1) := dec_of (decode cX9_init) da_147 19 rfl
theorem dX9_init_42 : decode cX9_init 42 = .ok (.invokespecial 28, 3) := dec_of (decode cX9_init) da_147 20 rfl
theorem dX9_init_45 : decode cX9_init 45 = .ok (.putfield 29, 3) := dec_of (decode cX9_init) da_147 21 rfl
theorem dX9_init_48 : decode cX9_init 48 = .ok (.aload_n 0, 1) := dec_of (decode cX9_init) da_147 22 rfl
theorem dX9_init_49 : decode cX9_init 49 = .ok (.sipush 360, 3) := dec_of (decode cX9_init) da_147 23 rfl
theorem dX9_init_52 : decode cX9_init 52 = .ok (.newarray .int, 2) := dec_of (decode cX9_init) da_147 24 rfl
theorem dX9_init_54 : decode cX9_init 54 = .ok (.putfield 33, 3) := dec_of (decode cX9_init) da_147 25 rfl
theorem dX9_init_57 : decode cX9_init 57 = .ok (.aload_n 0, 1) := dec_of (decode cX9_init) da_147 26 rfl
theorem dX9_init_58 : decode cX9_init 58 = .ok (.new 37, 3) := dec_of (decode cX9_init) da_147 27 rfl
theorem dX9_init_61 : decode cX9_init 61 = .ok (.dup, 1) := dec_of (decode cX9_init) da_147 28 rfl
theorem dX9_init_62 : decode cX9_init 62 = .ok (.invokespecial 39, 3) := dec_of (decode cX9_init) da_147 29 rfl
theorem dX9_init_65 : decode cX9_init 65 = .ok (.putfield 40, 3) := dec_of (decode cX9_init) da_147 30 rfl
theorem dX9_init_68 : decode cX9_init 68 = .ok (.aload_n 0, 1) := dec_of (decode cX9_init) da_147 31 rfl
theorem dX9_init_69 : decode cX9_init 69 = .ok (.new 26, 3) := dec_of (decode cX9_init) da_147 32 rfl
theorem dX9_init_72 : decode cX9_init 72 = .ok (.dup, 1) := dec_of (decode cX9_init) da_147 33 rfl
theorem dX9_init_73 : decode cX9_init 73 = .ok (.invokespecial 28, 3) := dec_of (decode cX9_init) da_147 34 rfl
theorem dX9_init_76 : decode cX9_init 76 = .ok (.putfield 44, 3) := dec_of (decode cX9_init) da_147 35 rfl
theorem dX9_init_79 : decode cX9_init 79 = .ok (.aload_n 0, 1) := dec_of (decode cX9_init) da_147 36 rfl
theorem dX9_init_80 : decode cX9_init 80 = .ok (.iconst 0, 1) := dec_of (decode cX9_init) da_147 37 rfl
theorem dX9_init_81 : decode cX9_init 81 = .ok (.putfield 47, 3) := dec_of (decode cX9_init) da_147 38 rfl
theorem dX9_init_84 : decode cX9_init 84 = .ok (.aload_n 0, 1) := dec_of (decode cX9_init) da_147 39 rfl
abbrev dl_148 : List (Nat × Except DecodeError (Instr × Nat)) := [(85, .ok (.new 51, 3)), (88, .ok (.dup, 1)), (89, .ok (.invokespecial 53, 3)), (92, .ok (.putfield 54, 3)), (95, .ok (.aload_n 0, 1)), (96, .ok (.new 58, 3)), (99, .ok (.dup, 1)), (100, .ok (.invokespecial 60, 3)), (103, .ok (.putfield 61, 3)), (106, .ok (.aload_n 0, 1)), (107, .ok (.getfield 29, 3)), (110, .ok (.aload_n 0, 1)), (111, .ok (.getfield 19, 3)), (114, .ok (.invokevirtual 65, 3)), (117, .ok (.return_, 1))]
theorem da_148 : dl_148.all (fun q => decide (decode cX9_init q.1 = q.2)) = true := by decide +kernel
theorem dX9_init_85 : decode cX9_init 85 = .ok (.new 51, 3) := dec_of (decode cX9_init) da_148 0 rfl
theorem dX9_init_88 : decode cX9_init 88 = .ok (.dup, 1) := dec_of (decode cX9_init) da_148 1 rfl
theorem dX9_init_89 : decode cX9_init 89 = .ok (.invokespecial 53, 3) := dec_of (decode cX9_init) da_148 2 rfl
theorem dX9_init_92 : decode cX9_init 92 = .ok (.putfield 54, 3) := dec_of (decode cX9_init) da_148 3 rfl
theorem dX9_init_95 : decode cX9_init 95 = .ok (.aload_n 0, 1) := dec_of (decode cX9_init) da_148 4 rfl
theorem dX9_init_96 : decode cX9_init 96 = .ok (.new 58, 3) := dec_of (decode cX9_init) da_148 5 rfl
theorem dX9_init_99 : decode cX9_init 99 = .ok (.dup, 1) := dec_of (decode cX9_init) da_148 6 rfl
theorem dX9_init_100 : decode cX9_init 100 = .ok (.invokespecial 60, 3) := dec_of (decode cX9_init) da_148 7 rfl
theorem dX9_init_103 : decode cX9_init 103 = .ok (.putfield 61, 3) := dec_of (decode cX9_init) da_148 8 rfl
theorem dX9_init_106 : decode cX9_init 106 = .ok (.aload_n 0, 1) := dec_of (decode cX9_init) da_148 9 rfl
theorem dX9_init_107 : decode cX9_init 107 = .ok (.getfield 29, 3) := dec_of (decode cX9_init) da_148 10 rfl
theorem dX9_init_110 : decode cX9_init 110 = .ok (.aload_n 0, 1) := dec_of (decode cX9_init) da_148 11 rfl
theorem dX9_init_111 : decode cX9_init 111 = .ok (.getfield 19, 3) := dec_of (decode cX9_init) da_148 12 rfl
theorem dX9_init_114 : decode cX9_init 114 = .ok (.invokevirtual 65, 3) := dec_of (decode cX9_init) da_148 13 rfl
theorem dX9_init_117 : decode cX9_init 117 = .ok (.return_, 1) := dec_of (decode cX9_init) da_148 14 rfl
abbrev dl_149 : List (Nat × Except DecodeError (Instr × Nat)) := [(0, .ok (.aload_n 0, 1)), (1, .ok (.getfield 12, 3)), (4, .ok (.getfield 69, 3)), (7, .ok (.astore 6, 2)), (9, .ok (.aload 6, 2)), (11, .ok (.getfield 73, 3)), (14, .ok (.bipush 20, 2)), (16, .ok (.iadd, 1)), (17, .ok (.sipush 700, 3)), (20, .ok (.if_icmp .le 5, 3)), (23, .ok (.iconst (-1), 1)), (24, .ok (.ireturn, 1)), (25, .ok (.aload 6, 2)), (27, .ok (.iload_n 1, 1)), (28, .ok (.invokevirtual 79, 3)), (31, .ok (.aload 6, 2)), (33, .ok (.iload_n 2, 1)), (34, .ok (.invokevirtual 79, 3)), (37, .ok (.aload 6, 2)), (39, .ok (.iload_n 3, 1)), (40, .ok (.invokevirtual 79, 3)), (43, .ok (.aload 6, 2)), (45, .ok (.iload 4, 2)), (47, .ok (.invokevirtual 79, 3)), (50, .ok (.aload 6, 2)), (52, .ok (.iload 5, 2)), (54, .ok (.invokevirtual 79, 3)), (57, .ok (.aload 6, 2)), (59, .ok (.getfield 73, 3)), (62, .ok (.ireturn, 1))]
theorem da_149 : dl_149.all (fun q => decide (decode cX9_feed q.1 = q.2)) = true := by decide +kernel
theorem dX9_feed_0 : decode cX9_feed 0 = .ok (.aload_n 0, 1) := dec_of (decode cX9_feed) da_149 0 rfl
theorem dX9_feed_1 : decode cX9_feed 1 = .ok (.getfield 12, 3) := dec_of (decode cX9_feed) da_149 1 rfl
theorem dX9_feed_4 : decode cX9_feed 4 = .ok (.getfield 69, 3) := dec_of (decode cX9_feed) da_149 2 rfl
theorem dX9_feed_7 : decode cX9_feed 7 = .ok (.astore 6, 2) := dec_of (decode cX9_feed) da_149 3 rfl
theorem dX9_feed_9 : decode cX9_feed 9 = .ok (.aload 6, 2) := dec_of (decode cX9_feed) da_149 4 rfl
theorem dX9_feed_11 : decode cX9_feed 11 = .ok (.getfield 73, 3) := dec_of (decode cX9_feed) da_149 5 rfl
theorem dX9_feed_14 : decode cX9_feed 14 = .ok (.bipush 20, 2) := dec_of (decode cX9_feed) da_149 6 rfl
theorem dX9_feed_16 : decode cX9_feed 16 = .ok (.iadd, 1) := dec_of (decode cX9_feed) da_149 7 rfl
theorem dX9_feed_17 : decode cX9_feed 17 = .ok (.sipush 700, 3) := dec_of (decode cX9_feed) da_149 8 rfl
theorem dX9_feed_20 : decode cX9_feed 20 = .ok (.if_icmp .le 5, 3) := dec_of (decode cX9_feed) da_149 9 rfl
theorem dX9_feed_23 : decode cX9_feed 23 = .ok (.iconst (-1), 1) := dec_of (decode cX9_feed) da_149 10 rfl
theorem dX9_feed_24 : decode cX9_feed 24 = .ok (.ireturn, 1) := dec_of (decode cX9_feed) da_149 11 rfl
theorem dX9_feed_25 : decode cX9_feed 25 = .ok (.aload 6, 2) := dec_of (decode cX9_feed) da_149 12 rfl
theorem dX9_feed_27 : decode cX9_feed 27 = .ok (.iload_n 1, 1) := dec_of (decode cX9_feed) da_149 13 rfl
theorem dX9_feed_28 : decode cX9_feed 28 = .ok (.invokevirtual 79, 3) := dec_of (decode cX9_feed) da_149 14 rfl
theorem dX9_feed_31 : decode cX9_feed 31 = .ok (.aload 6, 2) := dec_of (decode cX9_feed) da_149 15 rfl
theorem dX9_feed_33 : decode cX9_feed 33 = .ok (.iload_n 2, 1) := dec_of (decode cX9_feed) da_149 16 rfl
theorem dX9_feed_34 : decode cX9_feed 34 = .ok (.invokevirtual 79, 3) := dec_of (decode cX9_feed) da_149 17 rfl
theorem dX9_feed_37 : decode cX9_feed 37 = .ok (.aload 6, 2) := dec_of (decode cX9_feed) da_149 18 rfl
theorem dX9_feed_39 : decode cX9_feed 39 = .ok (.iload_n 3, 1) := dec_of (decode cX9_feed) da_149 19 rfl
theorem dX9_feed_40 : decode cX9_feed 40 = .ok (.invokevirtual 79, 3) := dec_of (decode cX9_feed) da_149 20 rfl
theorem dX9_feed_43 : decode cX9_feed 43 = .ok (.aload 6, 2) := dec_of (decode cX9_feed) da_149 21 rfl
theorem dX9_feed_45 : decode cX9_feed 45 = .ok (.iload 4, 2) := dec_of (decode cX9_feed) da_149 22 rfl
theorem dX9_feed_47 : decode cX9_feed 47 = .ok (.invokevirtual 79, 3) := dec_of (decode cX9_feed) da_149 23 rfl
theorem dX9_feed_50 : decode cX9_feed 50 = .ok (.aload 6, 2) := dec_of (decode cX9_feed) da_149 24 rfl
theorem dX9_feed_52 : decode cX9_feed 52 = .ok (.iload 5, 2) := dec_of (decode cX9_feed) da_149 25 rfl
theorem dX9_feed_54 : decode cX9_feed 54 = .ok (.invokevirtual 79, 3) := dec_of (decode cX9_feed) da_149 26 rfl
theorem dX9_feed_57 : decode cX9_feed 57 = .ok (.aload 6, 2) := dec_of (decode cX9_feed) da_149 27 rfl
theorem dX9_feed_59 : decode cX9_feed 59 = .ok (.getfield 73, 3) := dec_of (decode cX9_feed) da_149 28 rfl
theorem dX9_feed_62 : decode cX9_feed 62 = .ok (.ireturn, 1) := dec_of (decode cX9_feed) da_149 29 rfl

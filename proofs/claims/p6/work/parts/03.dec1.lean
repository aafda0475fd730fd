abbrev dl_150 : List (Nat × Except DecodeError (Instr × Nat)) := [(0, .ok (.iload_n 1, 1)), (1, .ok (.ifCond .lt 17, 3)), (4, .ok (.iload_n 1, 1)), (5, .ok (.aload_n 0, 1)), (6, .ok (.getfield 12, 3)), (9, .ok (.getfield 69, 3)), (12, .ok (.getfield 73, 3)), (15, .ok (.if_icmp .le 6, 3)), (18, .ok (.bipush (-2), 2)), (20, .ok (.ireturn, 1)), (21, .ok (.aload_n 0, 1)), (22, .ok (.getfield 12, 3)), (25, .ok (.getfield 69, 3)), (28, .ok (.iconst 0, 1)), (29, .ok (.putfield 73, 3)), (32, .ok (.aload_n 0, 1)), (33, .ok (.getfield 12, 3)), (36, .ok (.iload_n 1, 1)), (37, .ok (.aload_n 0, 1)), (38, .ok (.getfield 23, 3)), (41, .ok (.invokevirtual 83, 3)), (44, .ok (.ifCond .ne 5, 3)), (47, .ok (.iconst (-1), 1)), (48, .ok (.ireturn, 1)), (49, .ok (.aload_n 0, 1)), (50, .ok (.getfield 19, 3)), (53, .ok (.astore_n 2, 1)), (54, .ok (.aload_n 0, 1)), (55, .ok (.aload_n 0, 1)), (56, .ok (.getfield 23, 3)), (59, .ok (.putfield 19, 3)), (62, .ok (.aload_n 0, 1)), (63, .ok (.aload_n 2, 1)), (64, .ok (.putfield 23, 3)), (67, .ok (.aload_n 0, 1)), (68, .ok (.getfield 29, 3)), (71, .ok (.aload_n 0, 1)), (72, .ok (.getfield 19, 3)), (75, .ok (.invokevirtual 65, 3)), (78, .ok (.aload_n 0, 1))]
theorem da_150 : dl_150.all (fun q => decide (decode cX9_text q.1 = q.2)) = true := by decide +kernel
theorem dX9_text_0 : decode cX9_text 0 = .ok (.iload_n 1, 1) := dec_of (decode cX9_text) da_150 0 rfl
theorem dX9_text_1 : decode cX9_text 1 = .ok (.ifCond .lt 17, 3) := dec_of (decode cX9_text) da_150 1 rfl
theorem dX9_text_4 : decode cX9_text 4 = .ok (.iload_n 1, 1) := dec_of (decode cX9_text) da_150 2 rfl
theorem dX9_text_5 : decode cX9_text 5 = .ok (.aload_n 0, 1) := dec_of (decode cX9_text) da_150 3 rfl
theorem dX9_text_6 : decode cX9_text 6 = .ok (.getfield 12, 3) := dec_of (decode cX9_text) da_150 4 rfl
theorem dX9_text_9 : decode cX9_text 9 = .ok (.getfield 69, 3) := dec_of (decode cX9_text) da_150 5 rfl
theorem dX9_text_12 : decode cX9_text 12 = .ok (.getfield 73, 3) := dec_of (decode cX9_text) da_150 6 rfl
theorem dX9_text_15 : decode cX9_text 15 = .ok (.if_icmp .le 6, 3) := dec_of (decode cX9_text) da_150 7 rfl
theorem dX9_text_18 : decode cX9_text 18 = .ok (.bipush (-2), 2) := dec_of (decode cX9_text) da_150 8 rfl
theorem dX9_text_20 : decode cX9_text 20 = .ok (.ireturn, 1) := dec_of (decode cX9_text) da_150 9 rfl
theorem dX9_text_21 : decode cX9_text 21 = .ok (.aload_n 0, 1) := dec_of (decode cX9_text) da_150 10 rfl
theorem dX9_text_22 : decode cX9_text 22 = .ok (.getfield 12, 3) := dec_of (decode cX9_text) da_150 11 rfl
theorem dX9_text_25 : decode cX9_text 25 = .ok (.getfield 69, 3) := dec_of (decode cX9_text) da_150 12 rfl
theorem dX9_text_28 : decode cX9_text 28 = .ok (.iconst 0, 1) := dec_of (decode cX9_text) da_150 13 rfl
theorem dX9_text_29 : decode cX9_text 29 = .ok (.putfield 73, 3) := dec_of (decode cX9_text) da_150 14 rfl
theorem dX9_text_32 : decode cX9_text 32 = .ok (.aload_n 0, 1) := dec_of (decode cX9_text) da_150 15 rfl
theorem dX9_text_33 : decode cX9_text 33 = .ok (.getfield 12, 3) := dec_of (decode cX9_text) da_150 16 rfl
theorem dX9_text_36 : decode cX9_text 36 = .ok (.iload_n 1, 1) := dec_of (decode cX9_text) da_150 17 rfl
theorem dX9_text_37 : decode cX9_text 37 = .ok (.aload_n 0, 1) := dec_of (decode cX9_text) da_150 18 rfl
theorem dX9_text_38 : decode cX9_text 38 = .ok (.getfield 23, 3) := dec_of (decode cX9_text) da_150 19 rfl
theorem dX9_text_41 : decode cX9_text 41 = .ok (.invokevirtual 83, 3) := dec_of (decode cX9_text) da_150 20 rfl
theorem dX9_text_44 : decode cX9_text 44 = .ok (.ifCond .ne 5, 3) := dec_of (decode cX9_text) da_150 21 rfl
theorem dX9_text_47 : decode cX9_text 47 = .ok (.iconst (-1), 1) := dec_of (decode cX9_text) da_150 22 rfl
theorem dX9_text_48 : decode cX9_text 48 = .ok (.ireturn, 1) := dec_of (decode cX9_text) da_150 23 rfl
theorem dX9_text_49 : decode cX9_text 49 = .ok (.aload_n 0, 1) := dec_of (decode cX9_text) da_150 24 rfl
theorem dX9_text_50 : decode cX9_text 50 = .ok (.getfield 19, 3) := dec_of (decode cX9_text) da_150 25 rfl
theorem dX9_text_53 : decode cX9_text 53 = .ok (.astore_n 2, 1) := dec_of (decode cX9_text) da_150 26 rfl
theorem dX9_text_54 : decode cX9_text 54 = .ok (.aload_n 0, 1) := dec_of (decode cX9_text) da_150 27 rfl
theorem dX9_text_55 : decode cX9_text 55 = .ok (.aload_n 0, 1) := dec_of (decode cX9_text) da_150 28 rfl
theorem dX9_text_56 : decode cX9_text 56 = .ok (.getfield 23, 3) := dec_of (decode cX9_text) da_150 29 rfl
theorem dX9_text_59 : decode cX9_text 59 = .ok (.putfield 19, 3) := dec_of (decode cX9_text) da_150 30 rfl
theorem dX9_text_62 : decode cX9_text 62 = .ok (.aload_n 0, 1) := dec_of (decode cX9_text) da_150 31 rfl
theorem dX9_text_63 : decode cX9_text 63 = .ok (.aload_n 2, 1) := dec_of (decode cX9_text) da_150 32 rfl
theorem dX9_text_64 : decode cX9_text 64 = .ok (.putfield 23, 3) := dec_of (decode cX9_text) da_150 33 rfl
theorem dX9_text_67 : decode cX9_text 67 = .ok (.aload_n 0, 1) := dec_of (decode cX9_text) da_150 34 rfl
theorem dX9_text_68 : decode cX9_text 68 = .ok (.getfield 29, 3) := dec_of (decode cX9_text) da_150 35 rfl
theorem dX9_text_71 : decode cX9_text 71 = .ok (.aload_n 0, 1) := dec_of (decode cX9_text) da_150 36 rfl
theorem dX9_text_72 : decode cX9_text 72 = .ok (.getfield 19, 3) := dec_of (decode cX9_text) da_150 37 rfl
theorem dX9_text_75 : decode cX9_text 75 = .ok (.invokevirtual 65, 3) := dec_of (decode cX9_text) da_150 38 rfl
theorem dX9_text_78 : decode cX9_text 78 = .ok (.aload_n 0, 1) := dec_of (decode cX9_text) da_150 39 rfl
abbrev dl_151 : List (Nat × Except DecodeError (Instr × Nat)) := [(79, .ok (.getfield 40, 3)), (82, .ok (.invokevirtual 87, 3)), (85, .ok (.aload_n 0, 1)), (86, .ok (.getfield 54, 3)), (89, .ok (.invokevirtual 90, 3)), (92, .ok (.aload_n 0, 1)), (93, .ok (.iconst 0, 1)), (94, .ok (.putfield 47, 3)), (97, .ok (.aload_n 0, 1)), (98, .ok (.getfield 19, 3)), (101, .ok (.getfield 91, 3)), (104, .ok (.ireturn, 1))]
theorem da_151 : dl_151.all (fun q => decide (decode cX9_text q.1 = q.2)) = true := by decide +kernel
theorem dX9_text_79 : decode cX9_text 79 = .ok (.getfield 40, 3) := dec_of (decode cX9_text) da_151 0 rfl
theorem dX9_text_82 : decode cX9_text 82 = .ok (.invokevirtual 87, 3) := dec_of (decode cX9_text) da_151 1 rfl
theorem dX9_text_85 : decode cX9_text 85 = .ok (.aload_n 0, 1) := dec_of (decode cX9_text) da_151 2 rfl
theorem dX9_text_86 : decode cX9_text 86 = .ok (.getfield 54, 3) := dec_of (decode cX9_text) da_151 3 rfl
theorem dX9_text_89 : decode cX9_text 89 = .ok (.invokevirtual 90, 3) := dec_of (decode cX9_text) da_151 4 rfl
theorem dX9_text_92 : decode cX9_text 92 = .ok (.aload_n 0, 1) := dec_of (decode cX9_text) da_151 5 rfl
theorem dX9_text_93 : decode cX9_text 93 = .ok (.iconst 0, 1) := dec_of (decode cX9_text) da_151 6 rfl
theorem dX9_text_94 : decode cX9_text 94 = .ok (.putfield 47, 3) := dec_of (decode cX9_text) da_151 7 rfl
theorem dX9_text_97 : decode cX9_text 97 = .ok (.aload_n 0, 1) := dec_of (decode cX9_text) da_151 8 rfl
theorem dX9_text_98 : decode cX9_text 98 = .ok (.getfield 19, 3) := dec_of (decode cX9_text) da_151 9 rfl
theorem dX9_text_101 : decode cX9_text 101 = .ok (.getfield 91, 3) := dec_of (decode cX9_text) da_151 10 rfl
theorem dX9_text_104 : decode cX9_text 104 = .ok (.ireturn, 1) := dec_of (decode cX9_text) da_151 11 rfl
abbrev dl_152 : List (Nat × Except DecodeError (Instr × Nat)) := [(0, .ok (.iload_n 1, 1)), (1, .ok (.lookupswitch 43 #[(0, 27), (1, 35)], 27)), (28, .ok (.aload_n 0, 1)), (29, .ok (.getfield 12, 3)), (32, .ok (.getfield 94, 3)), (35, .ok (.ireturn, 1)), (36, .ok (.aload_n 0, 1)), (37, .ok (.getfield 12, 3)), (40, .ok (.getfield 97, 3)), (43, .ok (.ireturn, 1)), (44, .ok (.iconst (-1), 1)), (45, .ok (.ireturn, 1))]
theorem da_152 : dl_152.all (fun q => decide (decode cX9_fault q.1 = q.2)) = true := by decide +kernel
theorem dX9_fault_0 : decode cX9_fault 0 = .ok (.iload_n 1, 1) := dec_of (decode cX9_fault) da_152 0 rfl
theorem dX9_fault_1 : decode cX9_fault 1 = .ok (.lookupswitch 43 #[(0, 27), (1, 35)], 27) := dec_of (decode cX9_fault) da_152 1 rfl
theorem dX9_fault_28 : decode cX9_fault 28 = .ok (.aload_n 0, 1) := dec_of (decode cX9_fault) da_152 2 rfl
theorem dX9_fault_29 : decode cX9_fault 29 = .ok (.getfield 12, 3) := dec_of (decode cX9_fault) da_152 3 rfl
theorem dX9_fault_32 : decode cX9_fault 32 = .ok (.getfield 94, 3) := dec_of (decode cX9_fault) da_152 4 rfl
theorem dX9_fault_35 : decode cX9_fault 35 = .ok (.ireturn, 1) := dec_of (decode cX9_fault) da_152 5 rfl
theorem dX9_fault_36 : decode cX9_fault 36 = .ok (.aload_n 0, 1) := dec_of (decode cX9_fault) da_152 6 rfl
theorem dX9_fault_37 : decode cX9_fault 37 = .ok (.getfield 12, 3) := dec_of (decode cX9_fault) da_152 7 rfl
theorem dX9_fault_40 : decode cX9_fault 40 = .ok (.getfield 97, 3) := dec_of (decode cX9_fault) da_152 8 rfl
theorem dX9_fault_43 : decode cX9_fault 43 = .ok (.ireturn, 1) := dec_of (decode cX9_fault) da_152 9 rfl
theorem dX9_fault_44 : decode cX9_fault 44 = .ok (.iconst (-1), 1) := dec_of (decode cX9_fault) da_152 10 rfl
theorem dX9_fault_45 : decode cX9_fault 45 = .ok (.ireturn, 1) := dec_of (decode cX9_fault) da_152 11 rfl
abbrev dl_153 : List (Nat × Except DecodeError (Instr × Nat)) := [(0, .ok (.aload_n 0, 1)), (1, .ok (.getfield 19, 3)), (4, .ok (.iload_n 1, 1)), (5, .ok (.invokevirtual 100, 3)), (8, .ok (.ireturn, 1))]
theorem da_153 : dl_153.all (fun q => decide (decode cX9_named q.1 = q.2)) = true := by decide +kernel
theorem dX9_named_0 : decode cX9_named 0 = .ok (.aload_n 0, 1) := dec_of (decode cX9_named) da_153 0 rfl
theorem dX9_named_1 : decode cX9_named 1 = .ok (.getfield 19, 3) := dec_of (decode cX9_named) da_153 1 rfl
theorem dX9_named_4 : decode cX9_named 4 = .ok (.iload_n 1, 1) := dec_of (decode cX9_named) da_153 2 rfl
theorem dX9_named_5 : decode cX9_named 5 = .ok (.invokevirtual 100, 3) := dec_of (decode cX9_named) da_153 3 rfl
theorem dX9_named_8 : decode cX9_named 8 = .ok (.ireturn, 1) := dec_of (decode cX9_named) da_153 4 rfl
abbrev dl_154 : List (Nat × Except DecodeError (Instr × Nat)) := [(0, .ok (.aload_n 0, 1)), (1, .ok (.iload_n 1, 1)), (2, .ok (.invokevirtual 104, 3)), (5, .ok (.ifCond .ne 13, 3)), (8, .ok (.new 108, 3)), (11, .ok (.dup, 1)), (12, .ok (.ldc 110, 2)), (14, .ok (.invokespecial 112, 3)), (17, .ok (.athrow, 1)), (18, .ok (.iload_n 2, 1)), (19, .ok (.tableswitch 174 0 10 #[57, 70, 83, 93, 103, 113, 122, 132, 141, 151, 161], 57)), (76, .ok (.aload_n 0, 1)), (77, .ok (.getfield 19, 3)), (80, .ok (.getfield 115, 3)), (83, .ok (.iload_n 1, 1)), (84, .ok (.aaload, 1)), (85, .ok (.getfield 119, 3)), (88, .ok (.ireturn, 1)), (89, .ok (.aload_n 0, 1)), (90, .ok (.getfield 19, 3)), (93, .ok (.getfield 115, 3)), (96, .ok (.iload_n 1, 1)), (97, .ok (.aaload, 1)), (98, .ok (.getfield 124, 3)), (101, .ok (.ireturn, 1)), (102, .ok (.aload_n 0, 1)), (103, .ok (.getfield 29, 3)), (106, .ok (.getfield 127, 3)), (109, .ok (.iload_n 1, 1)), (110, .ok (.iaload, 1)), (111, .ok (.ireturn, 1)), (112, .ok (.aload_n 0, 1)), (113, .ok (.getfield 29, 3)), (116, .ok (.getfield 130, 3)), (119, .ok (.iload_n 1, 1)), (120, .ok (.iaload, 1)), (121, .ok (.ireturn, 1)), (122, .ok (.aload_n 0, 1)), (123, .ok (.getfield 29, 3)), (126, .ok (.getfield 133, 3))]
theorem da_154 : dl_154.all (fun q => decide (decode cX9_look q.1 = q.2)) = true := by decide +kernel
theorem dX9_look_0 : decode cX9_look 0 = .ok (.aload_n 0, 1) := dec_of (decode cX9_look) da_154 0 rfl
theorem dX9_look_1 : decode cX9_look 1 = .ok (.iload_n 1, 1) := dec_of (decode cX9_look) da_154 1 rfl
theorem dX9_look_2 : decode cX9_look 2 = .ok (.invokevirtual 104, 3) := dec_of (decode cX9_look) da_154 2 rfl
theorem dX9_look_5 : decode cX9_look 5 = .ok (.ifCond .ne 13, 3) := dec_of (decode cX9_look) da_154 3 rfl
theorem dX9_look_8 : decode cX9_look 8 = .ok (.new 108, 3) := dec_of (decode cX9_look) da_154 4 rfl
theorem dX9_look_11 : decode cX9_look 11 = .ok (.dup, 1) := dec_of (decode cX9_look) da_154 5 rfl
theorem dX9_look_12 : decode cX9_look 12 = .ok (.ldc 110, 2) := dec_of (decode cX9_look) da_154 6 rfl
theorem dX9_look_14 : decode cX9_look 14 = .ok (.invokespecial 112, 3) := dec_of (decode cX9_look) da_154 7 rfl
theorem dX9_look_17 : decode cX9_look 17 = .ok (.athrow, 1) := dec_of (decode cX9_look) da_154 8 rfl
theorem dX9_look_18 : decode cX9_look 18 = .ok (.iload_n 2, 1) := dec_of (decode cX9_look) da_154 9 rfl
theorem dX9_look_19 : decode cX9_look 19 = .ok (.tableswitch 174 0 10 #[57, 70, 83, 93, 103, 113, 122, 132, 141, 151, 161], 57) := dec_of (decode cX9_look) da_154 10 rfl
theorem dX9_look_76 : decode cX9_look 76 = .ok (.aload_n 0, 1) := dec_of (decode cX9_look) da_154 11 rfl
theorem dX9_look_77 : decode cX9_look 77 = .ok (.getfield 19, 3) := dec_of (decode cX9_look) da_154 12 rfl
theorem dX9_look_80 : decode cX9_look 80 = .ok (.getfield 115, 3) := dec_of (decode cX9_look) da_154 13 rfl
theorem dX9_look_83 : decode cX9_look 83 = .ok (.iload_n 1, 1) := dec_of (decode cX9_look) da_154 14 rfl
theorem dX9_look_84 : decode cX9_look 84 = .ok (.aaload, 1) := dec_of (decode cX9_look) da_154 15 rfl
theorem dX9_look_85 : decode cX9_look 85 = .ok (.getfield 119, 3) := dec_of (decode cX9_look) da_154 16 rfl
theorem dX9_look_88 : decode cX9_look 88 = .ok (.ireturn, 1) := dec_of (decode cX9_look) da_154 17 rfl
theorem dX9_look_89 : decode cX9_look 89 = .ok (.aload_n 0, 1) := dec_of (decode cX9_look) da_154 18 rfl
theorem dX9_look_90 : decode cX9_look 90 = .ok (.getfield 19, 3) := dec_of (decode cX9_look) da_154 19 rfl
theorem dX9_look_93 : decode cX9_look 93 = .ok (.getfield 115, 3) := dec_of (decode cX9_look) da_154 20 rfl
theorem dX9_look_96 : decode cX9_look 96 = .ok (.iload_n 1, 1) := dec_of (decode cX9_look) da_154 21 rfl
theorem dX9_look_97 : decode cX9_look 97 = .ok (.aaload, 1) := dec_of (decode cX9_look) da_154 22 rfl
theorem dX9_look_98 : decode cX9_look 98 = .ok (.getfield 124, 3) := dec_of (decode cX9_look) da_154 23 rfl
theorem dX9_look_101 : decode cX9_look 101 = .ok (.ireturn, 1) := dec_of (decode cX9_look) da_154 24 rfl
theorem dX9_look_102 : decode cX9_look 102 = .ok (.aload_n 0, 1) := dec_of (decode cX9_look) da_154 25 rfl
theorem dX9_look_103 : decode cX9_look 103 = .ok (.getfield 29, 3) := dec_of (decode cX9_look) da_154 26 rfl
theorem dX9_look_106 : decode cX9_look 106 = .ok (.getfield 127, 3) := dec_of (decode cX9_look) da_154 27 rfl
theorem dX9_look_109 : decode cX9_look 109 = .ok (.iload_n 1, 1) := dec_of (decode cX9_look) da_154 28 rfl
theorem dX9_look_110 : decode cX9_look 110 = .ok (.iaload, 1) := dec_of (decode cX9_look) da_154 29 rfl
theorem dX9_look_111 : decode cX9_look 111 = .ok (.ireturn, 1) := dec_of (decode cX9_look) da_154 30 rfl
theorem dX9_look_112 : decode cX9_look 112 = .ok (.aload_n 0, 1) := dec_of (decode cX9_look) da_154 31 rfl
theorem dX9_look_113 : decode cX9_look 113 = .ok (.getfield 29, 3) := dec_of (decode cX9_look) da_154 32 rfl
theorem dX9_look_116 : decode cX9_look 116 = .ok (.getfield 130, 3) := dec_of (decode cX9_look) da_154 33 rfl
theorem dX9_look_119 : decode cX9_look 119 = .ok (.iload_n 1, 1) := dec_of (decode cX9_look) da_154 34 rfl
theorem dX9_look_120 : decode cX9_look 120 = .ok (.iaload, 1) := dec_of (decode cX9_look) da_154 35 rfl
theorem dX9_look_121 : decode cX9_look 121 = .ok (.ireturn, 1) := dec_of (decode cX9_look) da_154 36 rfl
theorem dX9_look_122 : decode cX9_look 122 = .ok (.aload_n 0, 1) := dec_of (decode cX9_look) da_154 37 rfl
theorem dX9_look_123 : decode cX9_look 123 = .ok (.getfield 29, 3) := dec_of (decode cX9_look) da_154 38 rfl
theorem dX9_look_126 : decode cX9_look 126 = .ok (.getfield 133, 3) := dec_of (decode cX9_look) da_154 39 rfl
abbrev dl_155 : List (Nat × Except DecodeError (Instr × Nat)) := [(129, .ok (.iload_n 1, 1)), (130, .ok (.iaload, 1)), (131, .ok (.ireturn, 1)), (132, .ok (.aload_n 0, 1)), (133, .ok (.getfield 29, 3)), (136, .ok (.iload_n 1, 1)), (137, .ok (.invokevirtual 136, 3)), (140, .ok (.ireturn, 1)), (141, .ok (.aload_n 0, 1)), (142, .ok (.getfield 29, 3)), (145, .ok (.getfield 139, 3)), (148, .ok (.iload_n 1, 1)), (149, .ok (.iaload, 1)), (150, .ok (.ireturn, 1)), (151, .ok (.aload_n 0, 1)), (152, .ok (.getfield 29, 3)), (155, .ok (.iload_n 1, 1)), (156, .ok (.invokevirtual 142, 3)), (159, .ok (.ireturn, 1)), (160, .ok (.aload_n 0, 1)), (161, .ok (.getfield 29, 3)), (164, .ok (.getfield 145, 3)), (167, .ok (.iload_n 1, 1)), (168, .ok (.iaload, 1)), (169, .ok (.ireturn, 1)), (170, .ok (.aload_n 0, 1)), (171, .ok (.getfield 29, 3)), (174, .ok (.getfield 148, 3)), (177, .ok (.iload_n 1, 1)), (178, .ok (.iaload, 1)), (179, .ok (.ireturn, 1)), (180, .ok (.aload_n 0, 1)), (181, .ok (.getfield 19, 3)), (184, .ok (.getfield 115, 3)), (187, .ok (.iload_n 1, 1)), (188, .ok (.aaload, 1)), (189, .ok (.getfield 151, 3)), (192, .ok (.ireturn, 1)), (193, .ok (.new 154, 3)), (196, .ok (.dup, 1))]
theorem da_155 : dl_155.all (fun q => decide (decode cX9_look q.1 = q.2)) = true := by decide +kernel
theorem dX9_look_129 : decode cX9_look 129 = .ok (.iload_n 1, 1) := dec_of (decode cX9_look) da_155 0 rfl
theorem dX9_look_130 : decode cX9_look 130 = .ok (.iaload, 1) := dec_of (decode cX9_look) da_155 1 rfl
theorem dX9_look_131 : decode cX9_look 131 = .ok (.ireturn, 1) := dec_of (decode cX9_look) da_155 2 rfl
theorem dX9_look_132 : decode cX9_look 132 = .ok (.aload_n 0, 1) := dec_of (decode cX9_look) da_155 3 rfl
theorem dX9_look_133 : decode cX9_look 133 = .ok (.getfield 29, 3) := dec_of (decode cX9_look) da_155 4 rfl
theorem dX9_look_136 : decode cX9_look 136 = .ok (.iload_n 1, 1) := dec_of (decode cX9_look) da_155 5 rfl
theorem dX9_look_137 : decode cX9_look 137 = .ok (.invokevirtual 136, 3) := dec_of (decode cX9_look) da_155 6 rfl
theorem dX9_look_140 : decode cX9_look 140 = .ok (.ireturn, 1) := dec_of (decode cX9_look) da_155 7 rfl
theorem dX9_look_141 : decode cX9_look 141 = .ok (.aload_n 0, 1) := dec_of (decode cX9_look) da_155 8 rfl
theorem dX9_look_142 : decode cX9_look 142 = .ok (.getfield 29, 3) := dec_of (decode cX9_look) da_155 9 rfl
theorem dX9_look_145 : decode cX9_look 145 = .ok (.getfield 139, 3) := dec_of (decode cX9_look) da_155 10 rfl
theorem dX9_look_148 : decode cX9_look 148 = .ok (.iload_n 1, 1) := dec_of (decode cX9_look) da_155 11 rfl
theorem dX9_look_149 : decode cX9_look 149 = .ok (.iaload, 1) := dec_of (decode cX9_look) da_155 12 rfl
theorem dX9_look_150 : decode cX9_look 150 = .ok (.ireturn, 1) := dec_of (decode cX9_look) da_155 13 rfl
theorem dX9_look_151 : decode cX9_look 151 = .ok (.aload_n 0, 1) := dec_of (decode cX9_look) da_155 14 rfl
theorem dX9_look_152 : decode cX9_look 152 = .ok (.getfield 29, 3) := dec_of (decode cX9_look) da_155 15 rfl
theorem dX9_look_155 : decode cX9_look 155 = .ok (.iload_n 1, 1) := dec_of (decode cX9_look) da_155 16 rfl
theorem dX9_look_156 : decode cX9_look 156 = .ok (.invokevirtual 142, 3) := dec_of (decode cX9_look) da_155 17 rfl
theorem dX9_look_159 : decode cX9_look 159 = .ok (.ireturn, 1) := dec_of (decode cX9_look) da_155 18 rfl
theorem dX9_look_160 : decode cX9_look 160 = .ok (.aload_n 0, 1) := dec_of (decode cX9_look) da_155 19 rfl
theorem dX9_look_161 : decode cX9_look 161 = .ok (.getfield 29, 3) := dec_of (decode cX9_look) da_155 20 rfl
theorem dX9_look_164 : decode cX9_look 164 = .ok (.getfield 145, 3) := dec_of (decode cX9_look) da_155 21 rfl
theorem dX9_look_167 : decode cX9_look 167 = .ok (.iload_n 1, 1) := dec_of (decode cX9_look) da_155 22 rfl
theorem dX9_look_168 : decode cX9_look 168 = .ok (.iaload, 1) := dec_of (decode cX9_look) da_155 23 rfl
theorem dX9_look_169 : decode cX9_look 169 = .ok (.ireturn, 1) := dec_of (decode cX9_look) da_155 24 rfl
theorem dX9_look_170 : decode cX9_look 170 = .ok (.aload_n 0, 1) := dec_of (decode cX9_look) da_155 25 rfl
theorem dX9_look_171 : decode cX9_look 171 = .ok (.getfield 29, 3) := dec_of (decode cX9_look) da_155 26 rfl
theorem dX9_look_174 : decode cX9_look 174 = .ok (.getfield 148, 3) := dec_of (decode cX9_look) da_155 27 rfl
theorem dX9_look_177 : decode cX9_look 177 = .ok (.iload_n 1, 1) := dec_of (decode cX9_look) da_155 28 rfl
theorem dX9_look_178 : decode cX9_look 178 = .ok (.iaload, 1) := dec_of (decode cX9_look) da_155 29 rfl
theorem dX9_look_179 : decode cX9_look 179 = .ok (.ireturn, 1) := dec_of (decode cX9_look) da_155 30 rfl
theorem dX9_look_180 : decode cX9_look 180 = .ok (.aload_n 0, 1) := dec_of (decode cX9_look) da_155 31 rfl
theorem dX9_look_181 : decode cX9_look 181 = .ok (.getfield 19, 3) := dec_of (decode cX9_look) da_155 32 rfl
theorem dX9_look_184 : decode cX9_look 184 = .ok (.getfield 115, 3) := dec_of (decode cX9_look) da_155 33 rfl
theorem dX9_look_187 : decode cX9_look 187 = .ok (.iload_n 1, 1) := dec_of (decode cX9_look) da_155 34 rfl
theorem dX9_look_188 : decode cX9_look 188 = .ok (.aaload, 1) := dec_of (decode cX9_look) da_155 35 rfl
theorem dX9_look_189 : decode cX9_look 189 = .ok (.getfield 151, 3) := dec_of (decode cX9_look) da_155 36 rfl
theorem dX9_look_192 : decode cX9_look 192 = .ok (.ireturn, 1) := dec_of (decode cX9_look) da_155 37 rfl
theorem dX9_look_193 : decode cX9_look 193 = .ok (.new 154, 3) := dec_of (decode cX9_look) da_155 38 rfl
theorem dX9_look_196 : decode cX9_look 196 = .ok (.dup, 1) := dec_of (decode cX9_look) da_155 39 rfl
abbrev dl_156 : List (Nat × Except DecodeError (Instr × Nat)) := [(197, .ok (.ldc 156, 2)), (199, .ok (.invokespecial 158, 3)), (202, .ok (.athrow, 1))]
theorem da_156 : dl_156.all (fun q => decide (decode cX9_look q.1 = q.2)) = true := by decide +kernel
theorem dX9_look_197 : decode cX9_look 197 = .ok (.ldc 156, 2) := dec_of (decode cX9_look) da_156 0 rfl
theorem dX9_look_199 : decode cX9_look 199 = .ok (.invokespecial 158, 3) := dec_of (decode cX9_look) da_156 1 rfl
theorem dX9_look_202 : decode cX9_look 202 = .ok (.athrow, 1) := dec_of (decode cX9_look) da_156 2 rfl
abbrev dl_157 : List (Nat × Except DecodeError (Instr × Nat)) := [(0, .ok (.aload_n 0, 1)), (1, .ok (.iload_n 1, 1)), (2, .ok (.invokevirtual 159, 3)), (5, .ok (.ifCond .eq 14, 3)), (8, .ok (.aload_n 0, 1)), (9, .ok (.getfield 29, 3)), (12, .ok (.iload_n 1, 1)), (13, .ok (.invokevirtual 162, 3)), (16, .ok (.goto 4, 3)), (19, .ok (.iconst (-1), 1)), (20, .ok (.ireturn, 1))]
theorem da_157 : dl_157.all (fun q => decide (decode cX9_stands q.1 = q.2)) = true := by decide +kernel
theorem dX9_stands_0 : decode cX9_stands 0 = .ok (.aload_n 0, 1) := dec_of (decode cX9_stands) da_157 0 rfl
theorem dX9_stands_1 : decode cX9_stands 1 = .ok (.iload_n 1, 1) := dec_of (decode cX9_stands) da_157 1 rfl
theorem dX9_stands_2 : decode cX9_stands 2 = .ok (.invokevirtual 159, 3) := dec_of (decode cX9_stands) da_157 2 rfl
theorem dX9_stands_5 : decode cX9_stands 5 = .ok (.ifCond .eq 14, 3) := dec_of (decode cX9_stands) da_157 3 rfl
theorem dX9_stands_8 : decode cX9_stands 8 = .ok (.aload_n 0, 1) := dec_of (decode cX9_stands) da_157 4 rfl
theorem dX9_stands_9 : decode cX9_stands 9 = .ok (.getfield 29, 3) := dec_of (decode cX9_stands) da_157 5 rfl
theorem dX9_stands_12 : decode cX9_stands 12 = .ok (.iload_n 1, 1) := dec_of (decode cX9_stands) da_157 6 rfl
theorem dX9_stands_13 : decode cX9_stands 13 = .ok (.invokevirtual 162, 3) := dec_of (decode cX9_stands) da_157 7 rfl
theorem dX9_stands_16 : decode cX9_stands 16 = .ok (.goto 4, 3) := dec_of (decode cX9_stands) da_157 8 rfl
theorem dX9_stands_19 : decode cX9_stands 19 = .ok (.iconst (-1), 1) := dec_of (decode cX9_stands) da_157 9 rfl
theorem dX9_stands_20 : decode cX9_stands 20 = .ok (.ireturn, 1) := dec_of (decode cX9_stands) da_157 10 rfl
abbrev dl_158 : List (Nat × Except DecodeError (Instr × Nat)) := [(0, .ok (.aload_n 0, 1)), (1, .ok (.iload_n 1, 1)), (2, .ok (.invokevirtual 165, 3)), (5, .ok (.ifCond .eq 22, 3)), (8, .ok (.aload_n 0, 1)), (9, .ok (.getfield 29, 3)), (12, .ok (.aload_n 0, 1)), (13, .ok (.getfield 29, 3)), (16, .ok (.getfield 168, 3)), (19, .ok (.iload_n 1, 1)), (20, .ok (.iaload, 1)), (21, .ok (.invokevirtual 162, 3)), (24, .ok (.goto 4, 3)), (27, .ok (.iconst (-1), 1)), (28, .ok (.ireturn, 1))]
theorem da_158 : dl_158.all (fun q => decide (decode cX9_holder q.1 = q.2)) = true := by decide +kernel
theorem dX9_holder_0 : decode cX9_holder 0 = .ok (.aload_n 0, 1) := dec_of (decode cX9_holder) da_158 0 rfl
theorem dX9_holder_1 : decode cX9_holder 1 = .ok (.iload_n 1, 1) := dec_of (decode cX9_holder) da_158 1 rfl
theorem dX9_holder_2 : decode cX9_holder 2 = .ok (.invokevirtual 165, 3) := dec_of (decode cX9_holder) da_158 2 rfl
theorem dX9_holder_5 : decode cX9_holder 5 = .ok (.ifCond .eq 22, 3) := dec_of (decode cX9_holder) da_158 3 rfl
theorem dX9_holder_8 : decode cX9_holder 8 = .ok (.aload_n 0, 1) := dec_of (decode cX9_holder) da_158 4 rfl
theorem dX9_holder_9 : decode cX9_holder 9 = .ok (.getfield 29, 3) := dec_of (decode cX9_holder) da_158 5 rfl
theorem dX9_holder_12 : decode cX9_holder 12 = .ok (.aload_n 0, 1) := dec_of (decode cX9_holder) da_158 6 rfl
theorem dX9_holder_13 : decode cX9_holder 13 = .ok (.getfield 29, 3) := dec_of (decode cX9_holder) da_158 7 rfl
theorem dX9_holder_16 : decode cX9_holder 16 = .ok (.getfield 168, 3) := dec_of (decode cX9_holder) da_158 8 rfl
theorem dX9_holder_19 : decode cX9_holder 19 = .ok (.iload_n 1, 1) := dec_of (decode cX9_holder) da_158 9 rfl
theorem dX9_holder_20 : decode cX9_holder 20 = .ok (.iaload, 1) := dec_of (decode cX9_holder) da_158 10 rfl
theorem dX9_holder_21 : decode cX9_holder 21 = .ok (.invokevirtual 162, 3) := dec_of (decode cX9_holder) da_158 11 rfl
theorem dX9_holder_24 : decode cX9_holder 24 = .ok (.goto 4, 3) := dec_of (decode cX9_holder) da_158 12 rfl
theorem dX9_holder_27 : decode cX9_holder 27 = .ok (.iconst (-1), 1) := dec_of (decode cX9_holder) da_158 13 rfl
theorem dX9_holder_28 : decode cX9_holder 28 = .ok (.ireturn, 1) := dec_of (decode cX9_holder) da_158 14 rfl
abbrev dl_159 : List (Nat × Except DecodeError (Instr × Nat)) := [(0, .ok (.iload_n 1, 1)), (1, .ok (.ifCond .lt 8, 3)), (4, .ok (.iload_n 1, 1)), (5, .ok (.iconst 3, 1)), (6, .ok (.if_icmp .lt 7, 3)), (9, .ok (.ldc2_w 173, 3)), (12, .ok (.lreturn, 1)), (13, .ok (.iload_n 1, 1)), (14, .ok (.iconst 2, 1)), (15, .ok (.if_icmp .ne 28, 3)), (18, .ok (.aload_n 0, 1)), (19, .ok (.getfield 19, 3)), (22, .ok (.getfield 175, 3)), (25, .ok (.iload_n 1, 1)), (26, .ok (.aaload, 1)), (27, .ok (.aload_n 0, 1)), (28, .ok (.getfield 29, 3)), (31, .ok (.iconst 0, 1)), (32, .ok (.aload_n 0, 1)), (33, .ok (.getfield 29, 3)), (36, .ok (.getfield 179, 3)), (39, .ok (.invokevirtual 182, 3)), (42, .ok (.lreturn, 1)), (43, .ok (.aload_n 0, 1)), (44, .ok (.getfield 29, 3)), (47, .ok (.iload_n 2, 1)), (48, .ok (.invokevirtual 136, 3)), (51, .ok (.istore_n 3, 1)), (52, .ok (.aload_n 0, 1)), (53, .ok (.getfield 19, 3)), (56, .ok (.getfield 175, 3)), (59, .ok (.iload_n 1, 1)), (60, .ok (.aaload, 1)), (61, .ok (.aload_n 0, 1)), (62, .ok (.getfield 29, 3)), (65, .ok (.iload_n 3, 1)), (66, .ok (.iload_n 3, 1)), (67, .ok (.invokevirtual 182, 3)), (70, .ok (.lreturn, 1))]
theorem da_159 : dl_159.all (fun q => decide (decode cX9_law q.1 = q.2)) = true := by decide +kernel
theorem dX9_law_0 : decode cX9_law 0 = .ok (.iload_n 1, 1) := dec_of (decode cX9_law) da_159 0 rfl
theorem dX9_law_1 : decode cX9_law 1 = .ok (.ifCond .lt 8, 3) := dec_of (decode cX9_law) da_159 1 rfl
theorem dX9_law_4 : decode cX9_law 4 = .ok (.iload_n 1, 1) := dec_of (decode cX9_law) da_159 2 rfl
theorem dX9_law_5 : decode cX9_law 5 = .ok (.iconst 3, 1) := dec_of (decode cX9_law) da_159 3 rfl
theorem dX9_law_6 : decode cX9_law 6 = .ok (.if_icmp .lt 7, 3) := dec_of (decode cX9_law) da_159 4 rfl
theorem dX9_law_9 : decode cX9_law 9 = .ok (.ldc2_w 173, 3) := dec_of (decode cX9_law) da_159 5 rfl
theorem dX9_law_12 : decode cX9_law 12 = .ok (.lreturn, 1) := dec_of (decode cX9_law) da_159 6 rfl
theorem dX9_law_13 : decode cX9_law 13 = .ok (.iload_n 1, 1) := dec_of (decode cX9_law) da_159 7 rfl
theorem dX9_law_14 : decode cX9_law 14 = .ok (.iconst 2, 1) := dec_of (decode cX9_law) da_159 8 rfl
theorem dX9_law_15 : decode cX9_law 15 = .ok (.if_icmp .ne 28, 3) := dec_of (decode cX9_law) da_159 9 rfl
theorem dX9_law_18 : decode cX9_law 18 = .ok (.aload_n 0, 1) := dec_of (decode cX9_law) da_159 10 rfl
theorem dX9_law_19 : decode cX9_law 19 = .ok (.getfield 19, 3) := dec_of (decode cX9_law) da_159 11 rfl
theorem dX9_law_22 : decode cX9_law 22 = .ok (.getfield 175, 3) := dec_of (decode cX9_law) da_159 12 rfl
theorem dX9_law_25 : decode cX9_law 25 = .ok (.iload_n 1, 1) := dec_of (decode cX9_law) da_159 13 rfl
theorem dX9_law_26 : decode cX9_law 26 = .ok (.aaload, 1) := dec_of (decode cX9_law) da_159 14 rfl
theorem dX9_law_27 : decode cX9_law 27 = .ok (.aload_n 0, 1) := dec_of (decode cX9_law) da_159 15 rfl
theorem dX9_law_28 : decode cX9_law 28 = .ok (.getfield 29, 3) := dec_of (decode cX9_law) da_159 16 rfl
theorem dX9_law_31 : decode cX9_law 31 = .ok (.iconst 0, 1) := dec_of (decode cX9_law) da_159 17 rfl
theorem dX9_law_32 : decode cX9_law 32 = .ok (.aload_n 0, 1) := dec_of (decode cX9_law) da_159 18 rfl
theorem dX9_law_33 : decode cX9_law 33 = .ok (.getfield 29, 3) := dec_of (decode cX9_law) da_159 19 rfl
theorem dX9_law_36 : decode cX9_law 36 = .ok (.getfield 179, 3) := dec_of (decode cX9_law) da_159 20 rfl
theorem dX9_law_39 : decode cX9_law 39 = .ok (.invokevirtual 182, 3) := dec_of (decode cX9_law) da_159 21 rfl
theorem dX9_law_42 : decode cX9_law 42 = .ok (.lreturn, 1) := dec_of (decode cX9_law) da_159 22 rfl
theorem dX9_law_43 : decode cX9_law 43 = .ok (.aload_n 0, 1) := dec_of (decode cX9_law) da_159 23 rfl
theorem dX9_law_44 : decode cX9_law 44 = .ok (.getfield 29, 3) := dec_of (decode cX9_law) da_159 24 rfl
theorem dX9_law_47 : decode cX9_law 47 = .ok (.iload_n 2, 1) := dec_of (decode cX9_law) da_159 25 rfl
theorem dX9_law_48 : decode cX9_law 48 = .ok (.invokevirtual 136, 3) := dec_of (decode cX9_law) da_159 26 rfl
theorem dX9_law_51 : decode cX9_law 51 = .ok (.istore_n 3, 1) := dec_of (decode cX9_law) da_159 27 rfl
theorem dX9_law_52 : decode cX9_law 52 = .ok (.aload_n 0, 1) := dec_of (decode cX9_law) da_159 28 rfl
theorem dX9_law_53 : decode cX9_law 53 = .ok (.getfield 19, 3) := dec_of (decode cX9_law) da_159 29 rfl
theorem dX9_law_56 : decode cX9_law 56 = .ok (.getfield 175, 3) := dec_of (decode cX9_law) da_159 30 rfl
theorem dX9_law_59 : decode cX9_law 59 = .ok (.iload_n 1, 1) := dec_of (decode cX9_law) da_159 31 rfl
theorem dX9_law_60 : decode cX9_law 60 = .ok (.aaload, 1) := dec_of (decode cX9_law) da_159 32 rfl
theorem dX9_law_61 : decode cX9_law 61 = .ok (.aload_n 0, 1) := dec_of (decode cX9_law) da_159 33 rfl
theorem dX9_law_62 : decode cX9_law 62 = .ok (.getfield 29, 3) := dec_of (decode cX9_law) da_159 34 rfl
theorem dX9_law_65 : decode cX9_law 65 = .ok (.iload_n 3, 1) := dec_of (decode cX9_law) da_159 35 rfl
theorem dX9_law_66 : decode cX9_law 66 = .ok (.iload_n 3, 1) := dec_of (decode cX9_law) da_159 36 rfl
theorem dX9_law_67 : decode cX9_law 67 = .ok (.invokevirtual 182, 3) := dec_of (decode cX9_law) da_159 37 rfl
theorem dX9_law_70 : decode cX9_law 70 = .ok (.lreturn, 1) := dec_of (decode cX9_law) da_159 38 rfl
abbrev dl_160 : List (Nat × Except DecodeError (Instr × Nat)) := [(0, .ok (.iload_n 1, 1)), (1, .ok (.ifCond .lt 17, 3)), (4, .ok (.iload_n 1, 1)), (5, .ok (.bipush 120, 2)), (7, .ok (.aload_n 0, 1)), (8, .ok (.getfield 29, 3)), (11, .ok (.getfield 186, 3)), (14, .ok (.isub, 1)), (15, .ok (.if_icmp .le 5, 3)), (18, .ok (.iconst (-1), 1)), (19, .ok (.ireturn, 1)), (20, .ok (.iconst 0, 1)), (21, .ok (.istore_n 2, 1)), (22, .ok (.iload_n 2, 1)), (23, .ok (.iload_n 1, 1)), (24, .ok (.if_icmp .ge 29, 3)), (27, .ok (.aload_n 0, 1)), (28, .ok (.getfield 29, 3)), (31, .ok (.invokevirtual 189, 3)), (34, .ok (.aload_n 0, 1)), (35, .ok (.aload_n 0, 1)), (36, .ok (.getfield 29, 3)), (39, .ok (.getfield 186, 3)), (42, .ok (.iconst 1, 1)), (43, .ok (.isub, 1)), (44, .ok (.invokevirtual 192, 3)), (47, .ok (.iinc 2 1, 3)), (50, .ok (.goto (-28), 3)), (53, .ok (.iload_n 1, 1)), (54, .ok (.ifCond .le 10, 3)), (57, .ok (.aload_n 0, 1)), (58, .ok (.getfield 40, 3)), (61, .ok (.invokevirtual 87, 3)), (64, .ok (.aload_n 0, 1)), (65, .ok (.getfield 29, 3)), (68, .ok (.getfield 186, 3)), (71, .ok (.ireturn, 1))]
theorem da_160 : dl_160.all (fun q => decide (decode cX9_go q.1 = q.2)) = true := by decide +kernel
theorem dX9_go_0 : decode cX9_go 0 = .ok (.iload_n 1, 1) := dec_of (decode cX9_go) da_160 0 rfl
theorem dX9_go_1 : decode cX9_go 1 = .ok (.ifCond .lt 17, 3) := dec_of (decode cX9_go) da_160 1 rfl
theorem dX9_go_4 : decode cX9_go 4 = .ok (.iload_n 1, 1) := dec_of (decode cX9_go) da_160 2 rfl
theorem dX9_go_5 : decode cX9_go 5 = .ok (.bipush 120, 2) := dec_of (decode cX9_go) da_160 3 rfl
theorem dX9_go_7 : decode cX9_go 7 = .ok (.aload_n 0, 1) := dec_of (decode cX9_go) da_160 4 rfl
theorem dX9_go_8 : decode cX9_go 8 = .ok (.getfield 29, 3) := dec_of (decode cX9_go) da_160 5 rfl
theorem dX9_go_11 : decode cX9_go 11 = .ok (.getfield 186, 3) := dec_of (decode cX9_go) da_160 6 rfl
theorem dX9_go_14 : decode cX9_go 14 = .ok (.isub, 1) := dec_of (decode cX9_go) da_160 7 rfl
theorem dX9_go_15 : decode cX9_go 15 = .ok (.if_icmp .le 5, 3) := dec_of (decode cX9_go) da_160 8 rfl
theorem dX9_go_18 : decode cX9_go 18 = .ok (.iconst (-1), 1) := dec_of (decode cX9_go) da_160 9 rfl
theorem dX9_go_19 : decode cX9_go 19 = .ok (.ireturn, 1) := dec_of (decode cX9_go) da_160 10 rfl
theorem dX9_go_20 : decode cX9_go 20 = .ok (.iconst 0, 1) := dec_of (decode cX9_go) da_160 11 rfl
theorem dX9_go_21 : decode cX9_go 21 = .ok (.istore_n 2, 1) := dec_of (decode cX9_go) da_160 12 rfl
theorem dX9_go_22 : decode cX9_go 22 = .ok (.iload_n 2, 1) := dec_of (decode cX9_go) da_160 13 rfl
theorem dX9_go_23 : decode cX9_go 23 = .ok (.iload_n 1, 1) := dec_of (decode cX9_go) da_160 14 rfl
theorem dX9_go_24 : decode cX9_go 24 = .ok (.if_icmp .ge 29, 3) := dec_of (decode cX9_go) da_160 15 rfl
theorem dX9_go_27 : decode cX9_go 27 = .ok (.aload_n 0, 1) := dec_of (decode cX9_go) da_160 16 rfl
theorem dX9_go_28 : decode cX9_go 28 = .ok (.getfield 29, 3) := dec_of (decode cX9_go) da_160 17 rfl
theorem dX9_go_31 : decode cX9_go 31 = .ok (.invokevirtual 189, 3) := dec_of (decode cX9_go) da_160 18 rfl
theorem dX9_go_34 : decode cX9_go 34 = .ok (.aload_n 0, 1) := dec_of (decode cX9_go) da_160 19 rfl
theorem dX9_go_35 : decode cX9_go 35 = .ok (.aload_n 0, 1) := dec_of (decode cX9_go) da_160 20 rfl
theorem dX9_go_36 : decode cX9_go 36 = .ok (.getfield 29, 3) := dec_of (decode cX9_go) da_160 21 rfl
theorem dX9_go_39 : decode cX9_go 39 = .ok (.getfield 186, 3) := dec_of (decode cX9_go) da_160 22 rfl
theorem dX9_go_42 : decode cX9_go 42 = .ok (.iconst 1, 1) := dec_of (decode cX9_go) da_160 23 rfl
theorem dX9_go_43 : decode cX9_go 43 = .ok (.isub, 1) := dec_of (decode cX9_go) da_160 24 rfl
theorem dX9_go_44 : decode cX9_go 44 = .ok (.invokevirtual 192, 3) := dec_of (decode cX9_go) da_160 25 rfl
theorem dX9_go_47 : decode cX9_go 47 = .ok (.iinc 2 1, 3) := dec_of (decode cX9_go) da_160 26 rfl
theorem dX9_go_50 : decode cX9_go 50 = .ok (.goto (-28), 3) := dec_of (decode cX9_go) da_160 27 rfl
theorem dX9_go_53 : decode cX9_go 53 = .ok (.iload_n 1, 1) := dec_of (decode cX9_go) da_160 28 rfl
theorem dX9_go_54 : decode cX9_go 54 = .ok (.ifCond .le 10, 3) := dec_of (decode cX9_go) da_160 29 rfl
theorem dX9_go_57 : decode cX9_go 57 = .ok (.aload_n 0, 1) := dec_of (decode cX9_go) da_160 30 rfl
theorem dX9_go_58 : decode cX9_go 58 = .ok (.getfield 40, 3) := dec_of (decode cX9_go) da_160 31 rfl
theorem dX9_go_61 : decode cX9_go 61 = .ok (.invokevirtual 87, 3) := dec_of (decode cX9_go) da_160 32 rfl
theorem dX9_go_64 : decode cX9_go 64 = .ok (.aload_n 0, 1) := dec_of (decode cX9_go) da_160 33 rfl
theorem dX9_go_65 : decode cX9_go 65 = .ok (.getfield 29, 3) := dec_of (decode cX9_go) da_160 34 rfl
theorem dX9_go_68 : decode cX9_go 68 = .ok (.getfield 186, 3) := dec_of (decode cX9_go) da_160 35 rfl
theorem dX9_go_71 : decode cX9_go 71 = .ok (.ireturn, 1) := dec_of (decode cX9_go) da_160 36 rfl
abbrev dl_161 : List (Nat × Except DecodeError (Instr × Nat)) := [(0, .ok (.iconst 0, 1)), (1, .ok (.istore_n 2, 1)), (2, .ok (.iload_n 2, 1)), (3, .ok (.iconst 3, 1)), (4, .ok (.if_icmp .ge 36, 3)), (7, .ok (.aload_n 0, 1)), (8, .ok (.getfield 33, 3)), (11, .ok (.iload_n 2, 1)), (12, .ok (.bipush 120, 2)), (14, .ok (.imul, 1)), (15, .ok (.iload_n 1, 1)), (16, .ok (.iadd, 1)), (17, .ok (.aload_n 0, 1)), (18, .ok (.getfield 29, 3)), (21, .ok (.aload_n 0, 1)), (22, .ok (.getfield 29, 3)), (25, .ok (.getfield 168, 3)), (28, .ok (.iload_n 2, 1)), (29, .ok (.iaload, 1)), (30, .ok (.invokevirtual 162, 3)), (33, .ok (.iastore, 1)), (34, .ok (.iinc 2 1, 3)), (37, .ok (.goto (-35), 3)), (40, .ok (.return_, 1))]
theorem da_161 : dl_161.all (fun q => decide (decode cX9_recordHolders q.1 = q.2)) = true := by decide +kernel
theorem dX9_recordHolders_0 : decode cX9_recordHolders 0 = .ok (.iconst 0, 1) := dec_of (decode cX9_recordHolders) da_161 0 rfl
theorem dX9_recordHolders_1 : decode cX9_recordHolders 1 = .ok (.istore_n 2, 1) := dec_of (decode cX9_recordHolders) da_161 1 rfl
theorem dX9_recordHolders_2 : decode cX9_recordHolders 2 = .ok (.iload_n 2, 1) := dec_of (decode cX9_recordHolders) da_161 2 rfl
theorem dX9_recordHolders_3 : decode cX9_recordHolders 3 = .ok (.iconst 3, 1) := dec_of (decode cX9_recordHolders) da_161 3 rfl
theorem dX9_recordHolders_4 : decode cX9_recordHolders 4 = .ok (.if_icmp .ge 36, 3) := dec_of (decode cX9_recordHolders) da_161 4 rfl
theorem dX9_recordHolders_7 : decode cX9_recordHolders 7 = .ok (.aload_n 0, 1) := dec_of (decode cX9_recordHolders) da_161 5 rfl
theorem dX9_recordHolders_8 : decode cX9_recordHolders 8 = .ok (.getfield 33, 3) := dec_of (decode cX9_recordHolders) da_161 6 rfl
theorem dX9_recordHolders_11 : decode cX9_recordHolders 11 = .ok (.iload_n 2, 1) := dec_of (decode cX9_recordHolders) da_161 7 rfl
theorem dX9_recordHolders_12 : decode cX9_recordHolders 12 = .ok (.bipush 120, 2) := dec_of (decode cX9_recordHolders) da_161 8 rfl
theorem dX9_recordHolders_14 : decode cX9_recordHolders 14 = .ok (.imul, 1) := dec_of (decode cX9_recordHolders) da_161 9 rfl
theorem dX9_recordHolders_15 : decode cX9_recordHolders 15 = .ok (.iload_n 1, 1) := dec_of (decode cX9_recordHolders) da_161 10 rfl
theorem dX9_recordHolders_16 : decode cX9_recordHolders 16 = .ok (.iadd, 1) := dec_of (decode cX9_recordHolders) da_161 11 rfl
theorem dX9_recordHolders_17 : decode cX9_recordHolders 17 = .ok (.aload_n 0, 1) := dec_of (decode cX9_recordHolders) da_161 12 rfl
theorem dX9_recordHolders_18 : decode cX9_recordHolders 18 = .ok (.getfield 29, 3) := dec_of (decode cX9_recordHolders) da_161 13 rfl
theorem dX9_recordHolders_21 : decode cX9_recordHolders 21 = .ok (.aload_n 0, 1) := dec_of (decode cX9_recordHolders) da_161 14 rfl
theorem dX9_recordHolders_22 : decode cX9_recordHolders 22 = .ok (.getfield 29, 3) := dec_of (decode cX9_recordHolders) da_161 15 rfl
theorem dX9_recordHolders_25 : decode cX9_recordHolders 25 = .ok (.getfield 168, 3) := dec_of (decode cX9_recordHolders) da_161 16 rfl
theorem dX9_recordHolders_28 : decode cX9_recordHolders 28 = .ok (.iload_n 2, 1) := dec_of (decode cX9_recordHolders) da_161 17 rfl
theorem dX9_recordHolders_29 : decode cX9_recordHolders 29 = .ok (.iaload, 1) := dec_of (decode cX9_recordHolders) da_161 18 rfl
theorem dX9_recordHolders_30 : decode cX9_recordHolders 30 = .ok (.invokevirtual 162, 3) := dec_of (decode cX9_recordHolders) da_161 19 rfl
theorem dX9_recordHolders_33 : decode cX9_recordHolders 33 = .ok (.iastore, 1) := dec_of (decode cX9_recordHolders) da_161 20 rfl
theorem dX9_recordHolders_34 : decode cX9_recordHolders 34 = .ok (.iinc 2 1, 3) := dec_of (decode cX9_recordHolders) da_161 21 rfl
theorem dX9_recordHolders_37 : decode cX9_recordHolders 37 = .ok (.goto (-35), 3) := dec_of (decode cX9_recordHolders) da_161 22 rfl
theorem dX9_recordHolders_40 : decode cX9_recordHolders 40 = .ok (.return_, 1) := dec_of (decode cX9_recordHolders) da_161 23 rfl
abbrev dl_162 : List (Nat × Except DecodeError (Instr × Nat)) := [(0, .ok (.aload_n 0, 1)), (1, .ok (.iload_n 1, 1)), (2, .ok (.invokevirtual 195, 3)), (5, .ok (.ifCond .ne 5, 3)), (8, .ok (.iconst (-1), 1)), (9, .ok (.ireturn, 1)), (10, .ok (.aload_n 0, 1)), (11, .ok (.getfield 40, 3)), (14, .ok (.aload_n 0, 1)), (15, .ok (.getfield 29, 3)), (18, .ok (.invokevirtual 198, 3)), (21, .ok (.aload_n 0, 1)), (22, .ok (.getfield 29, 3)), (25, .ok (.iload_n 1, 1)), (26, .ok (.invokevirtual 202, 3)), (29, .ok (.aload_n 0, 1)), (30, .ok (.getfield 29, 3)), (33, .ok (.iload_n 1, 1)), (34, .ok (.invokevirtual 136, 3)), (37, .ok (.ireturn, 1))]
theorem da_162 : dl_162.all (fun q => decide (decode cX9_join q.1 = q.2)) = true := by decide +kernel
theorem dX9_join_0 : decode cX9_join 0 = .ok (.aload_n 0, 1) := dec_of (decode cX9_join) da_162 0 rfl
theorem dX9_join_1 : decode cX9_join 1 = .ok (.iload_n 1, 1) := dec_of (decode cX9_join) da_162 1 rfl
theorem dX9_join_2 : decode cX9_join 2 = .ok (.invokevirtual 195, 3) := dec_of (decode cX9_join) da_162 2 rfl
theorem dX9_join_5 : decode cX9_join 5 = .ok (.ifCond .ne 5, 3) := dec_of (decode cX9_join) da_162 3 rfl
theorem dX9_join_8 : decode cX9_join 8 = .ok (.iconst (-1), 1) := dec_of (decode cX9_join) da_162 4 rfl
theorem dX9_join_9 : decode cX9_join 9 = .ok (.ireturn, 1) := dec_of (decode cX9_join) da_162 5 rfl
theorem dX9_join_10 : decode cX9_join 10 = .ok (.aload_n 0, 1) := dec_of (decode cX9_join) da_162 6 rfl
theorem dX9_join_11 : decode cX9_join 11 = .ok (.getfield 40, 3) := dec_of (decode cX9_join) da_162 7 rfl
theorem dX9_join_14 : decode cX9_join 14 = .ok (.aload_n 0, 1) := dec_of (decode cX9_join) da_162 8 rfl
theorem dX9_join_15 : decode cX9_join 15 = .ok (.getfield 29, 3) := dec_of (decode cX9_join) da_162 9 rfl
theorem dX9_join_18 : decode cX9_join 18 = .ok (.invokevirtual 198, 3) := dec_of (decode cX9_join) da_162 10 rfl
theorem dX9_join_21 : decode cX9_join 21 = .ok (.aload_n 0, 1) := dec_of (decode cX9_join) da_162 11 rfl
theorem dX9_join_22 : decode cX9_join 22 = .ok (.getfield 29, 3) := dec_of (decode cX9_join) da_162 12 rfl
theorem dX9_join_25 : decode cX9_join 25 = .ok (.iload_n 1, 1) := dec_of (decode cX9_join) da_162 13 rfl
theorem dX9_join_26 : decode cX9_join 26 = .ok (.invokevirtual 202, 3) := dec_of (decode cX9_join) da_162 14 rfl
theorem dX9_join_29 : decode cX9_join 29 = .ok (.aload_n 0, 1) := dec_of (decode cX9_join) da_162 15 rfl
theorem dX9_join_30 : decode cX9_join 30 = .ok (.getfield 29, 3) := dec_of (decode cX9_join) da_162 16 rfl
theorem dX9_join_33 : decode cX9_join 33 = .ok (.iload_n 1, 1) := dec_of (decode cX9_join) da_162 17 rfl
theorem dX9_join_34 : decode cX9_join 34 = .ok (.invokevirtual 136, 3) := dec_of (decode cX9_join) da_162 18 rfl
theorem dX9_join_37 : decode cX9_join 37 = .ok (.ireturn, 1) := dec_of (decode cX9_join) da_162 19 rfl
abbrev dl_163 : List (Nat × Except DecodeError (Instr × Nat)) := [(0, .ok (.aload_n 0, 1)), (1, .ok (.iload_n 1, 1)), (2, .ok (.invokevirtual 205, 3)), (5, .ok (.ifCond .ne 5, 3)), (8, .ok (.iconst 0, 1)), (9, .ok (.ireturn, 1)), (10, .ok (.aload_n 0, 1)), (11, .ok (.getfield 40, 3)), (14, .ok (.aload_n 0, 1)), (15, .ok (.getfield 29, 3)), (18, .ok (.invokevirtual 198, 3)), (21, .ok (.aload_n 0, 1)), (22, .ok (.getfield 29, 3)), (25, .ok (.aload_n 0, 1)), (26, .ok (.getfield 29, 3)), (29, .ok (.iload_n 1, 1)), (30, .ok (.invokevirtual 136, 3)), (33, .ok (.iconst 3, 1)), (34, .ok (.invokevirtual 208, 3)), (37, .ok (.iconst 1, 1)), (38, .ok (.ireturn, 1))]
theorem da_163 : dl_163.all (fun q => decide (decode cX9_out q.1 = q.2)) = true := by decide +kernel
theorem dX9_out_0 : decode cX9_out 0 = .ok (.aload_n 0, 1) := dec_of (decode cX9_out) da_163 0 rfl
theorem dX9_out_1 : decode cX9_out 1 = .ok (.iload_n 1, 1) := dec_of (decode cX9_out) da_163 1 rfl
theorem dX9_out_2 : decode cX9_out 2 = .ok (.invokevirtual 205, 3) := dec_of (decode cX9_out) da_163 2 rfl
theorem dX9_out_5 : decode cX9_out 5 = .ok (.ifCond .ne 5, 3) := dec_of (decode cX9_out) da_163 3 rfl
theorem dX9_out_8 : decode cX9_out 8 = .ok (.iconst 0, 1) := dec_of (decode cX9_out) da_163 4 rfl
theorem dX9_out_9 : decode cX9_out 9 = .ok (.ireturn, 1) := dec_of (decode cX9_out) da_163 5 rfl
theorem dX9_out_10 : decode cX9_out 10 = .ok (.aload_n 0, 1) := dec_of (decode cX9_out) da_163 6 rfl
theorem dX9_out_11 : decode cX9_out 11 = .ok (.getfield 40, 3) := dec_of (decode cX9_out) da_163 7 rfl
theorem dX9_out_14 : decode cX9_out 14 = .ok (.aload_n 0, 1) := dec_of (decode cX9_out) da_163 8 rfl
theorem dX9_out_15 : decode cX9_out 15 = .ok (.getfield 29, 3) := dec_of (decode cX9_out) da_163 9 rfl
theorem dX9_out_18 : decode cX9_out 18 = .ok (.invokevirtual 198, 3) := dec_of (decode cX9_out) da_163 10 rfl
theorem dX9_out_21 : decode cX9_out 21 = .ok (.aload_n 0, 1) := dec_of (decode cX9_out) da_163 11 rfl
theorem dX9_out_22 : decode cX9_out 22 = .ok (.getfield 29, 3) := dec_of (decode cX9_out) da_163 12 rfl
theorem dX9_out_25 : decode cX9_out 25 = .ok (.aload_n 0, 1) := dec_of (decode cX9_out) da_163 13 rfl
theorem dX9_out_26 : decode cX9_out 26 = .ok (.getfield 29, 3) := dec_of (decode cX9_out) da_163 14 rfl
theorem dX9_out_29 : decode cX9_out 29 = .ok (.iload_n 1, 1) := dec_of (decode cX9_out) da_163 15 rfl
theorem dX9_out_30 : decode cX9_out 30 = .ok (.invokevirtual 136, 3) := dec_of (decode cX9_out) da_163 16 rfl
theorem dX9_out_33 : decode cX9_out 33 = .ok (.iconst 3, 1) := dec_of (decode cX9_out) da_163 17 rfl
theorem dX9_out_34 : decode cX9_out 34 = .ok (.invokevirtual 208, 3) := dec_of (decode cX9_out) da_163 18 rfl
theorem dX9_out_37 : decode cX9_out 37 = .ok (.iconst 1, 1) := dec_of (decode cX9_out) da_163 19 rfl
theorem dX9_out_38 : decode cX9_out 38 = .ok (.ireturn, 1) := dec_of (decode cX9_out) da_163 20 rfl
abbrev dl_164 : List (Nat × Except DecodeError (Instr × Nat)) := [(0, .ok (.aload_n 0, 1)), (1, .ok (.iload_n 1, 1)), (2, .ok (.invokevirtual 205, 3)), (5, .ok (.ifCond .eq 16, 3)), (8, .ok (.aload_n 0, 1)), (9, .ok (.iload_n 2, 1)), (10, .ok (.invokevirtual 205, 3)), (13, .ok (.ifCond .eq 8, 3)), (16, .ok (.iload_n 1, 1)), (17, .ok (.iload_n 2, 1)), (18, .ok (.if_icmp .ne 5, 3)), (21, .ok (.iconst 0, 1)), (22, .ok (.ireturn, 1)), (23, .ok (.iload_n 3, 1)), (24, .ok (.ifCond .lt 22, 3)), (27, .ok (.iload_n 3, 1)), (28, .ok (.bipush 99, 2)), (30, .ok (.if_icmp .gt 16, 3)), (33, .ok (.iload_n 3, 1)), (34, .ok (.aload_n 0, 1)), (35, .ok (.getfield 29, 3)), (38, .ok (.getfield 133, 3)), (41, .ok (.iload_n 1, 1)), (42, .ok (.iaload, 1)), (43, .ok (.if_icmp .le 5, 3)), (46, .ok (.iconst 0, 1)), (47, .ok (.ireturn, 1)), (48, .ok (.aload_n 0, 1)), (49, .ok (.getfield 40, 3)), (52, .ok (.aload_n 0, 1)), (53, .ok (.getfield 29, 3)), (56, .ok (.invokevirtual 198, 3)), (59, .ok (.aload_n 0, 1)), (60, .ok (.getfield 29, 3)), (63, .ok (.iload_n 1, 1)), (64, .ok (.iload_n 2, 1)), (65, .ok (.invokevirtual 212, 3)), (68, .ok (.aload_n 0, 1)), (69, .ok (.getfield 29, 3)), (72, .ok (.getfield 133, 3))]
theorem da_164 : dl_164.all (fun q => decide (decode cX9_swap q.1 = q.2)) = true := by decide +kernel
theorem dX9_swap_0 : decode cX9_swap 0 = .ok (.aload_n 0, 1) := dec_of (decode cX9_swap) da_164 0 rfl
theorem dX9_swap_1 : decode cX9_swap 1 = .ok (.iload_n 1, 1) := dec_of (decode cX9_swap) da_164 1 rfl
theorem dX9_swap_2 : decode cX9_swap 2 = .ok (.invokevirtual 205, 3) := dec_of (decode cX9_swap) da_164 2 rfl
theorem dX9_swap_5 : decode cX9_swap 5 = .ok (.ifCond .eq 16, 3) := dec_of (decode cX9_swap) da_164 3 rfl
theorem dX9_swap_8 : decode cX9_swap 8 = .ok (.aload_n 0, 1) := dec_of (decode cX9_swap) da_164 4 rfl
theorem dX9_swap_9 : decode cX9_swap 9 = .ok (.iload_n 2, 1) := dec_of (decode cX9_swap) da_164 5 rfl
theorem dX9_swap_10 : decode cX9_swap 10 = .ok (.invokevirtual 205, 3) := dec_of (decode cX9_swap) da_164 6 rfl
theorem dX9_swap_13 : decode cX9_swap 13 = .ok (.ifCond .eq 8, 3) := dec_of (decode cX9_swap) da_164 7 rfl
theorem dX9_swap_16 : decode cX9_swap 16 = .ok (.iload_n 1, 1) := dec_of (decode cX9_swap) da_164 8 rfl
theorem dX9_swap_17 : decode cX9_swap 17 = .ok (.iload_n 2, 1) := dec_of (decode cX9_swap) da_164 9 rfl
theorem dX9_swap_18 : decode cX9_swap 18 = .ok (.if_icmp .ne 5, 3) := dec_of (decode cX9_swap) da_164 10 rfl
theorem dX9_swap_21 : decode cX9_swap 21 = .ok (.iconst 0, 1) := dec_of (decode cX9_swap) da_164 11 rfl
theorem dX9_swap_22 : decode cX9_swap 22 = .ok (.ireturn, 1) := dec_of (decode cX9_swap) da_164 12 rfl
theorem dX9_swap_23 : decode cX9_swap 23 = .ok (.iload_n 3, 1) := dec_of (decode cX9_swap) da_164 13 rfl
theorem dX9_swap_24 : decode cX9_swap 24 = .ok (.ifCond .lt 22, 3) := dec_of (decode cX9_swap) da_164 14 rfl
theorem dX9_swap_27 : decode cX9_swap 27 = .ok (.iload_n 3, 1) := dec_of (decode cX9_swap) da_164 15 rfl
theorem dX9_swap_28 : decode cX9_swap 28 = .ok (.bipush 99, 2) := dec_of (decode cX9_swap) da_164 16 rfl
theorem dX9_swap_30 : decode cX9_swap 30 = .ok (.if_icmp .gt 16, 3) := dec_of (decode cX9_swap) da_164 17 rfl
theorem dX9_swap_33 : decode cX9_swap 33 = .ok (.iload_n 3, 1) := dec_of (decode cX9_swap) da_164 18 rfl
theorem dX9_swap_34 : decode cX9_swap 34 = .ok (.aload_n 0, 1) := dec_of (decode cX9_swap) da_164 19 rfl
theorem dX9_swap_35 : decode cX9_swap 35 = .ok (.getfield 29, 3) := dec_of (decode cX9_swap) da_164 20 rfl
theorem dX9_swap_38 : decode cX9_swap 38 = .ok (.getfield 133, 3) := dec_of (decode cX9_swap) da_164 21 rfl
theorem dX9_swap_41 : decode cX9_swap 41 = .ok (.iload_n 1, 1) := dec_of (decode cX9_swap) da_164 22 rfl
theorem dX9_swap_42 : decode cX9_swap 42 = .ok (.iaload, 1) := dec_of (decode cX9_swap) da_164 23 rfl
theorem dX9_swap_43 : decode cX9_swap 43 = .ok (.if_icmp .le 5, 3) := dec_of (decode cX9_swap) da_164 24 rfl
theorem dX9_swap_46 : decode cX9_swap 46 = .ok (.iconst 0, 1) := dec_of (decode cX9_swap) da_164 25 rfl
theorem dX9_swap_47 : decode cX9_swap 47 = .ok (.ireturn, 1) := dec_of (decode cX9_swap) da_164 26 rfl
theorem dX9_swap_48 : decode cX9_swap 48 = .ok (.aload_n 0, 1) := dec_of (decode cX9_swap) da_164 27 rfl
theorem dX9_swap_49 : decode cX9_swap 49 = .ok (.getfield 40, 3) := dec_of (decode cX9_swap) da_164 28 rfl
theorem dX9_swap_52 : decode cX9_swap 52 = .ok (.aload_n 0, 1) := dec_of (decode cX9_swap) da_164 29 rfl
theorem dX9_swap_53 : decode cX9_swap 53 = .ok (.getfield 29, 3) := dec_of (decode cX9_swap) da_164 30 rfl
theorem dX9_swap_56 : decode cX9_swap 56 = .ok (.invokevirtual 198, 3) := dec_of (decode cX9_swap) da_164 31 rfl
theorem dX9_swap_59 : decode cX9_swap 59 = .ok (.aload_n 0, 1) := dec_of (decode cX9_swap) da_164 32 rfl
theorem dX9_swap_60 : decode cX9_swap 60 = .ok (.getfield 29, 3) := dec_of (decode cX9_swap) da_164 33 rfl
theorem dX9_swap_63 : decode cX9_swap 63 = .ok (.iload_n 1, 1) := dec_of (decode cX9_swap) da_164 34 rfl
theorem dX9_swap_64 : decode cX9_swap 64 = .ok (.iload_n 2, 1) := dec_of (decode cX9_swap) da_164 35 rfl
theorem dX9_swap_65 : decode cX9_swap 65 = .ok (.invokevirtual 212, 3) := dec_of (decode cX9_swap) da_164 36 rfl
theorem dX9_swap_68 : decode cX9_swap 68 = .ok (.aload_n 0, 1) := dec_of (decode cX9_swap) da_164 37 rfl
theorem dX9_swap_69 : decode cX9_swap 69 = .ok (.getfield 29, 3) := dec_of (decode cX9_swap) da_164 38 rfl
theorem dX9_swap_72 : decode cX9_swap 72 = .ok (.getfield 133, 3) := dec_of (decode cX9_swap) da_164 39 rfl
abbrev dl_165 : List (Nat × Except DecodeError (Instr × Nat)) := [(75, .ok (.iload_n 1, 1)), (76, .ok (.dup2, 1)), (77, .ok (.iaload, 1)), (78, .ok (.iload_n 3, 1)), (79, .ok (.isub, 1)), (80, .ok (.iastore, 1)), (81, .ok (.aload_n 0, 1)), (82, .ok (.getfield 29, 3)), (85, .ok (.getfield 133, 3)), (88, .ok (.iload_n 2, 1)), (89, .ok (.dup2, 1)), (90, .ok (.iaload, 1)), (91, .ok (.iload_n 3, 1)), (92, .ok (.iadd, 1)), (93, .ok (.iastore, 1)), (94, .ok (.iconst 1, 1)), (95, .ok (.ireturn, 1))]
theorem da_165 : dl_165.all (fun q => decide (decode cX9_swap q.1 = q.2)) = true := by decide +kernel
theorem dX9_swap_75 : decode cX9_swap 75 = .ok (.iload_n 1, 1) := dec_of (decode cX9_swap) da_165 0 rfl
theorem dX9_swap_76 : decode cX9_swap 76 = .ok (.dup2, 1) := dec_of (decode cX9_swap) da_165 1 rfl
theorem dX9_swap_77 : decode cX9_swap 77 = .ok (.iaload, 1) := dec_of (decode cX9_swap) da_165 2 rfl
theorem dX9_swap_78 : decode cX9_swap 78 = .ok (.iload_n 3, 1) := dec_of (decode cX9_swap) da_165 3 rfl
theorem dX9_swap_79 : decode cX9_swap 79 = .ok (.isub, 1) := dec_of (decode cX9_swap) da_165 4 rfl
theorem dX9_swap_80 : decode cX9_swap 80 = .ok (.iastore, 1) := dec_of (decode cX9_swap) da_165 5 rfl
theorem dX9_swap_81 : decode cX9_swap 81 = .ok (.aload_n 0, 1) := dec_of (decode cX9_swap) da_165 6 rfl
theorem dX9_swap_82 : decode cX9_swap 82 = .ok (.getfield 29, 3) := dec_of (decode cX9_swap) da_165 7 rfl
theorem dX9_swap_85 : decode cX9_swap 85 = .ok (.getfield 133, 3) := dec_of (decode cX9_swap) da_165 8 rfl
theorem dX9_swap_88 : decode cX9_swap 88 = .ok (.iload_n 2, 1) := dec_of (decode cX9_swap) da_165 9 rfl
theorem dX9_swap_89 : decode cX9_swap 89 = .ok (.dup2, 1) := dec_of (decode cX9_swap) da_165 10 rfl
theorem dX9_swap_90 : decode cX9_swap 90 = .ok (.iaload, 1) := dec_of (decode cX9_swap) da_165 11 rfl
theorem dX9_swap_91 : decode cX9_swap 91 = .ok (.iload_n 3, 1) := dec_of (decode cX9_swap) da_165 12 rfl
theorem dX9_swap_92 : decode cX9_swap 92 = .ok (.iadd, 1) := dec_of (decode cX9_swap) da_165 13 rfl
theorem dX9_swap_93 : decode cX9_swap 93 = .ok (.iastore, 1) := dec_of (decode cX9_swap) da_165 14 rfl
theorem dX9_swap_94 : decode cX9_swap 94 = .ok (.iconst 1, 1) := dec_of (decode cX9_swap) da_165 15 rfl
theorem dX9_swap_95 : decode cX9_swap 95 = .ok (.ireturn, 1) := dec_of (decode cX9_swap) da_165 16 rfl
abbrev dl_166 : List (Nat × Except DecodeError (Instr × Nat)) := [(0, .ok (.aload_n 0, 1)), (1, .ok (.iload_n 1, 1)), (2, .ok (.invokevirtual 205, 3)), (5, .ok (.ifCond .eq 14, 3)), (8, .ok (.iload_n 2, 1)), (9, .ok (.iconst 1, 1)), (10, .ok (.if_icmp .lt 9, 3)), (13, .ok (.iload_n 2, 1)), (14, .ok (.bipush 20, 2)), (16, .ok (.if_icmp .le 5, 3)), (19, .ok (.iconst 0, 1)), (20, .ok (.ireturn, 1)), (21, .ok (.aload_n 0, 1)), (22, .ok (.getfield 29, 3)), (25, .ok (.getfield 145, 3)), (28, .ok (.iload_n 1, 1)), (29, .ok (.iaload, 1)), (30, .ok (.iload_n 2, 1)), (31, .ok (.if_icmp .ne 5, 3)), (34, .ok (.iconst 0, 1)), (35, .ok (.ireturn, 1)), (36, .ok (.aload_n 0, 1)), (37, .ok (.getfield 40, 3)), (40, .ok (.aload_n 0, 1)), (41, .ok (.getfield 29, 3)), (44, .ok (.invokevirtual 198, 3)), (47, .ok (.aload_n 0, 1)), (48, .ok (.getfield 29, 3)), (51, .ok (.getfield 145, 3)), (54, .ok (.iload_n 1, 1)), (55, .ok (.iload_n 2, 1)), (56, .ok (.iastore, 1)), (57, .ok (.iconst 1, 1)), (58, .ok (.ireturn, 1))]
theorem da_166 : dl_166.all (fun q => decide (decode cX9_kneel q.1 = q.2)) = true := by decide +kernel
theorem dX9_kneel_0 : decode cX9_kneel 0 = .ok (.aload_n 0, 1) := dec_of (decode cX9_kneel) da_166 0 rfl
theorem dX9_kneel_1 : decode cX9_kneel 1 = .ok (.iload_n 1, 1) := dec_of (decode cX9_kneel) da_166 1 rfl
theorem dX9_kneel_2 : decode cX9_kneel 2 = .ok (.invokevirtual 205, 3) := dec_of (decode cX9_kneel) da_166 2 rfl
theorem dX9_kneel_5 : decode cX9_kneel 5 = .ok (.ifCond .eq 14, 3) := dec_of (decode cX9_kneel) da_166 3 rfl
theorem dX9_kneel_8 : decode cX9_kneel 8 = .ok (.iload_n 2, 1) := dec_of (decode cX9_kneel) da_166 4 rfl
theorem dX9_kneel_9 : decode cX9_kneel 9 = .ok (.iconst 1, 1) := dec_of (decode cX9_kneel) da_166 5 rfl
theorem dX9_kneel_10 : decode cX9_kneel 10 = .ok (.if_icmp .lt 9, 3) := dec_of (decode cX9_kneel) da_166 6 rfl
theorem dX9_kneel_13 : decode cX9_kneel 13 = .ok (.iload_n 2, 1) := dec_of (decode cX9_kneel) da_166 7 rfl
theorem dX9_kneel_14 : decode cX9_kneel 14 = .ok (.bipush 20, 2) := dec_of (decode cX9_kneel) da_166 8 rfl
theorem dX9_kneel_16 : decode cX9_kneel 16 = .ok (.if_icmp .le 5, 3) := dec_of (decode cX9_kneel) da_166 9 rfl
theorem dX9_kneel_19 : decode cX9_kneel 19 = .ok (.iconst 0, 1) := dec_of (decode cX9_kneel) da_166 10 rfl
theorem dX9_kneel_20 : decode cX9_kneel 20 = .ok (.ireturn, 1) := dec_of (decode cX9_kneel) da_166 11 rfl
theorem dX9_kneel_21 : decode cX9_kneel 21 = .ok (.aload_n 0, 1) := dec_of (decode cX9_kneel) da_166 12 rfl
theorem dX9_kneel_22 : decode cX9_kneel 22 = .ok (.getfield 29, 3) := dec_of (decode cX9_kneel) da_166 13 rfl
theorem dX9_kneel_25 : decode cX9_kneel 25 = .ok (.getfield 145, 3) := dec_of (decode cX9_kneel) da_166 14 rfl
theorem dX9_kneel_28 : decode cX9_kneel 28 = .ok (.iload_n 1, 1) := dec_of (decode cX9_kneel) da_166 15 rfl
theorem dX9_kneel_29 : decode cX9_kneel 29 = .ok (.iaload, 1) := dec_of (decode cX9_kneel) da_166 16 rfl
theorem dX9_kneel_30 : decode cX9_kneel 30 = .ok (.iload_n 2, 1) := dec_of (decode cX9_kneel) da_166 17 rfl
theorem dX9_kneel_31 : decode cX9_kneel 31 = .ok (.if_icmp .ne 5, 3) := dec_of (decode cX9_kneel) da_166 18 rfl
theorem dX9_kneel_34 : decode cX9_kneel 34 = .ok (.iconst 0, 1) := dec_of (decode cX9_kneel) da_166 19 rfl
theorem dX9_kneel_35 : decode cX9_kneel 35 = .ok (.ireturn, 1) := dec_of (decode cX9_kneel) da_166 20 rfl
theorem dX9_kneel_36 : decode cX9_kneel 36 = .ok (.aload_n 0, 1) := dec_of (decode cX9_kneel) da_166 21 rfl
theorem dX9_kneel_37 : decode cX9_kneel 37 = .ok (.getfield 40, 3) := dec_of (decode cX9_kneel) da_166 22 rfl
theorem dX9_kneel_40 : decode cX9_kneel 40 = .ok (.aload_n 0, 1) := dec_of (decode cX9_kneel) da_166 23 rfl
theorem dX9_kneel_41 : decode cX9_kneel 41 = .ok (.getfield 29, 3) := dec_of (decode cX9_kneel) da_166 24 rfl
theorem dX9_kneel_44 : decode cX9_kneel 44 = .ok (.invokevirtual 198, 3) := dec_of (decode cX9_kneel) da_166 25 rfl
theorem dX9_kneel_47 : decode cX9_kneel 47 = .ok (.aload_n 0, 1) := dec_of (decode cX9_kneel) da_166 26 rfl
theorem dX9_kneel_48 : decode cX9_kneel 48 = .ok (.getfield 29, 3) := dec_of (decode cX9_kneel) da_166 27 rfl
theorem dX9_kneel_51 : decode cX9_kneel 51 = .ok (.getfield 145, 3) := dec_of (decode cX9_kneel) da_166 28 rfl
theorem dX9_kneel_54 : decode cX9_kneel 54 = .ok (.iload_n 1, 1) := dec_of (decode cX9_kneel) da_166 29 rfl
theorem dX9_kneel_55 : decode cX9_kneel 55 = .ok (.iload_n 2, 1) := dec_of (decode cX9_kneel) da_166 30 rfl
theorem dX9_kneel_56 : decode cX9_kneel 56 = .ok (.iastore, 1) := dec_of (decode cX9_kneel) da_166 31 rfl
theorem dX9_kneel_57 : decode cX9_kneel 57 = .ok (.iconst 1, 1) := dec_of (decode cX9_kneel) da_166 32 rfl
theorem dX9_kneel_58 : decode cX9_kneel 58 = .ok (.ireturn, 1) := dec_of (decode cX9_kneel) da_166 33 rfl
abbrev dl_167 : List (Nat × Except DecodeError (Instr × Nat)) := [(0, .ok (.aload_n 0, 1)), (1, .ok (.iload_n 1, 1)), (2, .ok (.invokevirtual 205, 3)), (5, .ok (.ifCond .eq 15, 3)), (8, .ok (.aload_n 0, 1)), (9, .ok (.getfield 29, 3)), (12, .ok (.getfield 148, 3)), (15, .ok (.iload_n 1, 1)), (16, .ok (.iaload, 1)), (17, .ok (.ifCond .eq 5, 3)), (20, .ok (.iconst 0, 1)), (21, .ok (.ireturn, 1)), (22, .ok (.aload_n 0, 1)), (23, .ok (.getfield 40, 3)), (26, .ok (.aload_n 0, 1)), (27, .ok (.getfield 29, 3)), (30, .ok (.invokevirtual 198, 3)), (33, .ok (.aload_n 0, 1)), (34, .ok (.getfield 29, 3)), (37, .ok (.getfield 148, 3)), (40, .ok (.iload_n 1, 1)), (41, .ok (.iconst 1, 1)), (42, .ok (.iastore, 1)), (43, .ok (.iconst 1, 1)), (44, .ok (.ireturn, 1))]
theorem da_167 : dl_167.all (fun q => decide (decode cX9_cough q.1 = q.2)) = true := by decide +kernel
theorem dX9_cough_0 : decode cX9_cough 0 = .ok (.aload_n 0, 1) := dec_of (decode cX9_cough) da_167 0 rfl
theorem dX9_cough_1 : decode cX9_cough 1 = .ok (.iload_n 1, 1) := dec_of (decode cX9_cough) da_167 1 rfl
theorem dX9_cough_2 : decode cX9_cough 2 = .ok (.invokevirtual 205, 3) := dec_of (decode cX9_cough) da_167 2 rfl
theorem dX9_cough_5 : decode cX9_cough 5 = .ok (.ifCond .eq 15, 3) := dec_of (decode cX9_cough) da_167 3 rfl
theorem dX9_cough_8 : decode cX9_cough 8 = .ok (.aload_n 0, 1) := dec_of (decode cX9_cough) da_167 4 rfl
theorem dX9_cough_9 : decode cX9_cough 9 = .ok (.getfield 29, 3) := dec_of (decode cX9_cough) da_167 5 rfl
theorem dX9_cough_12 : decode cX9_cough 12 = .ok (.getfield 148, 3) := dec_of (decode cX9_cough) da_167 6 rfl
theorem dX9_cough_15 : decode cX9_cough 15 = .ok (.iload_n 1, 1) := dec_of (decode cX9_cough) da_167 7 rfl
theorem dX9_cough_16 : decode cX9_cough 16 = .ok (.iaload, 1) := dec_of (decode cX9_cough) da_167 8 rfl
theorem dX9_cough_17 : decode cX9_cough 17 = .ok (.ifCond .eq 5, 3) := dec_of (decode cX9_cough) da_167 9 rfl
theorem dX9_cough_20 : decode cX9_cough 20 = .ok (.iconst 0, 1) := dec_of (decode cX9_cough) da_167 10 rfl
theorem dX9_cough_21 : decode cX9_cough 21 = .ok (.ireturn, 1) := dec_of (decode cX9_cough) da_167 11 rfl
theorem dX9_cough_22 : decode cX9_cough 22 = .ok (.aload_n 0, 1) := dec_of (decode cX9_cough) da_167 12 rfl
theorem dX9_cough_23 : decode cX9_cough 23 = .ok (.getfield 40, 3) := dec_of (decode cX9_cough) da_167 13 rfl
theorem dX9_cough_26 : decode cX9_cough 26 = .ok (.aload_n 0, 1) := dec_of (decode cX9_cough) da_167 14 rfl
theorem dX9_cough_27 : decode cX9_cough 27 = .ok (.getfield 29, 3) := dec_of (decode cX9_cough) da_167 15 rfl
theorem dX9_cough_30 : decode cX9_cough 30 = .ok (.invokevirtual 198, 3) := dec_of (decode cX9_cough) da_167 16 rfl
theorem dX9_cough_33 : decode cX9_cough 33 = .ok (.aload_n 0, 1) := dec_of (decode cX9_cough) da_167 17 rfl
theorem dX9_cough_34 : decode cX9_cough 34 = .ok (.getfield 29, 3) := dec_of (decode cX9_cough) da_167 18 rfl
theorem dX9_cough_37 : decode cX9_cough 37 = .ok (.getfield 148, 3) := dec_of (decode cX9_cough) da_167 19 rfl
theorem dX9_cough_40 : decode cX9_cough 40 = .ok (.iload_n 1, 1) := dec_of (decode cX9_cough) da_167 20 rfl
theorem dX9_cough_41 : decode cX9_cough 41 = .ok (.iconst 1, 1) := dec_of (decode cX9_cough) da_167 21 rfl
theorem dX9_cough_42 : decode cX9_cough 42 = .ok (.iastore, 1) := dec_of (decode cX9_cough) da_167 22 rfl
theorem dX9_cough_43 : decode cX9_cough 43 = .ok (.iconst 1, 1) := dec_of (decode cX9_cough) da_167 23 rfl
theorem dX9_cough_44 : decode cX9_cough 44 = .ok (.ireturn, 1) := dec_of (decode cX9_cough) da_167 24 rfl
abbrev dl_168 : List (Nat × Except DecodeError (Instr × Nat)) := [(0, .ok (.aload_n 0, 1)), (1, .ok (.iload_n 1, 1)), (2, .ok (.invokevirtual 165, 3)), (5, .ok (.ifCond .eq 24, 3)), (8, .ok (.aload_n 0, 1)), (9, .ok (.iload_n 2, 1)), (10, .ok (.invokevirtual 159, 3)), (13, .ok (.ifCond .eq 16, 3)), (16, .ok (.aload_n 0, 1)), (17, .ok (.getfield 29, 3)), (20, .ok (.getfield 168, 3)), (23, .ok (.iload_n 1, 1)), (24, .ok (.iaload, 1)), (25, .ok (.iload_n 2, 1)), (26, .ok (.if_icmp .ne 5, 3)), (29, .ok (.iconst 0, 1)), (30, .ok (.ireturn, 1)), (31, .ok (.aload_n 0, 1)), (32, .ok (.getfield 40, 3)), (35, .ok (.aload_n 0, 1)), (36, .ok (.getfield 29, 3)), (39, .ok (.invokevirtual 198, 3)), (42, .ok (.aload_n 0, 1)), (43, .ok (.getfield 29, 3)), (46, .ok (.getfield 168, 3)), (49, .ok (.iload_n 1, 1)), (50, .ok (.iload_n 2, 1)), (51, .ok (.iastore, 1)), (52, .ok (.iconst 1, 1)), (53, .ok (.ireturn, 1))]
theorem da_168 : dl_168.all (fun q => decide (decode cX9_move q.1 = q.2)) = true := by decide +kernel
theorem dX9_move_0 : decode cX9_move 0 = .ok (.aload_n 0, 1) := dec_of (decode cX9_move) da_168 0 rfl
theorem dX9_move_1 : decode cX9_move 1 = .ok (.iload_n 1, 1) := dec_of (decode cX9_move) da_168 1 rfl
theorem dX9_move_2 : decode cX9_move 2 = .ok (.invokevirtual 165, 3) := dec_of (decode cX9_move) da_168 2 rfl
theorem dX9_move_5 : decode cX9_move 5 = .ok (.ifCond .eq 24, 3) := dec_of (decode cX9_move) da_168 3 rfl
theorem dX9_move_8 : decode cX9_move 8 = .ok (.aload_n 0, 1) := dec_of (decode cX9_move) da_168 4 rfl
theorem dX9_move_9 : decode cX9_move 9 = .ok (.iload_n 2, 1) := dec_of (decode cX9_move) da_168 5 rfl
theorem dX9_move_10 : decode cX9_move 10 = .ok (.invokevirtual 159, 3) := dec_of (decode cX9_move) da_168 6 rfl
theorem dX9_move_13 : decode cX9_move 13 = .ok (.ifCond .eq 16, 3) := dec_of (decode cX9_move) da_168 7 rfl
theorem dX9_move_16 : decode cX9_move 16 = .ok (.aload_n 0, 1) := dec_of (decode cX9_move) da_168 8 rfl
theorem dX9_move_17 : decode cX9_move 17 = .ok (.getfield 29, 3) := dec_of (decode cX9_move) da_168 9 rfl
theorem dX9_move_20 : decode cX9_move 20 = .ok (.getfield 168, 3) := dec_of (decode cX9_move) da_168 10 rfl
theorem dX9_move_23 : decode cX9_move 23 = .ok (.iload_n 1, 1) := dec_of (decode cX9_move) da_168 11 rfl
theorem dX9_move_24 : decode cX9_move 24 = .ok (.iaload, 1) := dec_of (decode cX9_move) da_168 12 rfl
theorem dX9_move_25 : decode cX9_move 25 = .ok (.iload_n 2, 1) := dec_of (decode cX9_move) da_168 13 rfl
theorem dX9_move_26 : decode cX9_move 26 = .ok (.if_icmp .ne 5, 3) := dec_of (decode cX9_move) da_168 14 rfl
theorem dX9_move_29 : decode cX9_move 29 = .ok (.iconst 0, 1) := dec_of (decode cX9_move) da_168 15 rfl
theorem dX9_move_30 : decode cX9_move 30 = .ok (.ireturn, 1) := dec_of (decode cX9_move) da_168 16 rfl
theorem dX9_move_31 : decode cX9_move 31 = .ok (.aload_n 0, 1) := dec_of (decode cX9_move) da_168 17 rfl
theorem dX9_move_32 : decode cX9_move 32 = .ok (.getfield 40, 3) := dec_of (decode cX9_move) da_168 18 rfl
theorem dX9_move_35 : decode cX9_move 35 = .ok (.aload_n 0, 1) := dec_of (decode cX9_move) da_168 19 rfl
theorem dX9_move_36 : decode cX9_move 36 = .ok (.getfield 29, 3) := dec_of (decode cX9_move) da_168 20 rfl
theorem dX9_move_39 : decode cX9_move 39 = .ok (.invokevirtual 198, 3) := dec_of (decode cX9_move) da_168 21 rfl
theorem dX9_move_42 : decode cX9_move 42 = .ok (.aload_n 0, 1) := dec_of (decode cX9_move) da_168 22 rfl
theorem dX9_move_43 : decode cX9_move 43 = .ok (.getfield 29, 3) := dec_of (decode cX9_move) da_168 23 rfl
theorem dX9_move_46 : decode cX9_move 46 = .ok (.getfield 168, 3) := dec_of (decode cX9_move) da_168 24 rfl
theorem dX9_move_49 : decode cX9_move 49 = .ok (.iload_n 1, 1) := dec_of (decode cX9_move) da_168 25 rfl
theorem dX9_move_50 : decode cX9_move 50 = .ok (.iload_n 2, 1) := dec_of (decode cX9_move) da_168 26 rfl
theorem dX9_move_51 : decode cX9_move 51 = .ok (.iastore, 1) := dec_of (decode cX9_move) da_168 27 rfl
theorem dX9_move_52 : decode cX9_move 52 = .ok (.iconst 1, 1) := dec_of (decode cX9_move) da_168 28 rfl
theorem dX9_move_53 : decode cX9_move 53 = .ok (.ireturn, 1) := dec_of (decode cX9_move) da_168 29 rfl
abbrev dl_169 : List (Nat × Except DecodeError (Instr × Nat)) := [(0, .ok (.aload_n 0, 1)), (1, .ok (.iload_n 1, 1)), (2, .ok (.invokevirtual 165, 3)), (5, .ok (.ifCond .eq 18, 3)), (8, .ok (.iload_n 2, 1)), (9, .ok (.ifCond .lt 14, 3)), (12, .ok (.iload_n 2, 1)), (13, .ok (.aload_n 0, 1)), (14, .ok (.getfield 29, 3)), (17, .ok (.getfield 186, 3)), (20, .ok (.if_icmp .lt 5, 3)), (23, .ok (.iconst (-1), 1)), (24, .ok (.ireturn, 1)), (25, .ok (.aload_n 0, 1)), (26, .ok (.getfield 33, 3)), (29, .ok (.iload_n 1, 1)), (30, .ok (.bipush 120, 2)), (32, .ok (.imul, 1)), (33, .ok (.iload_n 2, 1)), (34, .ok (.iadd, 1)), (35, .ok (.iaload, 1)), (36, .ok (.ireturn, 1))]
theorem da_169 : dl_169.all (fun q => decide (decode cX9_was q.1 = q.2)) = true := by decide +kernel
theorem dX9_was_0 : decode cX9_was 0 = .ok (.aload_n 0, 1) := dec_of (decode cX9_was) da_169 0 rfl
theorem dX9_was_1 : decode cX9_was 1 = .ok (.iload_n 1, 1) := dec_of (decode cX9_was) da_169 1 rfl
theorem dX9_was_2 : decode cX9_was 2 = .ok (.invokevirtual 165, 3) := dec_of (decode cX9_was) da_169 2 rfl
theorem dX9_was_5 : decode cX9_was 5 = .ok (.ifCond .eq 18, 3) := dec_of (decode cX9_was) da_169 3 rfl
theorem dX9_was_8 : decode cX9_was 8 = .ok (.iload_n 2, 1) := dec_of (decode cX9_was) da_169 4 rfl
theorem dX9_was_9 : decode cX9_was 9 = .ok (.ifCond .lt 14, 3) := dec_of (decode cX9_was) da_169 5 rfl
theorem dX9_was_12 : decode cX9_was 12 = .ok (.iload_n 2, 1) := dec_of (decode cX9_was) da_169 6 rfl
theorem dX9_was_13 : decode cX9_was 13 = .ok (.aload_n 0, 1) := dec_of (decode cX9_was) da_169 7 rfl
theorem dX9_was_14 : decode cX9_was 14 = .ok (.getfield 29, 3) := dec_of (decode cX9_was) da_169 8 rfl
theorem dX9_was_17 : decode cX9_was 17 = .ok (.getfield 186, 3) := dec_of (decode cX9_was) da_169 9 rfl
theorem dX9_was_20 : decode cX9_was 20 = .ok (.if_icmp .lt 5, 3) := dec_of (decode cX9_was) da_169 10 rfl
theorem dX9_was_23 : decode cX9_was 23 = .ok (.iconst (-1), 1) := dec_of (decode cX9_was) da_169 11 rfl
theorem dX9_was_24 : decode cX9_was 24 = .ok (.ireturn, 1) := dec_of (decode cX9_was) da_169 12 rfl
theorem dX9_was_25 : decode cX9_was 25 = .ok (.aload_n 0, 1) := dec_of (decode cX9_was) da_169 13 rfl
theorem dX9_was_26 : decode cX9_was 26 = .ok (.getfield 33, 3) := dec_of (decode cX9_was) da_169 14 rfl
theorem dX9_was_29 : decode cX9_was 29 = .ok (.iload_n 1, 1) := dec_of (decode cX9_was) da_169 15 rfl
theorem dX9_was_30 : decode cX9_was 30 = .ok (.bipush 120, 2) := dec_of (decode cX9_was) da_169 16 rfl
theorem dX9_was_32 : decode cX9_was 32 = .ok (.imul, 1) := dec_of (decode cX9_was) da_169 17 rfl
theorem dX9_was_33 : decode cX9_was 33 = .ok (.iload_n 2, 1) := dec_of (decode cX9_was) da_169 18 rfl
theorem dX9_was_34 : decode cX9_was 34 = .ok (.iadd, 1) := dec_of (decode cX9_was) da_169 19 rfl
theorem dX9_was_35 : decode cX9_was 35 = .ok (.iaload, 1) := dec_of (decode cX9_was) da_169 20 rfl
theorem dX9_was_36 : decode cX9_was 36 = .ok (.ireturn, 1) := dec_of (decode cX9_was) da_169 21 rfl
abbrev dl_170 : List (Nat × Except DecodeError (Instr × Nat)) := [(0, .ok (.aload_n 0, 1)), (1, .ok (.iload_n 1, 1)), (2, .ok (.invokevirtual 104, 3)), (5, .ok (.ifCond .eq 11, 3)), (8, .ok (.aload_n 0, 1)), (9, .ok (.iload_n 2, 1)), (10, .ok (.invokevirtual 165, 3)), (13, .ok (.ifCond .ne 5, 3)), (16, .ok (.iconst (-1), 1)), (17, .ok (.ireturn, 1)), (18, .ok (.iconst 0, 1)), (19, .ok (.istore_n 3, 1)), (20, .ok (.iconst 0, 1)), (21, .ok (.istore 4, 2)), (23, .ok (.iload 4, 2)), (25, .ok (.aload_n 0, 1)), (26, .ok (.getfield 29, 3)), (29, .ok (.getfield 186, 3)), (32, .ok (.if_icmp .ge 28, 3)), (35, .ok (.aload_n 0, 1)), (36, .ok (.getfield 33, 3)), (39, .ok (.iload_n 2, 1)), (40, .ok (.bipush 120, 2)), (42, .ok (.imul, 1)), (43, .ok (.iload 4, 2)), (45, .ok (.iadd, 1)), (46, .ok (.iaload, 1)), (47, .ok (.iload_n 1, 1)), (48, .ok (.if_icmp .ne 6, 3)), (51, .ok (.iinc 3 1, 3)), (54, .ok (.iinc 4 1, 3)), (57, .ok (.goto (-34), 3)), (60, .ok (.iload_n 3, 1)), (61, .ok (.ireturn, 1))]
theorem da_170 : dl_170.all (fun q => decide (decode cX9_ruled q.1 = q.2)) = true := by decide +kernel
theorem dX9_ruled_0 : decode cX9_ruled 0 = .ok (.aload_n 0, 1) := dec_of (decode cX9_ruled) da_170 0 rfl
theorem dX9_ruled_1 : decode cX9_ruled 1 = .ok (.iload_n 1, 1) := dec_of (decode cX9_ruled) da_170 1 rfl
theorem dX9_ruled_2 : decode cX9_ruled 2 = .ok (.invokevirtual 104, 3) := dec_of (decode cX9_ruled) da_170 2 rfl
theorem dX9_ruled_5 : decode cX9_ruled 5 = .ok (.ifCond .eq 11, 3) := dec_of (decode cX9_ruled) da_170 3 rfl
theorem dX9_ruled_8 : decode cX9_ruled 8 = .ok (.aload_n 0, 1) := dec_of (decode cX9_ruled) da_170 4 rfl
theorem dX9_ruled_9 : decode cX9_ruled 9 = .ok (.iload_n 2, 1) := dec_of (decode cX9_ruled) da_170 5 rfl
theorem dX9_ruled_10 : decode cX9_ruled 10 = .ok (.invokevirtual 165, 3) := dec_of (decode cX9_ruled) da_170 6 rfl
theorem dX9_ruled_13 : decode cX9_ruled 13 = .ok (.ifCond .ne 5, 3) := dec_of (decode cX9_ruled) da_170 7 rfl
theorem dX9_ruled_16 : decode cX9_ruled 16 = .ok (.iconst (-1), 1) := dec_of (decode cX9_ruled) da_170 8 rfl
theorem dX9_ruled_17 : decode cX9_ruled 17 = .ok (.ireturn, 1) := dec_of (decode cX9_ruled) da_170 9 rfl
theorem dX9_ruled_18 : decode cX9_ruled 18 = .ok (.iconst 0, 1) := dec_of (decode cX9_ruled) da_170 10 rfl
theorem dX9_ruled_19 : decode cX9_ruled 19 = .ok (.istore_n 3, 1) := dec_of (decode cX9_ruled) da_170 11 rfl
theorem dX9_ruled_20 : decode cX9_ruled 20 = .ok (.iconst 0, 1) := dec_of (decode cX9_ruled) da_170 12 rfl
theorem dX9_ruled_21 : decode cX9_ruled 21 = .ok (.istore 4, 2) := dec_of (decode cX9_ruled) da_170 13 rfl
theorem dX9_ruled_23 : decode cX9_ruled 23 = .ok (.iload 4, 2) := dec_of (decode cX9_ruled) da_170 14 rfl
theorem dX9_ruled_25 : decode cX9_ruled 25 = .ok (.aload_n 0, 1) := dec_of (decode cX9_ruled) da_170 15 rfl
theorem dX9_ruled_26 : decode cX9_ruled 26 = .ok (.getfield 29, 3) := dec_of (decode cX9_ruled) da_170 16 rfl
theorem dX9_ruled_29 : decode cX9_ruled 29 = .ok (.getfield 186, 3) := dec_of (decode cX9_ruled) da_170 17 rfl
theorem dX9_ruled_32 : decode cX9_ruled 32 = .ok (.if_icmp .ge 28, 3) := dec_of (decode cX9_ruled) da_170 18 rfl
theorem dX9_ruled_35 : decode cX9_ruled 35 = .ok (.aload_n 0, 1) := dec_of (decode cX9_ruled) da_170 19 rfl
theorem dX9_ruled_36 : decode cX9_ruled 36 = .ok (.getfield 33, 3) := dec_of (decode cX9_ruled) da_170 20 rfl
theorem dX9_ruled_39 : decode cX9_ruled 39 = .ok (.iload_n 2, 1) := dec_of (decode cX9_ruled) da_170 21 rfl
theorem dX9_ruled_40 : decode cX9_ruled 40 = .ok (.bipush 120, 2) := dec_of (decode cX9_ruled) da_170 22 rfl
theorem dX9_ruled_42 : decode cX9_ruled 42 = .ok (.imul, 1) := dec_of (decode cX9_ruled) da_170 23 rfl
theorem dX9_ruled_43 : decode cX9_ruled 43 = .ok (.iload 4, 2) := dec_of (decode cX9_ruled) da_170 24 rfl
theorem dX9_ruled_45 : decode cX9_ruled 45 = .ok (.iadd, 1) := dec_of (decode cX9_ruled) da_170 25 rfl
theorem dX9_ruled_46 : decode cX9_ruled 46 = .ok (.iaload, 1) := dec_of (decode cX9_ruled) da_170 26 rfl
theorem dX9_ruled_47 : decode cX9_ruled 47 = .ok (.iload_n 1, 1) := dec_of (decode cX9_ruled) da_170 27 rfl
theorem dX9_ruled_48 : decode cX9_ruled 48 = .ok (.if_icmp .ne 6, 3) := dec_of (decode cX9_ruled) da_170 28 rfl
theorem dX9_ruled_51 : decode cX9_ruled 51 = .ok (.iinc 3 1, 3) := dec_of (decode cX9_ruled) da_170 29 rfl
theorem dX9_ruled_54 : decode cX9_ruled 54 = .ok (.iinc 4 1, 3) := dec_of (decode cX9_ruled) da_170 30 rfl
theorem dX9_ruled_57 : decode cX9_ruled 57 = .ok (.goto (-34), 3) := dec_of (decode cX9_ruled) da_170 31 rfl
theorem dX9_ruled_60 : decode cX9_ruled 60 = .ok (.iload_n 3, 1) := dec_of (decode cX9_ruled) da_170 32 rfl
theorem dX9_ruled_61 : decode cX9_ruled 61 = .ok (.ireturn, 1) := dec_of (decode cX9_ruled) da_170 33 rfl
abbrev dl_171 : List (Nat × Except DecodeError (Instr × Nat)) := [(0, .ok (.aload_n 0, 1)), (1, .ok (.iload_n 1, 1)), (2, .ok (.invokevirtual 104, 3)), (5, .ok (.ifCond .eq 18, 3)), (8, .ok (.aload_n 0, 1)), (9, .ok (.getfield 61, 3)), (12, .ok (.aload_n 0, 1)), (13, .ok (.getfield 29, 3)), (16, .ok (.iload_n 1, 1)), (17, .ok (.invokevirtual 215, 3)), (20, .ok (.goto 4, 3)), (23, .ok (.iconst (-1), 1)), (24, .ok (.ireturn, 1))]
theorem da_171 : dl_171.all (fun q => decide (decode cX9_served q.1 = q.2)) = true := by decide +kernel
theorem dX9_served_0 : decode cX9_served 0 = .ok (.aload_n 0, 1) := dec_of (decode cX9_served) da_171 0 rfl
theorem dX9_served_1 : decode cX9_served 1 = .ok (.iload_n 1, 1) := dec_of (decode cX9_served) da_171 1 rfl
theorem dX9_served_2 : decode cX9_served 2 = .ok (.invokevirtual 104, 3) := dec_of (decode cX9_served) da_171 2 rfl
theorem dX9_served_5 : decode cX9_served 5 = .ok (.ifCond .eq 18, 3) := dec_of (decode cX9_served) da_171 3 rfl
theorem dX9_served_8 : decode cX9_served 8 = .ok (.aload_n 0, 1) := dec_of (decode cX9_served) da_171 4 rfl
theorem dX9_served_9 : decode cX9_served 9 = .ok (.getfield 61, 3) := dec_of (decode cX9_served) da_171 5 rfl
theorem dX9_served_12 : decode cX9_served 12 = .ok (.aload_n 0, 1) := dec_of (decode cX9_served) da_171 6 rfl
theorem dX9_served_13 : decode cX9_served 13 = .ok (.getfield 29, 3) := dec_of (decode cX9_served) da_171 7 rfl
theorem dX9_served_16 : decode cX9_served 16 = .ok (.iload_n 1, 1) := dec_of (decode cX9_served) da_171 8 rfl
theorem dX9_served_17 : decode cX9_served 17 = .ok (.invokevirtual 215, 3) := dec_of (decode cX9_served) da_171 9 rfl
theorem dX9_served_20 : decode cX9_served 20 = .ok (.goto 4, 3) := dec_of (decode cX9_served) da_171 10 rfl
theorem dX9_served_23 : decode cX9_served 23 = .ok (.iconst (-1), 1) := dec_of (decode cX9_served) da_171 11 rfl
theorem dX9_served_24 : decode cX9_served 24 = .ok (.ireturn, 1) := dec_of (decode cX9_served) da_171 12 rfl
abbrev dl_172 : List (Nat × Except DecodeError (Instr × Nat)) := [(0, .ok (.aload_n 0, 1)), (1, .ok (.iload_n 1, 1)), (2, .ok (.invokevirtual 195, 3)), (5, .ok (.ifCond .eq 28, 3)), (8, .ok (.aload_n 0, 1)), (9, .ok (.iload_n 2, 1)), (10, .ok (.invokevirtual 159, 3)), (13, .ok (.ifCond .eq 20, 3)), (16, .ok (.iload_n 3, 1)), (17, .ok (.aload_n 0, 1)), (18, .ok (.getfield 29, 3)), (21, .ok (.getfield 186, 3)), (24, .ok (.if_icmp .lt 9, 3)), (27, .ok (.iload_n 3, 1)), (28, .ok (.bipush 120, 2)), (30, .ok (.if_icmp .lt 5, 3)), (33, .ok (.iconst (-1), 1)), (34, .ok (.ireturn, 1)), (35, .ok (.aload_n 0, 1)), (36, .ok (.getfield 61, 3)), (39, .ok (.aload_n 0, 1)), (40, .ok (.getfield 29, 3)), (43, .ok (.iload_n 1, 1)), (44, .ok (.iload_n 2, 1)), (45, .ok (.iload_n 3, 1)), (46, .ok (.invokevirtual 219, 3)), (49, .ok (.ireturn, 1))]
theorem da_172 : dl_172.all (fun q => decide (decode cX9_coming q.1 = q.2)) = true := by decide +kernel
theorem dX9_coming_0 : decode cX9_coming 0 = .ok (.aload_n 0, 1) := dec_of (decode cX9_coming) da_172 0 rfl
theorem dX9_coming_1 : decode cX9_coming 1 = .ok (.iload_n 1, 1) := dec_of (decode cX9_coming) da_172 1 rfl
theorem dX9_coming_2 : decode cX9_coming 2 = .ok (.invokevirtual 195, 3) := dec_of (decode cX9_coming) da_172 2 rfl
theorem dX9_coming_5 : decode cX9_coming 5 = .ok (.ifCond .eq 28, 3) := dec_of (decode cX9_coming) da_172 3 rfl
theorem dX9_coming_8 : decode cX9_coming 8 = .ok (.aload_n 0, 1) := dec_of (decode cX9_coming) da_172 4 rfl
theorem dX9_coming_9 : decode cX9_coming 9 = .ok (.iload_n 2, 1) := dec_of (decode cX9_coming) da_172 5 rfl
theorem dX9_coming_10 : decode cX9_coming 10 = .ok (.invokevirtual 159, 3) := dec_of (decode cX9_coming) da_172 6 rfl
theorem dX9_coming_13 : decode cX9_coming 13 = .ok (.ifCond .eq 20, 3) := dec_of (decode cX9_coming) da_172 7 rfl
theorem dX9_coming_16 : decode cX9_coming 16 = .ok (.iload_n 3, 1) := dec_of (decode cX9_coming) da_172 8 rfl
theorem dX9_coming_17 : decode cX9_coming 17 = .ok (.aload_n 0, 1) := dec_of (decode cX9_coming) da_172 9 rfl
theorem dX9_coming_18 : decode cX9_coming 18 = .ok (.getfield 29, 3) := dec_of (decode cX9_coming) da_172 10 rfl
theorem dX9_coming_21 : decode cX9_coming 21 = .ok (.getfield 186, 3) := dec_of (decode cX9_coming) da_172 11 rfl
theorem dX9_coming_24 : decode cX9_coming 24 = .ok (.if_icmp .lt 9, 3) := dec_of (decode cX9_coming) da_172 12 rfl
theorem dX9_coming_27 : decode cX9_coming 27 = .ok (.iload_n 3, 1) := dec_of (decode cX9_coming) da_172 13 rfl
theorem dX9_coming_28 : decode cX9_coming 28 = .ok (.bipush 120, 2) := dec_of (decode cX9_coming) da_172 14 rfl
theorem dX9_coming_30 : decode cX9_coming 30 = .ok (.if_icmp .lt 5, 3) := dec_of (decode cX9_coming) da_172 15 rfl
theorem dX9_coming_33 : decode cX9_coming 33 = .ok (.iconst (-1), 1) := dec_of (decode cX9_coming) da_172 16 rfl
theorem dX9_coming_34 : decode cX9_coming 34 = .ok (.ireturn, 1) := dec_of (decode cX9_coming) da_172 17 rfl
theorem dX9_coming_35 : decode cX9_coming 35 = .ok (.aload_n 0, 1) := dec_of (decode cX9_coming) da_172 18 rfl
theorem dX9_coming_36 : decode cX9_coming 36 = .ok (.getfield 61, 3) := dec_of (decode cX9_coming) da_172 19 rfl
theorem dX9_coming_39 : decode cX9_coming 39 = .ok (.aload_n 0, 1) := dec_of (decode cX9_coming) da_172 20 rfl
theorem dX9_coming_40 : decode cX9_coming 40 = .ok (.getfield 29, 3) := dec_of (decode cX9_coming) da_172 21 rfl
theorem dX9_coming_43 : decode cX9_coming 43 = .ok (.iload_n 1, 1) := dec_of (decode cX9_coming) da_172 22 rfl
theorem dX9_coming_44 : decode cX9_coming 44 = .ok (.iload_n 2, 1) := dec_of (decode cX9_coming) da_172 23 rfl
theorem dX9_coming_45 : decode cX9_coming 45 = .ok (.iload_n 3, 1) := dec_of (decode cX9_coming) da_172 24 rfl
theorem dX9_coming_46 : decode cX9_coming 46 = .ok (.invokevirtual 219, 3) := dec_of (decode cX9_coming) da_172 25 rfl
theorem dX9_coming_49 : decode cX9_coming 49 = .ok (.ireturn, 1) := dec_of (decode cX9_coming) da_172 26 rfl
abbrev dl_173 : List (Nat × Except DecodeError (Instr × Nat)) := [(0, .ok (.iload_n 1, 1)), (1, .ok (.iconst 1, 1)), (2, .ok (.if_icmp .lt 26, 3)), (5, .ok (.iload_n 1, 1)), (6, .ok (.bipush 8, 2)), (8, .ok (.if_icmp .gt 20, 3)), (11, .ok (.iload_n 2, 1)), (12, .ok (.ifCond .lt 16, 3)), (15, .ok (.iload_n 2, 1)), (16, .ok (.iload_n 1, 1)), (17, .ok (.if_icmp .gt 11, 3)), (20, .ok (.aload_n 0, 1)), (21, .ok (.iload_n 3, 1)), (22, .ok (.invokevirtual 223, 3)), (25, .ok (.ifCond .ne 5, 3)), (28, .ok (.iconst (-1), 1)), (29, .ok (.ireturn, 1)), (30, .ok (.aload_n 0, 1)), (31, .ok (.getfield 61, 3)), (34, .ok (.aload_n 0, 1)), (35, .ok (.getfield 29, 3)), (38, .ok (.iload_n 1, 1)), (39, .ok (.iload_n 2, 1)), (40, .ok (.iload_n 3, 1)), (41, .ok (.invokevirtual 226, 3)), (44, .ok (.ireturn, 1))]
theorem da_173 : dl_173.all (fun q => decide (decode cX9_decree q.1 = q.2)) = true := by decide +kernel
theorem dX9_decree_0 : decode cX9_decree 0 = .ok (.iload_n 1, 1) := dec_of (decode cX9_decree) da_173 0 rfl
theorem dX9_decree_1 : decode cX9_decree 1 = .ok (.iconst 1, 1) := dec_of (decode cX9_decree) da_173 1 rfl
theorem dX9_decree_2 : decode cX9_decree 2 = .ok (.if_icmp .lt 26, 3) := dec_of (decode cX9_decree) da_173 2 rfl
theorem dX9_decree_5 : decode cX9_decree 5 = .ok (.iload_n 1, 1) := dec_of (decode cX9_decree) da_173 3 rfl
theorem dX9_decree_6 : decode cX9_decree 6 = .ok (.bipush 8, 2) := dec_of (decode cX9_decree) da_173 4 rfl
theorem dX9_decree_8 : decode cX9_decree 8 = .ok (.if_icmp .gt 20, 3) := dec_of (decode cX9_decree) da_173 5 rfl
theorem dX9_decree_11 : decode cX9_decree 11 = .ok (.iload_n 2, 1) := dec_of (decode cX9_decree) da_173 6 rfl
theorem dX9_decree_12 : decode cX9_decree 12 = .ok (.ifCond .lt 16, 3) := dec_of (decode cX9_decree) da_173 7 rfl
theorem dX9_decree_15 : decode cX9_decree 15 = .ok (.iload_n 2, 1) := dec_of (decode cX9_decree) da_173 8 rfl
theorem dX9_decree_16 : decode cX9_decree 16 = .ok (.iload_n 1, 1) := dec_of (decode cX9_decree) da_173 9 rfl
theorem dX9_decree_17 : decode cX9_decree 17 = .ok (.if_icmp .gt 11, 3) := dec_of (decode cX9_decree) da_173 10 rfl
theorem dX9_decree_20 : decode cX9_decree 20 = .ok (.aload_n 0, 1) := dec_of (decode cX9_decree) da_173 11 rfl
theorem dX9_decree_21 : decode cX9_decree 21 = .ok (.iload_n 3, 1) := dec_of (decode cX9_decree) da_173 12 rfl
theorem dX9_decree_22 : decode cX9_decree 22 = .ok (.invokevirtual 223, 3) := dec_of (decode cX9_decree) da_173 13 rfl
theorem dX9_decree_25 : decode cX9_decree 25 = .ok (.ifCond .ne 5, 3) := dec_of (decode cX9_decree) da_173 14 rfl
theorem dX9_decree_28 : decode cX9_decree 28 = .ok (.iconst (-1), 1) := dec_of (decode cX9_decree) da_173 15 rfl
theorem dX9_decree_29 : decode cX9_decree 29 = .ok (.ireturn, 1) := dec_of (decode cX9_decree) da_173 16 rfl
theorem dX9_decree_30 : decode cX9_decree 30 = .ok (.aload_n 0, 1) := dec_of (decode cX9_decree) da_173 17 rfl
theorem dX9_decree_31 : decode cX9_decree 31 = .ok (.getfield 61, 3) := dec_of (decode cX9_decree) da_173 18 rfl
theorem dX9_decree_34 : decode cX9_decree 34 = .ok (.aload_n 0, 1) := dec_of (decode cX9_decree) da_173 19 rfl
theorem dX9_decree_35 : decode cX9_decree 35 = .ok (.getfield 29, 3) := dec_of (decode cX9_decree) da_173 20 rfl
theorem dX9_decree_38 : decode cX9_decree 38 = .ok (.iload_n 1, 1) := dec_of (decode cX9_decree) da_173 21 rfl
theorem dX9_decree_39 : decode cX9_decree 39 = .ok (.iload_n 2, 1) := dec_of (decode cX9_decree) da_173 22 rfl
theorem dX9_decree_40 : decode cX9_decree 40 = .ok (.iload_n 3, 1) := dec_of (decode cX9_decree) da_173 23 rfl
theorem dX9_decree_41 : decode cX9_decree 41 = .ok (.invokevirtual 226, 3) := dec_of (decode cX9_decree) da_173 24 rfl
theorem dX9_decree_44 : decode cX9_decree 44 = .ok (.ireturn, 1) := dec_of (decode cX9_decree) da_173 25 rfl
abbrev dl_174 : List (Nat × Except DecodeError (Instr × Nat)) := [(0, .ok (.aload_n 0, 1)), (1, .ok (.getfield 29, 3)), (4, .ok (.getfield 179, 3)), (7, .ok (.ifCond .ne 7, 3)), (10, .ok (.iconst (-1), 1)), (11, .ok (.goto 14, 3)), (14, .ok (.aload_n 0, 1)), (15, .ok (.getfield 61, 3)), (18, .ok (.aload_n 0, 1)), (19, .ok (.getfield 29, 3)), (22, .ok (.invokevirtual 229, 3)), (25, .ok (.ireturn, 1))]
theorem da_174 : dl_174.all (fun q => decide (decode cX9_coup q.1 = q.2)) = true := by decide +kernel
theorem dX9_coup_0 : decode cX9_coup 0 = .ok (.aload_n 0, 1) := dec_of (decode cX9_coup) da_174 0 rfl
theorem dX9_coup_1 : decode cX9_coup 1 = .ok (.getfield 29, 3) := dec_of (decode cX9_coup) da_174 1 rfl
theorem dX9_coup_4 : decode cX9_coup 4 = .ok (.getfield 179, 3) := dec_of (decode cX9_coup) da_174 2 rfl
theorem dX9_coup_7 : decode cX9_coup 7 = .ok (.ifCond .ne 7, 3) := dec_of (decode cX9_coup) da_174 3 rfl
theorem dX9_coup_10 : decode cX9_coup 10 = .ok (.iconst (-1), 1) := dec_of (decode cX9_coup) da_174 4 rfl
theorem dX9_coup_11 : decode cX9_coup 11 = .ok (.goto 14, 3) := dec_of (decode cX9_coup) da_174 5 rfl
theorem dX9_coup_14 : decode cX9_coup 14 = .ok (.aload_n 0, 1) := dec_of (decode cX9_coup) da_174 6 rfl
theorem dX9_coup_15 : decode cX9_coup 15 = .ok (.getfield 61, 3) := dec_of (decode cX9_coup) da_174 7 rfl
theorem dX9_coup_18 : decode cX9_coup 18 = .ok (.aload_n 0, 1) := dec_of (decode cX9_coup) da_174 8 rfl
theorem dX9_coup_19 : decode cX9_coup 19 = .ok (.getfield 29, 3) := dec_of (decode cX9_coup) da_174 9 rfl
theorem dX9_coup_22 : decode cX9_coup 22 = .ok (.invokevirtual 229, 3) := dec_of (decode cX9_coup) da_174 10 rfl
theorem dX9_coup_25 : decode cX9_coup 25 = .ok (.ireturn, 1) := dec_of (decode cX9_coup) da_174 11 rfl
abbrev dl_175 : List (Nat × Except DecodeError (Instr × Nat)) := [(0, .ok (.aload_n 0, 1)), (1, .ok (.iload_n 1, 1)), (2, .ok (.iload_n 2, 1)), (3, .ok (.iload_n 3, 1)), (4, .ok (.invokevirtual 233, 3)), (7, .ok (.ifCond .ne 5, 3)), (10, .ok (.iconst (-1), 1)), (11, .ok (.ireturn, 1)), (12, .ok (.aload_n 0, 1)), (13, .ok (.getfield 61, 3)), (16, .ok (.aload_n 0, 1)), (17, .ok (.getfield 29, 3)), (20, .ok (.iload_n 1, 1)), (21, .ok (.iload_n 2, 1)), (22, .ok (.iload_n 3, 1)), (23, .ok (.invokevirtual 237, 3)), (26, .ok (.aload_n 0, 1)), (27, .ok (.getfield 61, 3)), (30, .ok (.getfield 241, 3)), (33, .ok (.ireturn, 1))]
theorem da_175 : dl_175.all (fun q => decide (decode cX9_rests q.1 = q.2)) = true := by decide +kernel
theorem dX9_rests_0 : decode cX9_rests 0 = .ok (.aload_n 0, 1) := dec_of (decode cX9_rests) da_175 0 rfl
theorem dX9_rests_1 : decode cX9_rests 1 = .ok (.iload_n 1, 1) := dec_of (decode cX9_rests) da_175 1 rfl
theorem dX9_rests_2 : decode cX9_rests 2 = .ok (.iload_n 2, 1) := dec_of (decode cX9_rests) da_175 2 rfl
theorem dX9_rests_3 : decode cX9_rests 3 = .ok (.iload_n 3, 1) := dec_of (decode cX9_rests) da_175 3 rfl
theorem dX9_rests_4 : decode cX9_rests 4 = .ok (.invokevirtual 233, 3) := dec_of (decode cX9_rests) da_175 4 rfl
theorem dX9_rests_7 : decode cX9_rests 7 = .ok (.ifCond .ne 5, 3) := dec_of (decode cX9_rests) da_175 5 rfl
theorem dX9_rests_10 : decode cX9_rests 10 = .ok (.iconst (-1), 1) := dec_of (decode cX9_rests) da_175 6 rfl
theorem dX9_rests_11 : decode cX9_rests 11 = .ok (.ireturn, 1) := dec_of (decode cX9_rests) da_175 7 rfl
theorem dX9_rests_12 : decode cX9_rests 12 = .ok (.aload_n 0, 1) := dec_of (decode cX9_rests) da_175 8 rfl
theorem dX9_rests_13 : decode cX9_rests 13 = .ok (.getfield 61, 3) := dec_of (decode cX9_rests) da_175 9 rfl
theorem dX9_rests_16 : decode cX9_rests 16 = .ok (.aload_n 0, 1) := dec_of (decode cX9_rests) da_175 10 rfl
theorem dX9_rests_17 : decode cX9_rests 17 = .ok (.getfield 29, 3) := dec_of (decode cX9_rests) da_175 11 rfl
theorem dX9_rests_20 : decode cX9_rests 20 = .ok (.iload_n 1, 1) := dec_of (decode cX9_rests) da_175 12 rfl
theorem dX9_rests_21 : decode cX9_rests 21 = .ok (.iload_n 2, 1) := dec_of (decode cX9_rests) da_175 13 rfl
theorem dX9_rests_22 : decode cX9_rests 22 = .ok (.iload_n 3, 1) := dec_of (decode cX9_rests) da_175 14 rfl
theorem dX9_rests_23 : decode cX9_rests 23 = .ok (.invokevirtual 237, 3) := dec_of (decode cX9_rests) da_175 15 rfl
theorem dX9_rests_26 : decode cX9_rests 26 = .ok (.aload_n 0, 1) := dec_of (decode cX9_rests) da_175 16 rfl
theorem dX9_rests_27 : decode cX9_rests 27 = .ok (.getfield 61, 3) := dec_of (decode cX9_rests) da_175 17 rfl
theorem dX9_rests_30 : decode cX9_rests 30 = .ok (.getfield 241, 3) := dec_of (decode cX9_rests) da_175 18 rfl
theorem dX9_rests_33 : decode cX9_rests 33 = .ok (.ireturn, 1) := dec_of (decode cX9_rests) da_175 19 rfl
abbrev dl_176 : List (Nat × Except DecodeError (Instr × Nat)) := [(0, .ok (.aload_n 0, 1)), (1, .ok (.iload_n 1, 1)), (2, .ok (.iload_n 2, 1)), (3, .ok (.iload_n 3, 1)), (4, .ok (.invokevirtual 233, 3)), (7, .ok (.ifCond .eq 8, 3)), (10, .ok (.iload 4, 2)), (12, .ok (.ifCond .ge 5, 3)), (15, .ok (.iconst (-1), 1)), (16, .ok (.ireturn, 1)), (17, .ok (.aload_n 0, 1)), (18, .ok (.getfield 61, 3)), (21, .ok (.aload_n 0, 1)), (22, .ok (.getfield 29, 3)), (25, .ok (.iload_n 1, 1)), (26, .ok (.iload_n 2, 1)), (27, .ok (.iload_n 3, 1)), (28, .ok (.invokevirtual 237, 3)), (31, .ok (.iload 4, 2)), (33, .ok (.aload_n 0, 1)), (34, .ok (.getfield 61, 3)), (37, .ok (.getfield 241, 3)), (40, .ok (.if_icmp .ge 16, 3)), (43, .ok (.aload_n 0, 1)), (44, .ok (.getfield 61, 3)), (47, .ok (.getfield 244, 3)), (50, .ok (.iload 4, 2)), (52, .ok (.iaload, 1)), (53, .ok (.goto 5, 3)), (56, .ok (.bipush (-2), 2)), (58, .ok (.ireturn, 1))]
theorem da_176 : dl_176.all (fun q => decide (decode cX9_rest q.1 = q.2)) = true := by decide +kernel
theorem dX9_rest_0 : decode cX9_rest 0 = .ok (.aload_n 0, 1) := dec_of (decode cX9_rest) da_176 0 rfl
theorem dX9_rest_1 : decode cX9_rest 1 = .ok (.iload_n 1, 1) := dec_of (decode cX9_rest) da_176 1 rfl
theorem dX9_rest_2 : decode cX9_rest 2 = .ok (.iload_n 2, 1) := dec_of (decode cX9_rest) da_176 2 rfl
theorem dX9_rest_3 : decode cX9_rest 3 = .ok (.iload_n 3, 1) := dec_of (decode cX9_rest) da_176 3 rfl
theorem dX9_rest_4 : decode cX9_rest 4 = .ok (.invokevirtual 233, 3) := dec_of (decode cX9_rest) da_176 4 rfl
theorem dX9_rest_7 : decode cX9_rest 7 = .ok (.ifCond .eq 8, 3) := dec_of (decode cX9_rest) da_176 5 rfl
theorem dX9_rest_10 : decode cX9_rest 10 = .ok (.iload 4, 2) := dec_of (decode cX9_rest) da_176 6 rfl
theorem dX9_rest_12 : decode cX9_rest 12 = .ok (.ifCond .ge 5, 3) := dec_of (decode cX9_rest) da_176 7 rfl
theorem dX9_rest_15 : decode cX9_rest 15 = .ok (.iconst (-1), 1) := dec_of (decode cX9_rest) da_176 8 rfl
theorem dX9_rest_16 : decode cX9_rest 16 = .ok (.ireturn, 1) := dec_of (decode cX9_rest) da_176 9 rfl
theorem dX9_rest_17 : decode cX9_rest 17 = .ok (.aload_n 0, 1) := dec_of (decode cX9_rest) da_176 10 rfl
theorem dX9_rest_18 : decode cX9_rest 18 = .ok (.getfield 61, 3) := dec_of (decode cX9_rest) da_176 11 rfl
theorem dX9_rest_21 : decode cX9_rest 21 = .ok (.aload_n 0, 1) := dec_of (decode cX9_rest) da_176 12 rfl
theorem dX9_rest_22 : decode cX9_rest 22 = .ok (.getfield 29, 3) := dec_of (decode cX9_rest) da_176 13 rfl
theorem dX9_rest_25 : decode cX9_rest 25 = .ok (.iload_n 1, 1) := dec_of (decode cX9_rest) da_176 14 rfl
theorem dX9_rest_26 : decode cX9_rest 26 = .ok (.iload_n 2, 1) := dec_of (decode cX9_rest) da_176 15 rfl
theorem dX9_rest_27 : decode cX9_rest 27 = .ok (.iload_n 3, 1) := dec_of (decode cX9_rest) da_176 16 rfl
theorem dX9_rest_28 : decode cX9_rest 28 = .ok (.invokevirtual 237, 3) := dec_of (decode cX9_rest) da_176 17 rfl
theorem dX9_rest_31 : decode cX9_rest 31 = .ok (.iload 4, 2) := dec_of (decode cX9_rest) da_176 18 rfl
theorem dX9_rest_33 : decode cX9_rest 33 = .ok (.aload_n 0, 1) := dec_of (decode cX9_rest) da_176 19 rfl
theorem dX9_rest_34 : decode cX9_rest 34 = .ok (.getfield 61, 3) := dec_of (decode cX9_rest) da_176 20 rfl
theorem dX9_rest_37 : decode cX9_rest 37 = .ok (.getfield 241, 3) := dec_of (decode cX9_rest) da_176 21 rfl
theorem dX9_rest_40 : decode cX9_rest 40 = .ok (.if_icmp .ge 16, 3) := dec_of (decode cX9_rest) da_176 22 rfl
theorem dX9_rest_43 : decode cX9_rest 43 = .ok (.aload_n 0, 1) := dec_of (decode cX9_rest) da_176 23 rfl
theorem dX9_rest_44 : decode cX9_rest 44 = .ok (.getfield 61, 3) := dec_of (decode cX9_rest) da_176 24 rfl
theorem dX9_rest_47 : decode cX9_rest 47 = .ok (.getfield 244, 3) := dec_of (decode cX9_rest) da_176 25 rfl
theorem dX9_rest_50 : decode cX9_rest 50 = .ok (.iload 4, 2) := dec_of (decode cX9_rest) da_176 26 rfl
theorem dX9_rest_52 : decode cX9_rest 52 = .ok (.iaload, 1) := dec_of (decode cX9_rest) da_176 27 rfl
theorem dX9_rest_53 : decode cX9_rest 53 = .ok (.goto 5, 3) := dec_of (decode cX9_rest) da_176 28 rfl
theorem dX9_rest_56 : decode cX9_rest 56 = .ok (.bipush (-2), 2) := dec_of (decode cX9_rest) da_176 29 rfl
theorem dX9_rest_58 : decode cX9_rest 58 = .ok (.ireturn, 1) := dec_of (decode cX9_rest) da_176 30 rfl
abbrev dl_177 : List (Nat × Except DecodeError (Instr × Nat)) := [(0, .ok (.aload_n 0, 1)), (1, .ok (.iload_n 1, 1)), (2, .ok (.invokevirtual 165, 3)), (5, .ok (.ifCond .eq 29, 3)), (8, .ok (.aload_n 0, 1)), (9, .ok (.iload_n 2, 1)), (10, .ok (.invokevirtual 104, 3)), (13, .ok (.ifCond .eq 21, 3)), (16, .ok (.aload_n 0, 1)), (17, .ok (.iload_n 3, 1)), (18, .ok (.iconst 1, 1)), (19, .ok (.invokevirtual 247, 3)), (22, .ok (.ifCond .eq 12, 3)), (25, .ok (.aload_n 0, 1)), (26, .ok (.iload 4, 2)), (28, .ok (.invokevirtual 223, 3)), (31, .ok (.ifCond .ne 5, 3)), (34, .ok (.iconst (-1), 1)), (35, .ok (.ireturn, 1)), (36, .ok (.aload_n 0, 1)), (37, .ok (.getfield 61, 3)), (40, .ok (.aload_n 0, 1)), (41, .ok (.getfield 29, 3)), (44, .ok (.iload_n 1, 1)), (45, .ok (.iload_n 2, 1)), (46, .ok (.iload_n 3, 1)), (47, .ok (.iload 4, 2)), (49, .ok (.invokevirtual 251, 3)), (52, .ok (.ireturn, 1))]
theorem da_177 : dl_177.all (fun q => decide (decode cX9_best q.1 = q.2)) = true := by decide +kernel
theorem dX9_best_0 : decode cX9_best 0 = .ok (.aload_n 0, 1) := dec_of (decode cX9_best) da_177 0 rfl
theorem dX9_best_1 : decode cX9_best 1 = .ok (.iload_n 1, 1) := dec_of (decode cX9_best) da_177 1 rfl
theorem dX9_best_2 : decode cX9_best 2 = .ok (.invokevirtual 165, 3) := dec_of (decode cX9_best) da_177 2 rfl
theorem dX9_best_5 : decode cX9_best 5 = .ok (.ifCond .eq 29, 3) := dec_of (decode cX9_best) da_177 3 rfl
theorem dX9_best_8 : decode cX9_best 8 = .ok (.aload_n 0, 1) := dec_of (decode cX9_best) da_177 4 rfl
theorem dX9_best_9 : decode cX9_best 9 = .ok (.iload_n 2, 1) := dec_of (decode cX9_best) da_177 5 rfl
theorem dX9_best_10 : decode cX9_best 10 = .ok (.invokevirtual 104, 3) := dec_of (decode cX9_best) da_177 6 rfl
theorem dX9_best_13 : decode cX9_best 13 = .ok (.ifCond .eq 21, 3) := dec_of (decode cX9_best) da_177 7 rfl
theorem dX9_best_16 : decode cX9_best 16 = .ok (.aload_n 0, 1) := dec_of (decode cX9_best) da_177 8 rfl
theorem dX9_best_17 : decode cX9_best 17 = .ok (.iload_n 3, 1) := dec_of (decode cX9_best) da_177 9 rfl
theorem dX9_best_18 : decode cX9_best 18 = .ok (.iconst 1, 1) := dec_of (decode cX9_best) da_177 10 rfl
theorem dX9_best_19 : decode cX9_best 19 = .ok (.invokevirtual 247, 3) := dec_of (decode cX9_best) da_177 11 rfl
theorem dX9_best_22 : decode cX9_best 22 = .ok (.ifCond .eq 12, 3) := dec_of (decode cX9_best) da_177 12 rfl
theorem dX9_best_25 : decode cX9_best 25 = .ok (.aload_n 0, 1) := dec_of (decode cX9_best) da_177 13 rfl
theorem dX9_best_26 : decode cX9_best 26 = .ok (.iload 4, 2) := dec_of (decode cX9_best) da_177 14 rfl
theorem dX9_best_28 : decode cX9_best 28 = .ok (.invokevirtual 223, 3) := dec_of (decode cX9_best) da_177 15 rfl
theorem dX9_best_31 : decode cX9_best 31 = .ok (.ifCond .ne 5, 3) := dec_of (decode cX9_best) da_177 16 rfl
theorem dX9_best_34 : decode cX9_best 34 = .ok (.iconst (-1), 1) := dec_of (decode cX9_best) da_177 17 rfl
theorem dX9_best_35 : decode cX9_best 35 = .ok (.ireturn, 1) := dec_of (decode cX9_best) da_177 18 rfl
theorem dX9_best_36 : decode cX9_best 36 = .ok (.aload_n 0, 1) := dec_of (decode cX9_best) da_177 19 rfl
theorem dX9_best_37 : decode cX9_best 37 = .ok (.getfield 61, 3) := dec_of (decode cX9_best) da_177 20 rfl
theorem dX9_best_40 : decode cX9_best 40 = .ok (.aload_n 0, 1) := dec_of (decode cX9_best) da_177 21 rfl
theorem dX9_best_41 : decode cX9_best 41 = .ok (.getfield 29, 3) := dec_of (decode cX9_best) da_177 22 rfl
theorem dX9_best_44 : decode cX9_best 44 = .ok (.iload_n 1, 1) := dec_of (decode cX9_best) da_177 23 rfl
theorem dX9_best_45 : decode cX9_best 45 = .ok (.iload_n 2, 1) := dec_of (decode cX9_best) da_177 24 rfl
theorem dX9_best_46 : decode cX9_best 46 = .ok (.iload_n 3, 1) := dec_of (decode cX9_best) da_177 25 rfl
theorem dX9_best_47 : decode cX9_best 47 = .ok (.iload 4, 2) := dec_of (decode cX9_best) da_177 26 rfl
theorem dX9_best_49 : decode cX9_best 49 = .ok (.invokevirtual 251, 3) := dec_of (decode cX9_best) da_177 27 rfl
theorem dX9_best_52 : decode cX9_best 52 = .ok (.ireturn, 1) := dec_of (decode cX9_best) da_177 28 rfl
abbrev dl_178 : List (Nat × Except DecodeError (Instr × Nat)) := [(0, .ok (.aload_n 0, 1)), (1, .ok (.iload_n 1, 1)), (2, .ok (.invokevirtual 165, 3)), (5, .ok (.ifCond .eq 20, 3)), (8, .ok (.aload_n 0, 1)), (9, .ok (.iload_n 2, 1)), (10, .ok (.iconst 1, 1)), (11, .ok (.invokevirtual 247, 3)), (14, .ok (.ifCond .eq 11, 3)), (17, .ok (.aload_n 0, 1)), (18, .ok (.iload_n 3, 1)), (19, .ok (.invokevirtual 223, 3)), (22, .ok (.ifCond .ne 5, 3)), (25, .ok (.iconst (-1), 1)), (26, .ok (.ireturn, 1)), (27, .ok (.aload_n 0, 1)), (28, .ok (.getfield 61, 3)), (31, .ok (.aload_n 0, 1)), (32, .ok (.getfield 29, 3)), (35, .ok (.iload_n 1, 1)), (36, .ok (.iload_n 2, 1)), (37, .ok (.iload_n 3, 1)), (38, .ok (.invokevirtual 255, 3)), (41, .ok (.ireturn, 1))]
theorem da_178 : dl_178.all (fun q => decide (decode cX9_fairest q.1 = q.2)) = true := by decide +kernel
theorem dX9_fairest_0 : decode cX9_fairest 0 = .ok (.aload_n 0, 1) := dec_of (decode cX9_fairest) da_178 0 rfl
theorem dX9_fairest_1 : decode cX9_fairest 1 = .ok (.iload_n 1, 1) := dec_of (decode cX9_fairest) da_178 1 rfl
theorem dX9_fairest_2 : decode cX9_fairest 2 = .ok (.invokevirtual 165, 3) := dec_of (decode cX9_fairest) da_178 2 rfl
theorem dX9_fairest_5 : decode cX9_fairest 5 = .ok (.ifCond .eq 20, 3) := dec_of (decode cX9_fairest) da_178 3 rfl
theorem dX9_fairest_8 : decode cX9_fairest 8 = .ok (.aload_n 0, 1) := dec_of (decode cX9_fairest) da_178 4 rfl
theorem dX9_fairest_9 : decode cX9_fairest 9 = .ok (.iload_n 2, 1) := dec_of (decode cX9_fairest) da_178 5 rfl
theorem dX9_fairest_10 : decode cX9_fairest 10 = .ok (.iconst 1, 1) := dec_of (decode cX9_fairest) da_178 6 rfl
theorem dX9_fairest_11 : decode cX9_fairest 11 = .ok (.invokevirtual 247, 3) := dec_of (decode cX9_fairest) da_178 7 rfl
theorem dX9_fairest_14 : decode cX9_fairest 14 = .ok (.ifCond .eq 11, 3) := dec_of (decode cX9_fairest) da_178 8 rfl
theorem dX9_fairest_17 : decode cX9_fairest 17 = .ok (.aload_n 0, 1) := dec_of (decode cX9_fairest) da_178 9 rfl
theorem dX9_fairest_18 : decode cX9_fairest 18 = .ok (.iload_n 3, 1) := dec_of (decode cX9_fairest) da_178 10 rfl
theorem dX9_fairest_19 : decode cX9_fairest 19 = .ok (.invokevirtual 223, 3) := dec_of (decode cX9_fairest) da_178 11 rfl
theorem dX9_fairest_22 : decode cX9_fairest 22 = .ok (.ifCond .ne 5, 3) := dec_of (decode cX9_fairest) da_178 12 rfl
theorem dX9_fairest_25 : decode cX9_fairest 25 = .ok (.iconst (-1), 1) := dec_of (decode cX9_fairest) da_178 13 rfl
theorem dX9_fairest_26 : decode cX9_fairest 26 = .ok (.ireturn, 1) := dec_of (decode cX9_fairest) da_178 14 rfl
theorem dX9_fairest_27 : decode cX9_fairest 27 = .ok (.aload_n 0, 1) := dec_of (decode cX9_fairest) da_178 15 rfl
theorem dX9_fairest_28 : decode cX9_fairest 28 = .ok (.getfield 61, 3) := dec_of (decode cX9_fairest) da_178 16 rfl
theorem dX9_fairest_31 : decode cX9_fairest 31 = .ok (.aload_n 0, 1) := dec_of (decode cX9_fairest) da_178 17 rfl
theorem dX9_fairest_32 : decode cX9_fairest 32 = .ok (.getfield 29, 3) := dec_of (decode cX9_fairest) da_178 18 rfl
theorem dX9_fairest_35 : decode cX9_fairest 35 = .ok (.iload_n 1, 1) := dec_of (decode cX9_fairest) da_178 19 rfl
theorem dX9_fairest_36 : decode cX9_fairest 36 = .ok (.iload_n 2, 1) := dec_of (decode cX9_fairest) da_178 20 rfl
theorem dX9_fairest_37 : decode cX9_fairest 37 = .ok (.iload_n 3, 1) := dec_of (decode cX9_fairest) da_178 21 rfl
theorem dX9_fairest_38 : decode cX9_fairest 38 = .ok (.invokevirtual 255, 3) := dec_of (decode cX9_fairest) da_178 22 rfl
theorem dX9_fairest_41 : decode cX9_fairest 41 = .ok (.ireturn, 1) := dec_of (decode cX9_fairest) da_178 23 rfl
abbrev dl_179 : List (Nat × Except DecodeError (Instr × Nat)) := [(0, .ok (.iload_n 1, 1)), (1, .ok (.ifCond .lt 23, 3)), (4, .ok (.iload_n 1, 1)), (5, .ok (.aload_n 0, 1)), (6, .ok (.getfield 29, 3)), (9, .ok (.getfield 179, 3)), (12, .ok (.if_icmp .ge 12, 3)), (15, .ok (.aload_n 0, 1)), (16, .ok (.iload_n 2, 1)), (17, .ok (.iconst 1, 1)), (18, .ok (.invokevirtual 247, 3)), (21, .ok (.ifCond .ne 5, 3)), (24, .ok (.iconst (-1), 1)), (25, .ok (.ireturn, 1)), (26, .ok (.aload_n 0, 1)), (27, .ok (.getfield 61, 3)), (30, .ok (.aload_n 0, 1)), (31, .ok (.getfield 29, 3)), (34, .ok (.iload_n 1, 1)), (35, .ok (.iload_n 2, 1)), (36, .ok (.invokevirtual 258, 3)), (39, .ok (.ireturn, 1))]
theorem da_179 : dl_179.all (fun q => decide (decode cX9_gain q.1 = q.2)) = true := by decide +kernel
theorem dX9_gain_0 : decode cX9_gain 0 = .ok (.iload_n 1, 1) := dec_of (decode cX9_gain) da_179 0 rfl
theorem dX9_gain_1 : decode cX9_gain 1 = .ok (.ifCond .lt 23, 3) := dec_of (decode cX9_gain) da_179 1 rfl
theorem dX9_gain_4 : decode cX9_gain 4 = .ok (.iload_n 1, 1) := dec_of (decode cX9_gain) da_179 2 rfl
theorem dX9_gain_5 : decode cX9_gain 5 = .ok (.aload_n 0, 1) := dec_of (decode cX9_gain) da_179 3 rfl
theorem dX9_gain_6 : decode cX9_gain 6 = .ok (.getfield 29, 3) := dec_of (decode cX9_gain) da_179 4 rfl
theorem dX9_gain_9 : decode cX9_gain 9 = .ok (.getfield 179, 3) := dec_of (decode cX9_gain) da_179 5 rfl
theorem dX9_gain_12 : decode cX9_gain 12 = .ok (.if_icmp .ge 12, 3) := dec_of (decode cX9_gain) da_179 6 rfl
theorem dX9_gain_15 : decode cX9_gain 15 = .ok (.aload_n 0, 1) := dec_of (decode cX9_gain) da_179 7 rfl
theorem dX9_gain_16 : decode cX9_gain 16 = .ok (.iload_n 2, 1) := dec_of (decode cX9_gain) da_179 8 rfl
theorem dX9_gain_17 : decode cX9_gain 17 = .ok (.iconst 1, 1) := dec_of (decode cX9_gain) da_179 9 rfl
theorem dX9_gain_18 : decode cX9_gain 18 = .ok (.invokevirtual 247, 3) := dec_of (decode cX9_gain) da_179 10 rfl
theorem dX9_gain_21 : decode cX9_gain 21 = .ok (.ifCond .ne 5, 3) := dec_of (decode cX9_gain) da_179 11 rfl
theorem dX9_gain_24 : decode cX9_gain 24 = .ok (.iconst (-1), 1) := dec_of (decode cX9_gain) da_179 12 rfl
theorem dX9_gain_25 : decode cX9_gain 25 = .ok (.ireturn, 1) := dec_of (decode cX9_gain) da_179 13 rfl
theorem dX9_gain_26 : decode cX9_gain 26 = .ok (.aload_n 0, 1) := dec_of (decode cX9_gain) da_179 14 rfl
theorem dX9_gain_27 : decode cX9_gain 27 = .ok (.getfield 61, 3) := dec_of (decode cX9_gain) da_179 15 rfl
theorem dX9_gain_30 : decode cX9_gain 30 = .ok (.aload_n 0, 1) := dec_of (decode cX9_gain) da_179 16 rfl
theorem dX9_gain_31 : decode cX9_gain 31 = .ok (.getfield 29, 3) := dec_of (decode cX9_gain) da_179 17 rfl
theorem dX9_gain_34 : decode cX9_gain 34 = .ok (.iload_n 1, 1) := dec_of (decode cX9_gain) da_179 18 rfl
theorem dX9_gain_35 : decode cX9_gain 35 = .ok (.iload_n 2, 1) := dec_of (decode cX9_gain) da_179 19 rfl
theorem dX9_gain_36 : decode cX9_gain 36 = .ok (.invokevirtual 258, 3) := dec_of (decode cX9_gain) da_179 20 rfl
theorem dX9_gain_39 : decode cX9_gain 39 = .ok (.ireturn, 1) := dec_of (decode cX9_gain) da_179 21 rfl
abbrev dl_180 : List (Nat × Except DecodeError (Instr × Nat)) := [(0, .ok (.iload_n 1, 1)), (1, .ok (.ifCond .lt 17, 3)), (4, .ok (.iload_n 1, 1)), (5, .ok (.bipush 59, 2)), (7, .ok (.if_icmp .gt 11, 3)), (10, .ok (.aload_n 0, 1)), (11, .ok (.iload_n 2, 1)), (12, .ok (.invokevirtual 159, 3)), (15, .ok (.ifCond .ne 5, 3)), (18, .ok (.iconst (-1), 1)), (19, .ok (.ireturn, 1)), (20, .ok (.iload_n 3, 1)), (21, .ok (.iconst (-1), 1)), (22, .ok (.if_icmp .eq 13, 3)), (25, .ok (.aload_n 0, 1)), (26, .ok (.iload_n 3, 1)), (27, .ok (.invokevirtual 104, 3)), (30, .ok (.ifCond .ne 5, 3)), (33, .ok (.iconst (-1), 1)), (34, .ok (.ireturn, 1)), (35, .ok (.aload_n 0, 1)), (36, .ok (.getfield 54, 3)), (39, .ok (.iload_n 1, 1)), (40, .ok (.iload_n 2, 1)), (41, .ok (.iload_n 3, 1)), (42, .ok (.iconst (-1), 1)), (43, .ok (.if_icmp .ne 8, 3)), (46, .ok (.bipush (-2), 2)), (48, .ok (.goto 4, 3)), (51, .ok (.iload_n 3, 1)), (52, .ok (.invokevirtual 262, 3)), (55, .ok (.ireturn, 1))]
theorem da_180 : dl_180.all (fun q => decide (decode cX9_stone q.1 = q.2)) = true := by decide +kernel
theorem dX9_stone_0 : decode cX9_stone 0 = .ok (.iload_n 1, 1) := dec_of (decode cX9_stone) da_180 0 rfl
theorem dX9_stone_1 : decode cX9_stone 1 = .ok (.ifCond .lt 17, 3) := dec_of (decode cX9_stone) da_180 1 rfl
theorem dX9_stone_4 : decode cX9_stone 4 = .ok (.iload_n 1, 1) := dec_of (decode cX9_stone) da_180 2 rfl
theorem dX9_stone_5 : decode cX9_stone 5 = .ok (.bipush 59, 2) := dec_of (decode cX9_stone) da_180 3 rfl
theorem dX9_stone_7 : decode cX9_stone 7 = .ok (.if_icmp .gt 11, 3) := dec_of (decode cX9_stone) da_180 4 rfl
theorem dX9_stone_10 : decode cX9_stone 10 = .ok (.aload_n 0, 1) := dec_of (decode cX9_stone) da_180 5 rfl
theorem dX9_stone_11 : decode cX9_stone 11 = .ok (.iload_n 2, 1) := dec_of (decode cX9_stone) da_180 6 rfl
theorem dX9_stone_12 : decode cX9_stone 12 = .ok (.invokevirtual 159, 3) := dec_of (decode cX9_stone) da_180 7 rfl
theorem dX9_stone_15 : decode cX9_stone 15 = .ok (.ifCond .ne 5, 3) := dec_of (decode cX9_stone) da_180 8 rfl
theorem dX9_stone_18 : decode cX9_stone 18 = .ok (.iconst (-1), 1) := dec_of (decode cX9_stone) da_180 9 rfl
theorem dX9_stone_19 : decode cX9_stone 19 = .ok (.ireturn, 1) := dec_of (decode cX9_stone) da_180 10 rfl
theorem dX9_stone_20 : decode cX9_stone 20 = .ok (.iload_n 3, 1) := dec_of (decode cX9_stone) da_180 11 rfl
theorem dX9_stone_21 : decode cX9_stone 21 = .ok (.iconst (-1), 1) := dec_of (decode cX9_stone) da_180 12 rfl
theorem dX9_stone_22 : decode cX9_stone 22 = .ok (.if_icmp .eq 13, 3) := dec_of (decode cX9_stone) da_180 13 rfl
theorem dX9_stone_25 : decode cX9_stone 25 = .ok (.aload_n 0, 1) := dec_of (decode cX9_stone) da_180 14 rfl
theorem dX9_stone_26 : decode cX9_stone 26 = .ok (.iload_n 3, 1) := dec_of (decode cX9_stone) da_180 15 rfl
theorem dX9_stone_27 : decode cX9_stone 27 = .ok (.invokevirtual 104, 3) := dec_of (decode cX9_stone) da_180 16 rfl
theorem dX9_stone_30 : decode cX9_stone 30 = .ok (.ifCond .ne 5, 3) := dec_of (decode cX9_stone) da_180 17 rfl
theorem dX9_stone_33 : decode cX9_stone 33 = .ok (.iconst (-1), 1) := dec_of (decode cX9_stone) da_180 18 rfl
theorem dX9_stone_34 : decode cX9_stone 34 = .ok (.ireturn, 1) := dec_of (decode cX9_stone) da_180 19 rfl
theorem dX9_stone_35 : decode cX9_stone 35 = .ok (.aload_n 0, 1) := dec_of (decode cX9_stone) da_180 20 rfl
theorem dX9_stone_36 : decode cX9_stone 36 = .ok (.getfield 54, 3) := dec_of (decode cX9_stone) da_180 21 rfl
theorem dX9_stone_39 : decode cX9_stone 39 = .ok (.iload_n 1, 1) := dec_of (decode cX9_stone) da_180 22 rfl
theorem dX9_stone_40 : decode cX9_stone 40 = .ok (.iload_n 2, 1) := dec_of (decode cX9_stone) da_180 23 rfl
theorem dX9_stone_41 : decode cX9_stone 41 = .ok (.iload_n 3, 1) := dec_of (decode cX9_stone) da_180 24 rfl
theorem dX9_stone_42 : decode cX9_stone 42 = .ok (.iconst (-1), 1) := dec_of (decode cX9_stone) da_180 25 rfl
theorem dX9_stone_43 : decode cX9_stone 43 = .ok (.if_icmp .ne 8, 3) := dec_of (decode cX9_stone) da_180 26 rfl
theorem dX9_stone_46 : decode cX9_stone 46 = .ok (.bipush (-2), 2) := dec_of (decode cX9_stone) da_180 27 rfl
theorem dX9_stone_48 : decode cX9_stone 48 = .ok (.goto 4, 3) := dec_of (decode cX9_stone) da_180 28 rfl
theorem dX9_stone_51 : decode cX9_stone 51 = .ok (.iload_n 3, 1) := dec_of (decode cX9_stone) da_180 29 rfl
theorem dX9_stone_52 : decode cX9_stone 52 = .ok (.invokevirtual 262, 3) := dec_of (decode cX9_stone) da_180 30 rfl
theorem dX9_stone_55 : decode cX9_stone 55 = .ok (.ireturn, 1) := dec_of (decode cX9_stone) da_180 31 rfl
abbrev dl_181 : List (Nat × Except DecodeError (Instr × Nat)) := [(0, .ok (.aload_n 0, 1)), (1, .ok (.getfield 54, 3)), (4, .ok (.iload_n 1, 1)), (5, .ok (.invokevirtual 266, 3)), (8, .ok (.ireturn, 1))]
theorem da_181 : dl_181.all (fun q => decide (decode cX9_strike q.1 = q.2)) = true := by decide +kernel
theorem dX9_strike_0 : decode cX9_strike 0 = .ok (.aload_n 0, 1) := dec_of (decode cX9_strike) da_181 0 rfl
theorem dX9_strike_1 : decode cX9_strike 1 = .ok (.getfield 54, 3) := dec_of (decode cX9_strike) da_181 1 rfl
theorem dX9_strike_4 : decode cX9_strike 4 = .ok (.iload_n 1, 1) := dec_of (decode cX9_strike) da_181 2 rfl
theorem dX9_strike_5 : decode cX9_strike 5 = .ok (.invokevirtual 266, 3) := dec_of (decode cX9_strike) da_181 3 rfl
theorem dX9_strike_8 : decode cX9_strike 8 = .ok (.ireturn, 1) := dec_of (decode cX9_strike) da_181 4 rfl
abbrev dl_182 : List (Nat × Except DecodeError (Instr × Nat)) := [(0, .ok (.aload_n 0, 1)), (1, .ok (.getfield 54, 3)), (4, .ok (.iload_n 1, 1)), (5, .ok (.invokevirtual 269, 3)), (8, .ok (.ireturn, 1))]
theorem da_182 : dl_182.all (fun q => decide (decode cX9_known q.1 = q.2)) = true := by decide +kernel
theorem dX9_known_0 : decode cX9_known 0 = .ok (.aload_n 0, 1) := dec_of (decode cX9_known) da_182 0 rfl
theorem dX9_known_1 : decode cX9_known 1 = .ok (.getfield 54, 3) := dec_of (decode cX9_known) da_182 1 rfl
theorem dX9_known_4 : decode cX9_known 4 = .ok (.iload_n 1, 1) := dec_of (decode cX9_known) da_182 2 rfl
theorem dX9_known_5 : decode cX9_known 5 = .ok (.invokevirtual 269, 3) := dec_of (decode cX9_known) da_182 3 rfl
theorem dX9_known_8 : decode cX9_known 8 = .ok (.ireturn, 1) := dec_of (decode cX9_known) da_182 4 rfl
abbrev dl_183 : List (Nat × Except DecodeError (Instr × Nat)) := [(0, .ok (.aload_n 0, 1)), (1, .ok (.getfield 54, 3)), (4, .ok (.aload_n 0, 1)), (5, .ok (.getfield 19, 3)), (8, .ok (.invokevirtual 272, 3)), (11, .ok (.aload_n 0, 1)), (12, .ok (.getfield 54, 3)), (15, .ok (.getfield 275, 3)), (18, .ok (.ireturn, 1))]
theorem da_183 : dl_183.all (fun q => decide (decode cX9_came q.1 = q.2)) = true := by decide +kernel
theorem dX9_came_0 : decode cX9_came 0 = .ok (.aload_n 0, 1) := dec_of (decode cX9_came) da_183 0 rfl
theorem dX9_came_1 : decode cX9_came 1 = .ok (.getfield 54, 3) := dec_of (decode cX9_came) da_183 1 rfl
theorem dX9_came_4 : decode cX9_came 4 = .ok (.aload_n 0, 1) := dec_of (decode cX9_came) da_183 2 rfl
theorem dX9_came_5 : decode cX9_came 5 = .ok (.getfield 19, 3) := dec_of (decode cX9_came) da_183 3 rfl
theorem dX9_came_8 : decode cX9_came 8 = .ok (.invokevirtual 272, 3) := dec_of (decode cX9_came) da_183 4 rfl
theorem dX9_came_11 : decode cX9_came 11 = .ok (.aload_n 0, 1) := dec_of (decode cX9_came) da_183 5 rfl
theorem dX9_came_12 : decode cX9_came 12 = .ok (.getfield 54, 3) := dec_of (decode cX9_came) da_183 6 rfl
theorem dX9_came_15 : decode cX9_came 15 = .ok (.getfield 275, 3) := dec_of (decode cX9_came) da_183 7 rfl
theorem dX9_came_18 : decode cX9_came 18 = .ok (.ireturn, 1) := dec_of (decode cX9_came) da_183 8 rfl
abbrev dl_184 : List (Nat × Except DecodeError (Instr × Nat)) := [(0, .ok (.iload_n 1, 1)), (1, .ok (.ifCond .lt 11, 3)), (4, .ok (.aload_n 0, 1)), (5, .ok (.iload_n 2, 1)), (6, .ok (.invokevirtual 223, 3)), (9, .ok (.ifCond .ne 5, 3)), (12, .ok (.iconst (-1), 1)), (13, .ok (.ireturn, 1)), (14, .ok (.aload_n 0, 1)), (15, .ok (.getfield 54, 3)), (18, .ok (.aload_n 0, 1)), (19, .ok (.getfield 19, 3)), (22, .ok (.invokevirtual 272, 3)), (25, .ok (.iload_n 1, 1)), (26, .ok (.aload_n 0, 1)), (27, .ok (.getfield 54, 3)), (30, .ok (.getfield 275, 3)), (33, .ok (.if_icmp .lt 6, 3)), (36, .ok (.bipush (-2), 2)), (38, .ok (.ireturn, 1)), (39, .ok (.iload_n 2, 1)), (40, .ok (.ifCond .ne 15, 3)), (43, .ok (.aload_n 0, 1)), (44, .ok (.getfield 54, 3)), (47, .ok (.getfield 278, 3)), (50, .ok (.iload_n 1, 1)), (51, .ok (.iaload, 1)), (52, .ok (.goto 12, 3)), (55, .ok (.aload_n 0, 1)), (56, .ok (.getfield 54, 3)), (59, .ok (.getfield 281, 3)), (62, .ok (.iload_n 1, 1)), (63, .ok (.iaload, 1)), (64, .ok (.ireturn, 1))]
theorem da_184 : dl_184.all (fun q => decide (decode cX9_one q.1 = q.2)) = true := by decide +kernel
theorem dX9_one_0 : decode cX9_one 0 = .ok (.iload_n 1, 1) := dec_of (decode cX9_one) da_184 0 rfl
theorem dX9_one_1 : decode cX9_one 1 = .ok (.ifCond .lt 11, 3) := dec_of (decode cX9_one) da_184 1 rfl
theorem dX9_one_4 : decode cX9_one 4 = .ok (.aload_n 0, 1) := dec_of (decode cX9_one) da_184 2 rfl
theorem dX9_one_5 : decode cX9_one 5 = .ok (.iload_n 2, 1) := dec_of (decode cX9_one) da_184 3 rfl
theorem dX9_one_6 : decode cX9_one 6 = .ok (.invokevirtual 223, 3) := dec_of (decode cX9_one) da_184 4 rfl
theorem dX9_one_9 : decode cX9_one 9 = .ok (.ifCond .ne 5, 3) := dec_of (decode cX9_one) da_184 5 rfl
theorem dX9_one_12 : decode cX9_one 12 = .ok (.iconst (-1), 1) := dec_of (decode cX9_one) da_184 6 rfl
theorem dX9_one_13 : decode cX9_one 13 = .ok (.ireturn, 1) := dec_of (decode cX9_one) da_184 7 rfl
theorem dX9_one_14 : decode cX9_one 14 = .ok (.aload_n 0, 1) := dec_of (decode cX9_one) da_184 8 rfl
theorem dX9_one_15 : decode cX9_one 15 = .ok (.getfield 54, 3) := dec_of (decode cX9_one) da_184 9 rfl
theorem dX9_one_18 : decode cX9_one 18 = .ok (.aload_n 0, 1) := dec_of (decode cX9_one) da_184 10 rfl
theorem dX9_one_19 : decode cX9_one 19 = .ok (.getfield 19, 3) := dec_of (decode cX9_one) da_184 11 rfl
theorem dX9_one_22 : decode cX9_one 22 = .ok (.invokevirtual 272, 3) := dec_of (decode cX9_one) da_184 12 rfl
theorem dX9_one_25 : decode cX9_one 25 = .ok (.iload_n 1, 1) := dec_of (decode cX9_one) da_184 13 rfl
theorem dX9_one_26 : decode cX9_one 26 = .ok (.aload_n 0, 1) := dec_of (decode cX9_one) da_184 14 rfl
theorem dX9_one_27 : decode cX9_one 27 = .ok (.getfield 54, 3) := dec_of (decode cX9_one) da_184 15 rfl
theorem dX9_one_30 : decode cX9_one 30 = .ok (.getfield 275, 3) := dec_of (decode cX9_one) da_184 16 rfl
theorem dX9_one_33 : decode cX9_one 33 = .ok (.if_icmp .lt 6, 3) := dec_of (decode cX9_one) da_184 17 rfl
theorem dX9_one_36 : decode cX9_one 36 = .ok (.bipush (-2), 2) := dec_of (decode cX9_one) da_184 18 rfl
theorem dX9_one_38 : decode cX9_one 38 = .ok (.ireturn, 1) := dec_of (decode cX9_one) da_184 19 rfl
theorem dX9_one_39 : decode cX9_one 39 = .ok (.iload_n 2, 1) := dec_of (decode cX9_one) da_184 20 rfl
theorem dX9_one_40 : decode cX9_one 40 = .ok (.ifCond .ne 15, 3) := dec_of (decode cX9_one) da_184 21 rfl
theorem dX9_one_43 : decode cX9_one 43 = .ok (.aload_n 0, 1) := dec_of (decode cX9_one) da_184 22 rfl
theorem dX9_one_44 : decode cX9_one 44 = .ok (.getfield 54, 3) := dec_of (decode cX9_one) da_184 23 rfl
theorem dX9_one_47 : decode cX9_one 47 = .ok (.getfield 278, 3) := dec_of (decode cX9_one) da_184 24 rfl
theorem dX9_one_50 : decode cX9_one 50 = .ok (.iload_n 1, 1) := dec_of (decode cX9_one) da_184 25 rfl
theorem dX9_one_51 : decode cX9_one 51 = .ok (.iaload, 1) := dec_of (decode cX9_one) da_184 26 rfl
theorem dX9_one_52 : decode cX9_one 52 = .ok (.goto 12, 3) := dec_of (decode cX9_one) da_184 27 rfl
theorem dX9_one_55 : decode cX9_one 55 = .ok (.aload_n 0, 1) := dec_of (decode cX9_one) da_184 28 rfl
theorem dX9_one_56 : decode cX9_one 56 = .ok (.getfield 54, 3) := dec_of (decode cX9_one) da_184 29 rfl
theorem dX9_one_59 : decode cX9_one 59 = .ok (.getfield 281, 3) := dec_of (decode cX9_one) da_184 30 rfl
theorem dX9_one_62 : decode cX9_one 62 = .ok (.iload_n 1, 1) := dec_of (decode cX9_one) da_184 31 rfl
theorem dX9_one_63 : decode cX9_one 63 = .ok (.iaload, 1) := dec_of (decode cX9_one) da_184 32 rfl
theorem dX9_one_64 : decode cX9_one 64 = .ok (.ireturn, 1) := dec_of (decode cX9_one) da_184 33 rfl
abbrev dl_185 : List (Nat × Except DecodeError (Instr × Nat)) := [(0, .ok (.aload_n 0, 1)), (1, .ok (.iload_n 1, 1)), (2, .ok (.iconst 1, 1)), (3, .ok (.invokevirtual 247, 3)), (6, .ok (.ifCond .eq 11, 3)), (9, .ok (.aload_n 0, 1)), (10, .ok (.iload_n 2, 1)), (11, .ok (.invokevirtual 223, 3)), (14, .ok (.ifCond .ne 5, 3)), (17, .ok (.iconst (-1), 1)), (18, .ok (.ireturn, 1)), (19, .ok (.aload_n 0, 1)), (20, .ok (.getfield 61, 3)), (23, .ok (.aload_n 0, 1)), (24, .ok (.getfield 29, 3)), (27, .ok (.iload_n 1, 1)), (28, .ok (.iload_n 2, 1)), (29, .ok (.invokevirtual 284, 3)), (32, .ok (.ireturn, 1))]
theorem da_185 : dl_185.all (fun q => decide (decode cX9_empty q.1 = q.2)) = true := by decide +kernel
theorem dX9_empty_0 : decode cX9_empty 0 = .ok (.aload_n 0, 1) := dec_of (decode cX9_empty) da_185 0 rfl
theorem dX9_empty_1 : decode cX9_empty 1 = .ok (.iload_n 1, 1) := dec_of (decode cX9_empty) da_185 1 rfl
theorem dX9_empty_2 : decode cX9_empty 2 = .ok (.iconst 1, 1) := dec_of (decode cX9_empty) da_185 2 rfl
theorem dX9_empty_3 : decode cX9_empty 3 = .ok (.invokevirtual 247, 3) := dec_of (decode cX9_empty) da_185 3 rfl
theorem dX9_empty_6 : decode cX9_empty 6 = .ok (.ifCond .eq 11, 3) := dec_of (decode cX9_empty) da_185 4 rfl
theorem dX9_empty_9 : decode cX9_empty 9 = .ok (.aload_n 0, 1) := dec_of (decode cX9_empty) da_185 5 rfl
theorem dX9_empty_10 : decode cX9_empty 10 = .ok (.iload_n 2, 1) := dec_of (decode cX9_empty) da_185 6 rfl
theorem dX9_empty_11 : decode cX9_empty 11 = .ok (.invokevirtual 223, 3) := dec_of (decode cX9_empty) da_185 7 rfl
theorem dX9_empty_14 : decode cX9_empty 14 = .ok (.ifCond .ne 5, 3) := dec_of (decode cX9_empty) da_185 8 rfl
theorem dX9_empty_17 : decode cX9_empty 17 = .ok (.iconst (-1), 1) := dec_of (decode cX9_empty) da_185 9 rfl
theorem dX9_empty_18 : decode cX9_empty 18 = .ok (.ireturn, 1) := dec_of (decode cX9_empty) da_185 10 rfl
theorem dX9_empty_19 : decode cX9_empty 19 = .ok (.aload_n 0, 1) := dec_of (decode cX9_empty) da_185 11 rfl
theorem dX9_empty_20 : decode cX9_empty 20 = .ok (.getfield 61, 3) := dec_of (decode cX9_empty) da_185 12 rfl
theorem dX9_empty_23 : decode cX9_empty 23 = .ok (.aload_n 0, 1) := dec_of (decode cX9_empty) da_185 13 rfl
theorem dX9_empty_24 : decode cX9_empty 24 = .ok (.getfield 29, 3) := dec_of (decode cX9_empty) da_185 14 rfl
theorem dX9_empty_27 : decode cX9_empty 27 = .ok (.iload_n 1, 1) := dec_of (decode cX9_empty) da_185 15 rfl
theorem dX9_empty_28 : decode cX9_empty 28 = .ok (.iload_n 2, 1) := dec_of (decode cX9_empty) da_185 16 rfl
theorem dX9_empty_29 : decode cX9_empty 29 = .ok (.invokevirtual 284, 3) := dec_of (decode cX9_empty) da_185 17 rfl
theorem dX9_empty_32 : decode cX9_empty 32 = .ok (.ireturn, 1) := dec_of (decode cX9_empty) da_185 18 rfl
abbrev dl_186 : List (Nat × Except DecodeError (Instr × Nat)) := [(0, .ok (.iload_n 1, 1)), (1, .ok (.ifCond .lt 20, 3)), (4, .ok (.aload_n 0, 1)), (5, .ok (.iload_n 2, 1)), (6, .ok (.invokevirtual 104, 3)), (9, .ok (.ifCond .eq 12, 3)), (12, .ok (.aload_n 0, 1)), (13, .ok (.iload_n 3, 1)), (14, .ok (.iconst 1, 1)), (15, .ok (.invokevirtual 247, 3)), (18, .ok (.ifCond .ne 5, 3)), (21, .ok (.iconst (-1), 1)), (22, .ok (.ireturn, 1)), (23, .ok (.aload_n 0, 1)), (24, .ok (.getfield 61, 3)), (27, .ok (.aload_n 0, 1)), (28, .ok (.getfield 29, 3)), (31, .ok (.iload_n 1, 1)), (32, .ok (.iload_n 2, 1)), (33, .ok (.iload_n 3, 1)), (34, .ok (.invokevirtual 287, 3)), (37, .ok (.ireturn, 1))]
theorem da_186 : dl_186.all (fun q => decide (decode cX9_chance q.1 = q.2)) = true := by decide +kernel
theorem dX9_chance_0 : decode cX9_chance 0 = .ok (.iload_n 1, 1) := dec_of (decode cX9_chance) da_186 0 rfl
theorem dX9_chance_1 : decode cX9_chance 1 = .ok (.ifCond .lt 20, 3) := dec_of (decode cX9_chance) da_186 1 rfl
theorem dX9_chance_4 : decode cX9_chance 4 = .ok (.aload_n 0, 1) := dec_of (decode cX9_chance) da_186 2 rfl
theorem dX9_chance_5 : decode cX9_chance 5 = .ok (.iload_n 2, 1) := dec_of (decode cX9_chance) da_186 3 rfl
theorem dX9_chance_6 : decode cX9_chance 6 = .ok (.invokevirtual 104, 3) := dec_of (decode cX9_chance) da_186 4 rfl
theorem dX9_chance_9 : decode cX9_chance 9 = .ok (.ifCond .eq 12, 3) := dec_of (decode cX9_chance) da_186 5 rfl
theorem dX9_chance_12 : decode cX9_chance 12 = .ok (.aload_n 0, 1) := dec_of (decode cX9_chance) da_186 6 rfl
theorem dX9_chance_13 : decode cX9_chance 13 = .ok (.iload_n 3, 1) := dec_of (decode cX9_chance) da_186 7 rfl
theorem dX9_chance_14 : decode cX9_chance 14 = .ok (.iconst 1, 1) := dec_of (decode cX9_chance) da_186 8 rfl
theorem dX9_chance_15 : decode cX9_chance 15 = .ok (.invokevirtual 247, 3) := dec_of (decode cX9_chance) da_186 9 rfl
theorem dX9_chance_18 : decode cX9_chance 18 = .ok (.ifCond .ne 5, 3) := dec_of (decode cX9_chance) da_186 10 rfl
theorem dX9_chance_21 : decode cX9_chance 21 = .ok (.iconst (-1), 1) := dec_of (decode cX9_chance) da_186 11 rfl
theorem dX9_chance_22 : decode cX9_chance 22 = .ok (.ireturn, 1) := dec_of (decode cX9_chance) da_186 12 rfl
theorem dX9_chance_23 : decode cX9_chance 23 = .ok (.aload_n 0, 1) := dec_of (decode cX9_chance) da_186 13 rfl
theorem dX9_chance_24 : decode cX9_chance 24 = .ok (.getfield 61, 3) := dec_of (decode cX9_chance) da_186 14 rfl
theorem dX9_chance_27 : decode cX9_chance 27 = .ok (.aload_n 0, 1) := dec_of (decode cX9_chance) da_186 15 rfl
theorem dX9_chance_28 : decode cX9_chance 28 = .ok (.getfield 29, 3) := dec_of (decode cX9_chance) da_186 16 rfl
theorem dX9_chance_31 : decode cX9_chance 31 = .ok (.iload_n 1, 1) := dec_of (decode cX9_chance) da_186 17 rfl
theorem dX9_chance_32 : decode cX9_chance 32 = .ok (.iload_n 2, 1) := dec_of (decode cX9_chance) da_186 18 rfl
theorem dX9_chance_33 : decode cX9_chance 33 = .ok (.iload_n 3, 1) := dec_of (decode cX9_chance) da_186 19 rfl
theorem dX9_chance_34 : decode cX9_chance 34 = .ok (.invokevirtual 287, 3) := dec_of (decode cX9_chance) da_186 20 rfl
theorem dX9_chance_37 : decode cX9_chance 37 = .ok (.ireturn, 1) := dec_of (decode cX9_chance) da_186 21 rfl
abbrev dl_187 : List (Nat × Except DecodeError (Instr × Nat)) := [(0, .ok (.iload_n 1, 1)), (1, .ok (.ifCond .lt 17, 3)), (4, .ok (.iload_n 1, 1)), (5, .ok (.iconst 5, 1)), (6, .ok (.if_icmp .gt 12, 3)), (9, .ok (.aload_n 0, 1)), (10, .ok (.iload_n 3, 1)), (11, .ok (.iconst 0, 1)), (12, .ok (.invokevirtual 247, 3)), (15, .ok (.ifCond .ne 5, 3)), (18, .ok (.iconst (-1), 1)), (19, .ok (.ireturn, 1)), (20, .ok (.iload_n 1, 1)), (21, .ok (.iconst 2, 1)), (22, .ok (.if_icmp .ne 14, 3)), (25, .ok (.aload_n 0, 1)), (26, .ok (.iload_n 2, 1)), (27, .ok (.invokevirtual 104, 3)), (30, .ok (.ifCond .ne 12, 3)), (33, .ok (.goto 7, 3)), (36, .ok (.iload_n 2, 1)), (37, .ok (.ifCond .eq 5, 3)), (40, .ok (.iconst (-1), 1)), (41, .ok (.ireturn, 1)), (42, .ok (.aload_n 0, 1)), (43, .ok (.getfield 61, 3)), (46, .ok (.aload_n 0, 1)), (47, .ok (.getfield 29, 3)), (50, .ok (.iload_n 1, 1)), (51, .ok (.iload_n 2, 1)), (52, .ok (.iload_n 3, 1)), (53, .ok (.invokevirtual 290, 3)), (56, .ok (.ireturn, 1))]
theorem da_187 : dl_187.all (fun q => decide (decode cX9_tried q.1 = q.2)) = true := by decide +kernel
theorem dX9_tried_0 : decode cX9_tried 0 = .ok (.iload_n 1, 1) := dec_of (decode cX9_tried) da_187 0 rfl
theorem dX9_tried_1 : decode cX9_tried 1 = .ok (.ifCond .lt 17, 3) := dec_of (decode cX9_tried) da_187 1 rfl
theorem dX9_tried_4 : decode cX9_tried 4 = .ok (.iload_n 1, 1) := dec_of (decode cX9_tried) da_187 2 rfl
theorem dX9_tried_5 : decode cX9_tried 5 = .ok (.iconst 5, 1) := dec_of (decode cX9_tried) da_187 3 rfl
theorem dX9_tried_6 : decode cX9_tried 6 = .ok (.if_icmp .gt 12, 3) := dec_of (decode cX9_tried) da_187 4 rfl
theorem dX9_tried_9 : decode cX9_tried 9 = .ok (.aload_n 0, 1) := dec_of (decode cX9_tried) da_187 5 rfl
theorem dX9_tried_10 : decode cX9_tried 10 = .ok (.iload_n 3, 1) := dec_of (decode cX9_tried) da_187 6 rfl
theorem dX9_tried_11 : decode cX9_tried 11 = .ok (.iconst 0, 1) := dec_of (decode cX9_tried) da_187 7 rfl
theorem dX9_tried_12 : decode cX9_tried 12 = .ok (.invokevirtual 247, 3) := dec_of (decode cX9_tried) da_187 8 rfl
theorem dX9_tried_15 : decode cX9_tried 15 = .ok (.ifCond .ne 5, 3) := dec_of (decode cX9_tried) da_187 9 rfl
theorem dX9_tried_18 : decode cX9_tried 18 = .ok (.iconst (-1), 1) := dec_of (decode cX9_tried) da_187 10 rfl
theorem dX9_tried_19 : decode cX9_tried 19 = .ok (.ireturn, 1) := dec_of (decode cX9_tried) da_187 11 rfl
theorem dX9_tried_20 : decode cX9_tried 20 = .ok (.iload_n 1, 1) := dec_of (decode cX9_tried) da_187 12 rfl
theorem dX9_tried_21 : decode cX9_tried 21 = .ok (.iconst 2, 1) := dec_of (decode cX9_tried) da_187 13 rfl
theorem dX9_tried_22 : decode cX9_tried 22 = .ok (.if_icmp .ne 14, 3) := dec_of (decode cX9_tried) da_187 14 rfl
theorem dX9_tried_25 : decode cX9_tried 25 = .ok (.aload_n 0, 1) := dec_of (decode cX9_tried) da_187 15 rfl
theorem dX9_tried_26 : decode cX9_tried 26 = .ok (.iload_n 2, 1) := dec_of (decode cX9_tried) da_187 16 rfl
theorem dX9_tried_27 : decode cX9_tried 27 = .ok (.invokevirtual 104, 3) := dec_of (decode cX9_tried) da_187 17 rfl
theorem dX9_tried_30 : decode cX9_tried 30 = .ok (.ifCond .ne 12, 3) := dec_of (decode cX9_tried) da_187 18 rfl
theorem dX9_tried_33 : decode cX9_tried 33 = .ok (.goto 7, 3) := dec_of (decode cX9_tried) da_187 19 rfl
theorem dX9_tried_36 : decode cX9_tried 36 = .ok (.iload_n 2, 1) := dec_of (decode cX9_tried) da_187 20 rfl
theorem dX9_tried_37 : decode cX9_tried 37 = .ok (.ifCond .eq 5, 3) := dec_of (decode cX9_tried) da_187 21 rfl
theorem dX9_tried_40 : decode cX9_tried 40 = .ok (.iconst (-1), 1) := dec_of (decode cX9_tried) da_187 22 rfl
theorem dX9_tried_41 : decode cX9_tried 41 = .ok (.ireturn, 1) := dec_of (decode cX9_tried) da_187 23 rfl
theorem dX9_tried_42 : decode cX9_tried 42 = .ok (.aload_n 0, 1) := dec_of (decode cX9_tried) da_187 24 rfl
theorem dX9_tried_43 : decode cX9_tried 43 = .ok (.getfield 61, 3) := dec_of (decode cX9_tried) da_187 25 rfl
theorem dX9_tried_46 : decode cX9_tried 46 = .ok (.aload_n 0, 1) := dec_of (decode cX9_tried) da_187 26 rfl
theorem dX9_tried_47 : decode cX9_tried 47 = .ok (.getfield 29, 3) := dec_of (decode cX9_tried) da_187 27 rfl
theorem dX9_tried_50 : decode cX9_tried 50 = .ok (.iload_n 1, 1) := dec_of (decode cX9_tried) da_187 28 rfl
theorem dX9_tried_51 : decode cX9_tried 51 = .ok (.iload_n 2, 1) := dec_of (decode cX9_tried) da_187 29 rfl
theorem dX9_tried_52 : decode cX9_tried 52 = .ok (.iload_n 3, 1) := dec_of (decode cX9_tried) da_187 30 rfl
theorem dX9_tried_53 : decode cX9_tried 53 = .ok (.invokevirtual 290, 3) := dec_of (decode cX9_tried) da_187 31 rfl
theorem dX9_tried_56 : decode cX9_tried 56 = .ok (.ireturn, 1) := dec_of (decode cX9_tried) da_187 32 rfl
abbrev dl_188 : List (Nat × Except DecodeError (Instr × Nat)) := [(0, .ok (.aload_n 0, 1)), (1, .ok (.getfield 40, 3)), (4, .ok (.aload_n 0, 1)), (5, .ok (.getfield 29, 3)), (8, .ok (.invokevirtual 293, 3)), (11, .ok (.ifCond .eq 13, 3)), (14, .ok (.aload_n 0, 1)), (15, .ok (.getfield 40, 3)), (18, .ok (.getfield 297, 3)), (21, .ok (.goto 4, 3)), (24, .ok (.iconst (-1), 1)), (25, .ok (.ireturn, 1))]
theorem da_188 : dl_188.all (fun q => decide (decode cX9_undo q.1 = q.2)) = true := by decide +kernel
theorem dX9_undo_0 : decode cX9_undo 0 = .ok (.aload_n 0, 1) := dec_of (decode cX9_undo) da_188 0 rfl
theorem dX9_undo_1 : decode cX9_undo 1 = .ok (.getfield 40, 3) := dec_of (decode cX9_undo) da_188 1 rfl
theorem dX9_undo_4 : decode cX9_undo 4 = .ok (.aload_n 0, 1) := dec_of (decode cX9_undo) da_188 2 rfl
theorem dX9_undo_5 : decode cX9_undo 5 = .ok (.getfield 29, 3) := dec_of (decode cX9_undo) da_188 3 rfl
theorem dX9_undo_8 : decode cX9_undo 8 = .ok (.invokevirtual 293, 3) := dec_of (decode cX9_undo) da_188 4 rfl
theorem dX9_undo_11 : decode cX9_undo 11 = .ok (.ifCond .eq 13, 3) := dec_of (decode cX9_undo) da_188 5 rfl
theorem dX9_undo_14 : decode cX9_undo 14 = .ok (.aload_n 0, 1) := dec_of (decode cX9_undo) da_188 6 rfl
theorem dX9_undo_15 : decode cX9_undo 15 = .ok (.getfield 40, 3) := dec_of (decode cX9_undo) da_188 7 rfl
theorem dX9_undo_18 : decode cX9_undo 18 = .ok (.getfield 297, 3) := dec_of (decode cX9_undo) da_188 8 rfl
theorem dX9_undo_21 : decode cX9_undo 21 = .ok (.goto 4, 3) := dec_of (decode cX9_undo) da_188 9 rfl
theorem dX9_undo_24 : decode cX9_undo 24 = .ok (.iconst (-1), 1) := dec_of (decode cX9_undo) da_188 10 rfl
theorem dX9_undo_25 : decode cX9_undo 25 = .ok (.ireturn, 1) := dec_of (decode cX9_undo) da_188 11 rfl
abbrev dl_189 : List (Nat × Except DecodeError (Instr × Nat)) := [(0, .ok (.aload_n 0, 1)), (1, .ok (.getfield 44, 3)), (4, .ok (.aload_n 0, 1)), (5, .ok (.getfield 29, 3)), (8, .ok (.invokevirtual 298, 3)), (11, .ok (.aload_n 0, 1)), (12, .ok (.iconst 1, 1)), (13, .ok (.putfield 47, 3)), (16, .ok (.aload_n 0, 1)), (17, .ok (.getfield 29, 3)), (20, .ok (.getfield 186, 3)), (23, .ok (.ireturn, 1))]
theorem da_189 : dl_189.all (fun q => decide (decode cX9_keep q.1 = q.2)) = true := by decide +kernel
theorem dX9_keep_0 : decode cX9_keep 0 = .ok (.aload_n 0, 1) := dec_of (decode cX9_keep) da_189 0 rfl
theorem dX9_keep_1 : decode cX9_keep 1 = .ok (.getfield 44, 3) := dec_of (decode cX9_keep) da_189 1 rfl
theorem dX9_keep_4 : decode cX9_keep 4 = .ok (.aload_n 0, 1) := dec_of (decode cX9_keep) da_189 2 rfl
theorem dX9_keep_5 : decode cX9_keep 5 = .ok (.getfield 29, 3) := dec_of (decode cX9_keep) da_189 3 rfl
theorem dX9_keep_8 : decode cX9_keep 8 = .ok (.invokevirtual 298, 3) := dec_of (decode cX9_keep) da_189 4 rfl
theorem dX9_keep_11 : decode cX9_keep 11 = .ok (.aload_n 0, 1) := dec_of (decode cX9_keep) da_189 5 rfl
theorem dX9_keep_12 : decode cX9_keep 12 = .ok (.iconst 1, 1) := dec_of (decode cX9_keep) da_189 6 rfl
theorem dX9_keep_13 : decode cX9_keep 13 = .ok (.putfield 47, 3) := dec_of (decode cX9_keep) da_189 7 rfl
theorem dX9_keep_16 : decode cX9_keep 16 = .ok (.aload_n 0, 1) := dec_of (decode cX9_keep) da_189 8 rfl
theorem dX9_keep_17 : decode cX9_keep 17 = .ok (.getfield 29, 3) := dec_of (decode cX9_keep) da_189 9 rfl
theorem dX9_keep_20 : decode cX9_keep 20 = .ok (.getfield 186, 3) := dec_of (decode cX9_keep) da_189 10 rfl
theorem dX9_keep_23 : decode cX9_keep 23 = .ok (.ireturn, 1) := dec_of (decode cX9_keep) da_189 11 rfl
abbrev dl_190 : List (Nat × Except DecodeError (Instr × Nat)) := [(0, .ok (.aload_n 0, 1)), (1, .ok (.getfield 47, 3)), (4, .ok (.ifCond .ne 5, 3)), (7, .ok (.iconst (-1), 1)), (8, .ok (.ireturn, 1)), (9, .ok (.aload_n 0, 1)), (10, .ok (.getfield 29, 3)), (13, .ok (.aload_n 0, 1)), (14, .ok (.getfield 44, 3)), (17, .ok (.invokevirtual 298, 3)), (20, .ok (.aload_n 0, 1)), (21, .ok (.getfield 40, 3)), (24, .ok (.invokevirtual 87, 3)), (27, .ok (.aload_n 0, 1)), (28, .ok (.getfield 29, 3)), (31, .ok (.getfield 186, 3)), (34, .ok (.ireturn, 1))]
theorem da_190 : dl_190.all (fun q => decide (decode cX9_back q.1 = q.2)) = true := by decide +kernel
theorem dX9_back_0 : decode cX9_back 0 = .ok (.aload_n 0, 1) := dec_of (decode cX9_back) da_190 0 rfl
theorem dX9_back_1 : decode cX9_back 1 = .ok (.getfield 47, 3) := dec_of (decode cX9_back) da_190 1 rfl
theorem dX9_back_4 : decode cX9_back 4 = .ok (.ifCond .ne 5, 3) := dec_of (decode cX9_back) da_190 2 rfl
theorem dX9_back_7 : decode cX9_back 7 = .ok (.iconst (-1), 1) := dec_of (decode cX9_back) da_190 3 rfl
theorem dX9_back_8 : decode cX9_back 8 = .ok (.ireturn, 1) := dec_of (decode cX9_back) da_190 4 rfl
theorem dX9_back_9 : decode cX9_back 9 = .ok (.aload_n 0, 1) := dec_of (decode cX9_back) da_190 5 rfl
theorem dX9_back_10 : decode cX9_back 10 = .ok (.getfield 29, 3) := dec_of (decode cX9_back) da_190 6 rfl
theorem dX9_back_13 : decode cX9_back 13 = .ok (.aload_n 0, 1) := dec_of (decode cX9_back) da_190 7 rfl
theorem dX9_back_14 : decode cX9_back 14 = .ok (.getfield 44, 3) := dec_of (decode cX9_back) da_190 8 rfl
theorem dX9_back_17 : decode cX9_back 17 = .ok (.invokevirtual 298, 3) := dec_of (decode cX9_back) da_190 9 rfl
theorem dX9_back_20 : decode cX9_back 20 = .ok (.aload_n 0, 1) := dec_of (decode cX9_back) da_190 10 rfl
theorem dX9_back_21 : decode cX9_back 21 = .ok (.getfield 40, 3) := dec_of (decode cX9_back) da_190 11 rfl
theorem dX9_back_24 : decode cX9_back 24 = .ok (.invokevirtual 87, 3) := dec_of (decode cX9_back) da_190 12 rfl
theorem dX9_back_27 : decode cX9_back 27 = .ok (.aload_n 0, 1) := dec_of (decode cX9_back) da_190 13 rfl
theorem dX9_back_28 : decode cX9_back 28 = .ok (.getfield 29, 3) := dec_of (decode cX9_back) da_190 14 rfl
theorem dX9_back_31 : decode cX9_back 31 = .ok (.getfield 186, 3) := dec_of (decode cX9_back) da_190 15 rfl
theorem dX9_back_34 : decode cX9_back 34 = .ok (.ireturn, 1) := dec_of (decode cX9_back) da_190 16 rfl
abbrev dl_191 : List (Nat × Except DecodeError (Instr × Nat)) := [(0, .ok (.iload_n 1, 1)), (1, .ok (.tableswitch 203 0 14 #[75, 83, 91, 99, 107, 116, 125, 133, 141, 149, 157, 165, 175, 185, 195], 75)), (76, .ok (.aload_n 0, 1)), (77, .ok (.getfield 19, 3)), (80, .ok (.getfield 301, 3)), (83, .ok (.ireturn, 1)), (84, .ok (.aload_n 0, 1)), (85, .ok (.getfield 19, 3)), (88, .ok (.getfield 304, 3)), (91, .ok (.ireturn, 1)), (92, .ok (.aload_n 0, 1)), (93, .ok (.getfield 29, 3)), (96, .ok (.getfield 186, 3)), (99, .ok (.ireturn, 1)), (100, .ok (.aload_n 0, 1)), (101, .ok (.getfield 29, 3)), (104, .ok (.getfield 179, 3)), (107, .ok (.ireturn, 1)), (108, .ok (.aload_n 0, 1)), (109, .ok (.getfield 29, 3)), (112, .ok (.iconst 2, 1)), (113, .ok (.invokevirtual 307, 3)), (116, .ok (.ireturn, 1)), (117, .ok (.aload_n 0, 1)), (118, .ok (.getfield 29, 3)), (121, .ok (.iconst 3, 1)), (122, .ok (.invokevirtual 307, 3)), (125, .ok (.ireturn, 1)), (126, .ok (.aload_n 0, 1)), (127, .ok (.getfield 29, 3)), (130, .ok (.getfield 310, 3)), (133, .ok (.ireturn, 1)), (134, .ok (.aload_n 0, 1)), (135, .ok (.getfield 29, 3)), (138, .ok (.invokevirtual 313, 3)), (141, .ok (.ireturn, 1)), (142, .ok (.aload_n 0, 1)), (143, .ok (.getfield 54, 3)), (146, .ok (.getfield 317, 3)), (149, .ok (.ireturn, 1))]
theorem da_191 : dl_191.all (fun q => decide (decode cX9_count q.1 = q.2)) = true := by decide +kernel
theorem dX9_count_0 : decode cX9_count 0 = .ok (.iload_n 1, 1) := dec_of (decode cX9_count) da_191 0 rfl
theorem dX9_count_1 : decode cX9_count 1 = .ok (.tableswitch 203 0 14 #[75, 83, 91, 99, 107, 116, 125, 133, 141, 149, 157, 165, 175, 185, 195], 75) := dec_of (decode cX9_count) da_191 1 rfl
theorem dX9_count_76 : decode cX9_count 76 = .ok (.aload_n 0, 1) := dec_of (decode cX9_count) da_191 2 rfl
theorem dX9_count_77 : decode cX9_count 77 = .ok (.getfield 19, 3) := dec_of (decode cX9_count) da_191 3 rfl
theorem dX9_count_80 : decode cX9_count 80 = .ok (.getfield 301, 3) := dec_of (decode cX9_count) da_191 4 rfl
theorem dX9_count_83 : decode cX9_count 83 = .ok (.ireturn, 1) := dec_of (decode cX9_count) da_191 5 rfl
theorem dX9_count_84 : decode cX9_count 84 = .ok (.aload_n 0, 1) := dec_of (decode cX9_count) da_191 6 rfl
theorem dX9_count_85 : decode cX9_count 85 = .ok (.getfield 19, 3) := dec_of (decode cX9_count) da_191 7 rfl
theorem dX9_count_88 : decode cX9_count 88 = .ok (.getfield 304, 3) := dec_of (decode cX9_count) da_191 8 rfl
theorem dX9_count_91 : decode cX9_count 91 = .ok (.ireturn, 1) := dec_of (decode cX9_count) da_191 9 rfl
theorem dX9_count_92 : decode cX9_count 92 = .ok (.aload_n 0, 1) := dec_of (decode cX9_count) da_191 10 rfl
theorem dX9_count_93 : decode cX9_count 93 = .ok (.getfield 29, 3) := dec_of (decode cX9_count) da_191 11 rfl
theorem dX9_count_96 : decode cX9_count 96 = .ok (.getfield 186, 3) := dec_of (decode cX9_count) da_191 12 rfl
theorem dX9_count_99 : decode cX9_count 99 = .ok (.ireturn, 1) := dec_of (decode cX9_count) da_191 13 rfl
theorem dX9_count_100 : decode cX9_count 100 = .ok (.aload_n 0, 1) := dec_of (decode cX9_count) da_191 14 rfl
theorem dX9_count_101 : decode cX9_count 101 = .ok (.getfield 29, 3) := dec_of (decode cX9_count) da_191 15 rfl
theorem dX9_count_104 : decode cX9_count 104 = .ok (.getfield 179, 3) := dec_of (decode cX9_count) da_191 16 rfl
theorem dX9_count_107 : decode cX9_count 107 = .ok (.ireturn, 1) := dec_of (decode cX9_count) da_191 17 rfl
theorem dX9_count_108 : decode cX9_count 108 = .ok (.aload_n 0, 1) := dec_of (decode cX9_count) da_191 18 rfl
theorem dX9_count_109 : decode cX9_count 109 = .ok (.getfield 29, 3) := dec_of (decode cX9_count) da_191 19 rfl
theorem dX9_count_112 : decode cX9_count 112 = .ok (.iconst 2, 1) := dec_of (decode cX9_count) da_191 20 rfl
theorem dX9_count_113 : decode cX9_count 113 = .ok (.invokevirtual 307, 3) := dec_of (decode cX9_count) da_191 21 rfl
theorem dX9_count_116 : decode cX9_count 116 = .ok (.ireturn, 1) := dec_of (decode cX9_count) da_191 22 rfl
theorem dX9_count_117 : decode cX9_count 117 = .ok (.aload_n 0, 1) := dec_of (decode cX9_count) da_191 23 rfl
theorem dX9_count_118 : decode cX9_count 118 = .ok (.getfield 29, 3) := dec_of (decode cX9_count) da_191 24 rfl
theorem dX9_count_121 : decode cX9_count 121 = .ok (.iconst 3, 1) := dec_of (decode cX9_count) da_191 25 rfl
theorem dX9_count_122 : decode cX9_count 122 = .ok (.invokevirtual 307, 3) := dec_of (decode cX9_count) da_191 26 rfl
theorem dX9_count_125 : decode cX9_count 125 = .ok (.ireturn, 1) := dec_of (decode cX9_count) da_191 27 rfl
theorem dX9_count_126 : decode cX9_count 126 = .ok (.aload_n 0, 1) := dec_of (decode cX9_count) da_191 28 rfl
theorem dX9_count_127 : decode cX9_count 127 = .ok (.getfield 29, 3) := dec_of (decode cX9_count) da_191 29 rfl
theorem dX9_count_130 : decode cX9_count 130 = .ok (.getfield 310, 3) := dec_of (decode cX9_count) da_191 30 rfl
theorem dX9_count_133 : decode cX9_count 133 = .ok (.ireturn, 1) := dec_of (decode cX9_count) da_191 31 rfl
theorem dX9_count_134 : decode cX9_count 134 = .ok (.aload_n 0, 1) := dec_of (decode cX9_count) da_191 32 rfl
theorem dX9_count_135 : decode cX9_count 135 = .ok (.getfield 29, 3) := dec_of (decode cX9_count) da_191 33 rfl
theorem dX9_count_138 : decode cX9_count 138 = .ok (.invokevirtual 313, 3) := dec_of (decode cX9_count) da_191 34 rfl
theorem dX9_count_141 : decode cX9_count 141 = .ok (.ireturn, 1) := dec_of (decode cX9_count) da_191 35 rfl
theorem dX9_count_142 : decode cX9_count 142 = .ok (.aload_n 0, 1) := dec_of (decode cX9_count) da_191 36 rfl
theorem dX9_count_143 : decode cX9_count 143 = .ok (.getfield 54, 3) := dec_of (decode cX9_count) da_191 37 rfl
theorem dX9_count_146 : decode cX9_count 146 = .ok (.getfield 317, 3) := dec_of (decode cX9_count) da_191 38 rfl
theorem dX9_count_149 : decode cX9_count 149 = .ok (.ireturn, 1) := dec_of (decode cX9_count) da_191 39 rfl
abbrev dl_192 : List (Nat × Except DecodeError (Instr × Nat)) := [(150, .ok (.aload_n 0, 1)), (151, .ok (.getfield 54, 3)), (154, .ok (.invokevirtual 318, 3)), (157, .ok (.ireturn, 1)), (158, .ok (.aload_n 0, 1)), (159, .ok (.getfield 40, 3)), (162, .ok (.getfield 297, 3)), (165, .ok (.ireturn, 1)), (166, .ok (.aload_n 0, 1)), (167, .ok (.getfield 29, 3)), (170, .ok (.getfield 168, 3)), (173, .ok (.iconst 0, 1)), (174, .ok (.iaload, 1)), (175, .ok (.ireturn, 1)), (176, .ok (.aload_n 0, 1)), (177, .ok (.getfield 29, 3)), (180, .ok (.getfield 168, 3)), (183, .ok (.iconst 1, 1)), (184, .ok (.iaload, 1)), (185, .ok (.ireturn, 1)), (186, .ok (.aload_n 0, 1)), (187, .ok (.getfield 29, 3)), (190, .ok (.getfield 168, 3)), (193, .ok (.iconst 2, 1)), (194, .ok (.iaload, 1)), (195, .ok (.ireturn, 1)), (196, .ok (.aload_n 0, 1)), (197, .ok (.getfield 29, 3)), (200, .ok (.invokevirtual 321, 3)), (203, .ok (.ireturn, 1)), (204, .ok (.iconst (-1), 1)), (205, .ok (.ireturn, 1))]
theorem da_192 : dl_192.all (fun q => decide (decode cX9_count q.1 = q.2)) = true := by decide +kernel
theorem dX9_count_150 : decode cX9_count 150 = .ok (.aload_n 0, 1) := dec_of (decode cX9_count) da_192 0 rfl
theorem dX9_count_151 : decode cX9_count 151 = .ok (.getfield 54, 3) := dec_of (decode cX9_count) da_192 1 rfl
theorem dX9_count_154 : decode cX9_count 154 = .ok (.invokevirtual 318, 3) := dec_of (decode cX9_count) da_192 2 rfl
theorem dX9_count_157 : decode cX9_count 157 = .ok (.ireturn, 1) := dec_of (decode cX9_count) da_192 3 rfl
theorem dX9_count_158 : decode cX9_count 158 = .ok (.aload_n 0, 1) := dec_of (decode cX9_count) da_192 4 rfl
theorem dX9_count_159 : decode cX9_count 159 = .ok (.getfield 40, 3) := dec_of (decode cX9_count) da_192 5 rfl
theorem dX9_count_162 : decode cX9_count 162 = .ok (.getfield 297, 3) := dec_of (decode cX9_count) da_192 6 rfl
theorem dX9_count_165 : decode cX9_count 165 = .ok (.ireturn, 1) := dec_of (decode cX9_count) da_192 7 rfl
theorem dX9_count_166 : decode cX9_count 166 = .ok (.aload_n 0, 1) := dec_of (decode cX9_count) da_192 8 rfl
theorem dX9_count_167 : decode cX9_count 167 = .ok (.getfield 29, 3) := dec_of (decode cX9_count) da_192 9 rfl
theorem dX9_count_170 : decode cX9_count 170 = .ok (.getfield 168, 3) := dec_of (decode cX9_count) da_192 10 rfl
theorem dX9_count_173 : decode cX9_count 173 = .ok (.iconst 0, 1) := dec_of (decode cX9_count) da_192 11 rfl
theorem dX9_count_174 : decode cX9_count 174 = .ok (.iaload, 1) := dec_of (decode cX9_count) da_192 12 rfl
theorem dX9_count_175 : decode cX9_count 175 = .ok (.ireturn, 1) := dec_of (decode cX9_count) da_192 13 rfl
theorem dX9_count_176 : decode cX9_count 176 = .ok (.aload_n 0, 1) := dec_of (decode cX9_count) da_192 14 rfl
theorem dX9_count_177 : decode cX9_count 177 = .ok (.getfield 29, 3) := dec_of (decode cX9_count) da_192 15 rfl
theorem dX9_count_180 : decode cX9_count 180 = .ok (.getfield 168, 3) := dec_of (decode cX9_count) da_192 16 rfl
theorem dX9_count_183 : decode cX9_count 183 = .ok (.iconst 1, 1) := dec_of (decode cX9_count) da_192 17 rfl
theorem dX9_count_184 : decode cX9_count 184 = .ok (.iaload, 1) := dec_of (decode cX9_count) da_192 18 rfl
theorem dX9_count_185 : decode cX9_count 185 = .ok (.ireturn, 1) := dec_of (decode cX9_count) da_192 19 rfl
theorem dX9_count_186 : decode cX9_count 186 = .ok (.aload_n 0, 1) := dec_of (decode cX9_count) da_192 20 rfl
theorem dX9_count_187 : decode cX9_count 187 = .ok (.getfield 29, 3) := dec_of (decode cX9_count) da_192 21 rfl
theorem dX9_count_190 : decode cX9_count 190 = .ok (.getfield 168, 3) := dec_of (decode cX9_count) da_192 22 rfl
theorem dX9_count_193 : decode cX9_count 193 = .ok (.iconst 2, 1) := dec_of (decode cX9_count) da_192 23 rfl
theorem dX9_count_194 : decode cX9_count 194 = .ok (.iaload, 1) := dec_of (decode cX9_count) da_192 24 rfl
theorem dX9_count_195 : decode cX9_count 195 = .ok (.ireturn, 1) := dec_of (decode cX9_count) da_192 25 rfl
theorem dX9_count_196 : decode cX9_count 196 = .ok (.aload_n 0, 1) := dec_of (decode cX9_count) da_192 26 rfl
theorem dX9_count_197 : decode cX9_count 197 = .ok (.getfield 29, 3) := dec_of (decode cX9_count) da_192 27 rfl
theorem dX9_count_200 : decode cX9_count 200 = .ok (.invokevirtual 321, 3) := dec_of (decode cX9_count) da_192 28 rfl
theorem dX9_count_203 : decode cX9_count 203 = .ok (.ireturn, 1) := dec_of (decode cX9_count) da_192 29 rfl
theorem dX9_count_204 : decode cX9_count 204 = .ok (.iconst (-1), 1) := dec_of (decode cX9_count) da_192 30 rfl
theorem dX9_count_205 : decode cX9_count 205 = .ok (.ireturn, 1) := dec_of (decode cX9_count) da_192 31 rfl
abbrev dl_193 : List (Nat × Except DecodeError (Instr × Nat)) := [(0, .ok (.iload_n 1, 1)), (1, .ok (.ifCond .lt 18, 3)), (4, .ok (.iload_n 1, 1)), (5, .ok (.aload_n 0, 1)), (6, .ok (.getfield 19, 3)), (9, .ok (.getfield 301, 3)), (12, .ok (.if_icmp .ge 7, 3)), (15, .ok (.iconst 1, 1)), (16, .ok (.goto 4, 3)), (19, .ok (.iconst 0, 1)), (20, .ok (.ireturn, 1))]
theorem da_193 : dl_193.all (fun q => decide (decode cX9_isMan q.1 = q.2)) = true := by decide +kernel
theorem dX9_isMan_0 : decode cX9_isMan 0 = .ok (.iload_n 1, 1) := dec_of (decode cX9_isMan) da_193 0 rfl
theorem dX9_isMan_1 : decode cX9_isMan 1 = .ok (.ifCond .lt 18, 3) := dec_of (decode cX9_isMan) da_193 1 rfl
theorem dX9_isMan_4 : decode cX9_isMan 4 = .ok (.iload_n 1, 1) := dec_of (decode cX9_isMan) da_193 2 rfl
theorem dX9_isMan_5 : decode cX9_isMan 5 = .ok (.aload_n 0, 1) := dec_of (decode cX9_isMan) da_193 3 rfl
theorem dX9_isMan_6 : decode cX9_isMan 6 = .ok (.getfield 19, 3) := dec_of (decode cX9_isMan) da_193 4 rfl
theorem dX9_isMan_9 : decode cX9_isMan 9 = .ok (.getfield 301, 3) := dec_of (decode cX9_isMan) da_193 5 rfl
theorem dX9_isMan_12 : decode cX9_isMan 12 = .ok (.if_icmp .ge 7, 3) := dec_of (decode cX9_isMan) da_193 6 rfl
theorem dX9_isMan_15 : decode cX9_isMan 15 = .ok (.iconst 1, 1) := dec_of (decode cX9_isMan) da_193 7 rfl
theorem dX9_isMan_16 : decode cX9_isMan 16 = .ok (.goto 4, 3) := dec_of (decode cX9_isMan) da_193 8 rfl
theorem dX9_isMan_19 : decode cX9_isMan 19 = .ok (.iconst 0, 1) := dec_of (decode cX9_isMan) da_193 9 rfl
theorem dX9_isMan_20 : decode cX9_isMan 20 = .ok (.ireturn, 1) := dec_of (decode cX9_isMan) da_193 10 rfl
abbrev dl_194 : List (Nat × Except DecodeError (Instr × Nat)) := [(0, .ok (.aload_n 0, 1)), (1, .ok (.iload_n 1, 1)), (2, .ok (.invokevirtual 104, 3)), (5, .ok (.ifCond .eq 19, 3)), (8, .ok (.aload_n 0, 1)), (9, .ok (.getfield 29, 3)), (12, .ok (.getfield 139, 3)), (15, .ok (.iload_n 1, 1)), (16, .ok (.iaload, 1)), (17, .ok (.ifCond .ne 7, 3)), (20, .ok (.iconst 1, 1)), (21, .ok (.goto 4, 3)), (24, .ok (.iconst 0, 1)), (25, .ok (.ireturn, 1))]
theorem da_194 : dl_194.all (fun q => decide (decode cX9_isToCome q.1 = q.2)) = true := by decide +kernel
theorem dX9_isToCome_0 : decode cX9_isToCome 0 = .ok (.aload_n 0, 1) := dec_of (decode cX9_isToCome) da_194 0 rfl
theorem dX9_isToCome_1 : decode cX9_isToCome 1 = .ok (.iload_n 1, 1) := dec_of (decode cX9_isToCome) da_194 1 rfl
theorem dX9_isToCome_2 : decode cX9_isToCome 2 = .ok (.invokevirtual 104, 3) := dec_of (decode cX9_isToCome) da_194 2 rfl
theorem dX9_isToCome_5 : decode cX9_isToCome 5 = .ok (.ifCond .eq 19, 3) := dec_of (decode cX9_isToCome) da_194 3 rfl
theorem dX9_isToCome_8 : decode cX9_isToCome 8 = .ok (.aload_n 0, 1) := dec_of (decode cX9_isToCome) da_194 4 rfl
theorem dX9_isToCome_9 : decode cX9_isToCome 9 = .ok (.getfield 29, 3) := dec_of (decode cX9_isToCome) da_194 5 rfl
theorem dX9_isToCome_12 : decode cX9_isToCome 12 = .ok (.getfield 139, 3) := dec_of (decode cX9_isToCome) da_194 6 rfl
theorem dX9_isToCome_15 : decode cX9_isToCome 15 = .ok (.iload_n 1, 1) := dec_of (decode cX9_isToCome) da_194 7 rfl
theorem dX9_isToCome_16 : decode cX9_isToCome 16 = .ok (.iaload, 1) := dec_of (decode cX9_isToCome) da_194 8 rfl
theorem dX9_isToCome_17 : decode cX9_isToCome 17 = .ok (.ifCond .ne 7, 3) := dec_of (decode cX9_isToCome) da_194 9 rfl
theorem dX9_isToCome_20 : decode cX9_isToCome 20 = .ok (.iconst 1, 1) := dec_of (decode cX9_isToCome) da_194 10 rfl
theorem dX9_isToCome_21 : decode cX9_isToCome 21 = .ok (.goto 4, 3) := dec_of (decode cX9_isToCome) da_194 11 rfl
theorem dX9_isToCome_24 : decode cX9_isToCome 24 = .ok (.iconst 0, 1) := dec_of (decode cX9_isToCome) da_194 12 rfl
theorem dX9_isToCome_25 : decode cX9_isToCome 25 = .ok (.ireturn, 1) := dec_of (decode cX9_isToCome) da_194 13 rfl
abbrev dl_195 : List (Nat × Except DecodeError (Instr × Nat)) := [(0, .ok (.aload_n 0, 1)), (1, .ok (.iload_n 1, 1)), (2, .ok (.invokevirtual 104, 3)), (5, .ok (.ifCond .eq 20, 3)), (8, .ok (.aload_n 0, 1)), (9, .ok (.getfield 29, 3)), (12, .ok (.getfield 139, 3)), (15, .ok (.iload_n 1, 1)), (16, .ok (.iaload, 1)), (17, .ok (.iconst 1, 1)), (18, .ok (.if_icmp .ne 7, 3)), (21, .ok (.iconst 1, 1)), (22, .ok (.goto 4, 3)), (25, .ok (.iconst 0, 1)), (26, .ok (.ireturn, 1))]
theorem da_195 : dl_195.all (fun q => decide (decode cX9_isInQueue q.1 = q.2)) = true := by decide +kernel
theorem dX9_isInQueue_0 : decode cX9_isInQueue 0 = .ok (.aload_n 0, 1) := dec_of (decode cX9_isInQueue) da_195 0 rfl
theorem dX9_isInQueue_1 : decode cX9_isInQueue 1 = .ok (.iload_n 1, 1) := dec_of (decode cX9_isInQueue) da_195 1 rfl
theorem dX9_isInQueue_2 : decode cX9_isInQueue 2 = .ok (.invokevirtual 104, 3) := dec_of (decode cX9_isInQueue) da_195 2 rfl
theorem dX9_isInQueue_5 : decode cX9_isInQueue 5 = .ok (.ifCond .eq 20, 3) := dec_of (decode cX9_isInQueue) da_195 3 rfl
theorem dX9_isInQueue_8 : decode cX9_isInQueue 8 = .ok (.aload_n 0, 1) := dec_of (decode cX9_isInQueue) da_195 4 rfl
theorem dX9_isInQueue_9 : decode cX9_isInQueue 9 = .ok (.getfield 29, 3) := dec_of (decode cX9_isInQueue) da_195 5 rfl
theorem dX9_isInQueue_12 : decode cX9_isInQueue 12 = .ok (.getfield 139, 3) := dec_of (decode cX9_isInQueue) da_195 6 rfl
theorem dX9_isInQueue_15 : decode cX9_isInQueue 15 = .ok (.iload_n 1, 1) := dec_of (decode cX9_isInQueue) da_195 7 rfl
theorem dX9_isInQueue_16 : decode cX9_isInQueue 16 = .ok (.iaload, 1) := dec_of (decode cX9_isInQueue) da_195 8 rfl
theorem dX9_isInQueue_17 : decode cX9_isInQueue 17 = .ok (.iconst 1, 1) := dec_of (decode cX9_isInQueue) da_195 9 rfl
theorem dX9_isInQueue_18 : decode cX9_isInQueue 18 = .ok (.if_icmp .ne 7, 3) := dec_of (decode cX9_isInQueue) da_195 10 rfl
theorem dX9_isInQueue_21 : decode cX9_isInQueue 21 = .ok (.iconst 1, 1) := dec_of (decode cX9_isInQueue) da_195 11 rfl
theorem dX9_isInQueue_22 : decode cX9_isInQueue 22 = .ok (.goto 4, 3) := dec_of (decode cX9_isInQueue) da_195 12 rfl
theorem dX9_isInQueue_25 : decode cX9_isInQueue 25 = .ok (.iconst 0, 1) := dec_of (decode cX9_isInQueue) da_195 13 rfl
theorem dX9_isInQueue_26 : decode cX9_isInQueue 26 = .ok (.ireturn, 1) := dec_of (decode cX9_isInQueue) da_195 14 rfl
abbrev dl_196 : List (Nat × Except DecodeError (Instr × Nat)) := [(0, .ok (.iload_n 1, 1)), (1, .ok (.ifCond .lt 12, 3)), (4, .ok (.iload_n 1, 1)), (5, .ok (.iconst 3, 1)), (6, .ok (.if_icmp .ge 7, 3)), (9, .ok (.iconst 1, 1)), (10, .ok (.goto 4, 3)), (13, .ok (.iconst 0, 1)), (14, .ok (.ireturn, 1))]
theorem da_196 : dl_196.all (fun q => decide (decode cX9_isPower q.1 = q.2)) = true := by decide +kernel
theorem dX9_isPower_0 : decode cX9_isPower 0 = .ok (.iload_n 1, 1) := dec_of (decode cX9_isPower) da_196 0 rfl
theorem dX9_isPower_1 : decode cX9_isPower 1 = .ok (.ifCond .lt 12, 3) := dec_of (decode cX9_isPower) da_196 1 rfl
theorem dX9_isPower_4 : decode cX9_isPower 4 = .ok (.iload_n 1, 1) := dec_of (decode cX9_isPower) da_196 2 rfl
theorem dX9_isPower_5 : decode cX9_isPower 5 = .ok (.iconst 3, 1) := dec_of (decode cX9_isPower) da_196 3 rfl
theorem dX9_isPower_6 : decode cX9_isPower 6 = .ok (.if_icmp .ge 7, 3) := dec_of (decode cX9_isPower) da_196 4 rfl
theorem dX9_isPower_9 : decode cX9_isPower 9 = .ok (.iconst 1, 1) := dec_of (decode cX9_isPower) da_196 5 rfl
theorem dX9_isPower_10 : decode cX9_isPower 10 = .ok (.goto 4, 3) := dec_of (decode cX9_isPower) da_196 6 rfl
theorem dX9_isPower_13 : decode cX9_isPower 13 = .ok (.iconst 0, 1) := dec_of (decode cX9_isPower) da_196 7 rfl
theorem dX9_isPower_14 : decode cX9_isPower 14 = .ok (.ireturn, 1) := dec_of (decode cX9_isPower) da_196 8 rfl
abbrev dl_197 : List (Nat × Except DecodeError (Instr × Nat)) := [(0, .ok (.iload_n 1, 1)), (1, .ok (.ifCond .lt 13, 3)), (4, .ok (.iload_n 1, 1)), (5, .ok (.bipush 8, 2)), (7, .ok (.if_icmp .ge 7, 3)), (10, .ok (.iconst 1, 1)), (11, .ok (.goto 4, 3)), (14, .ok (.iconst 0, 1)), (15, .ok (.ireturn, 1))]
theorem da_197 : dl_197.all (fun q => decide (decode cX9_isPlace q.1 = q.2)) = true := by decide +kernel
theorem dX9_isPlace_0 : decode cX9_isPlace 0 = .ok (.iload_n 1, 1) := dec_of (decode cX9_isPlace) da_197 0 rfl
theorem dX9_isPlace_1 : decode cX9_isPlace 1 = .ok (.ifCond .lt 13, 3) := dec_of (decode cX9_isPlace) da_197 1 rfl
theorem dX9_isPlace_4 : decode cX9_isPlace 4 = .ok (.iload_n 1, 1) := dec_of (decode cX9_isPlace) da_197 2 rfl
theorem dX9_isPlace_5 : decode cX9_isPlace 5 = .ok (.bipush 8, 2) := dec_of (decode cX9_isPlace) da_197 3 rfl
theorem dX9_isPlace_7 : decode cX9_isPlace 7 = .ok (.if_icmp .ge 7, 3) := dec_of (decode cX9_isPlace) da_197 4 rfl
theorem dX9_isPlace_10 : decode cX9_isPlace 10 = .ok (.iconst 1, 1) := dec_of (decode cX9_isPlace) da_197 5 rfl
theorem dX9_isPlace_11 : decode cX9_isPlace 11 = .ok (.goto 4, 3) := dec_of (decode cX9_isPlace) da_197 6 rfl
theorem dX9_isPlace_14 : decode cX9_isPlace 14 = .ok (.iconst 0, 1) := dec_of (decode cX9_isPlace) da_197 7 rfl
theorem dX9_isPlace_15 : decode cX9_isPlace 15 = .ok (.ireturn, 1) := dec_of (decode cX9_isPlace) da_197 8 rfl
abbrev dl_198 : List (Nat × Except DecodeError (Instr × Nat)) := [(0, .ok (.iload_n 1, 1)), (1, .ok (.ifCond .eq 8, 3)), (4, .ok (.iload_n 1, 1)), (5, .ok (.iconst 1, 1)), (6, .ok (.if_icmp .ne 7, 3)), (9, .ok (.iconst 1, 1)), (10, .ok (.goto 4, 3)), (13, .ok (.iconst 0, 1)), (14, .ok (.ireturn, 1))]
theorem da_198 : dl_198.all (fun q => decide (decode cX9_isZeroOrOne q.1 = q.2)) = true := by decide +kernel
theorem dX9_isZeroOrOne_0 : decode cX9_isZeroOrOne 0 = .ok (.iload_n 1, 1) := dec_of (decode cX9_isZeroOrOne) da_198 0 rfl
theorem dX9_isZeroOrOne_1 : decode cX9_isZeroOrOne 1 = .ok (.ifCond .eq 8, 3) := dec_of (decode cX9_isZeroOrOne) da_198 1 rfl
theorem dX9_isZeroOrOne_4 : decode cX9_isZeroOrOne 4 = .ok (.iload_n 1, 1) := dec_of (decode cX9_isZeroOrOne) da_198 2 rfl
theorem dX9_isZeroOrOne_5 : decode cX9_isZeroOrOne 5 = .ok (.iconst 1, 1) := dec_of (decode cX9_isZeroOrOne) da_198 3 rfl
theorem dX9_isZeroOrOne_6 : decode cX9_isZeroOrOne 6 = .ok (.if_icmp .ne 7, 3) := dec_of (decode cX9_isZeroOrOne) da_198 4 rfl
theorem dX9_isZeroOrOne_9 : decode cX9_isZeroOrOne 9 = .ok (.iconst 1, 1) := dec_of (decode cX9_isZeroOrOne) da_198 5 rfl
theorem dX9_isZeroOrOne_10 : decode cX9_isZeroOrOne 10 = .ok (.goto 4, 3) := dec_of (decode cX9_isZeroOrOne) da_198 6 rfl
theorem dX9_isZeroOrOne_13 : decode cX9_isZeroOrOne 13 = .ok (.iconst 0, 1) := dec_of (decode cX9_isZeroOrOne) da_198 7 rfl
theorem dX9_isZeroOrOne_14 : decode cX9_isZeroOrOne 14 = .ok (.ireturn, 1) := dec_of (decode cX9_isZeroOrOne) da_198 8 rfl
abbrev dl_199 : List (Nat × Except DecodeError (Instr × Nat)) := [(0, .ok (.iload_n 1, 1)), (1, .ok (.iload_n 2, 1)), (2, .ok (.if_icmp .lt 27, 3)), (5, .ok (.iload_n 1, 1)), (6, .ok (.bipush 60, 2)), (8, .ok (.if_icmp .gt 21, 3)), (11, .ok (.iload_n 1, 1)), (12, .ok (.bipush 120, 2)), (14, .ok (.aload_n 0, 1)), (15, .ok (.getfield 29, 3)), (18, .ok (.getfield 186, 3)), (21, .ok (.isub, 1)), (22, .ok (.if_icmp .gt 7, 3)), (25, .ok (.iconst 1, 1)), (26, .ok (.goto 4, 3)), (29, .ok (.iconst 0, 1)), (30, .ok (.ireturn, 1))]
theorem da_199 : dl_199.all (fun q => decide (decode cX9_isAhead q.1 = q.2)) = true := by decide +kernel
theorem dX9_isAhead_0 : decode cX9_isAhead 0 = .ok (.iload_n 1, 1) := dec_of (decode cX9_isAhead) da_199 0 rfl
theorem dX9_isAhead_1 : decode cX9_isAhead 1 = .ok (.iload_n 2, 1) := dec_of (decode cX9_isAhead) da_199 1 rfl
theorem dX9_isAhead_2 : decode cX9_isAhead 2 = .ok (.if_icmp .lt 27, 3) := dec_of (decode cX9_isAhead) da_199 2 rfl
theorem dX9_isAhead_5 : decode cX9_isAhead 5 = .ok (.iload_n 1, 1) := dec_of (decode cX9_isAhead) da_199 3 rfl
theorem dX9_isAhead_6 : decode cX9_isAhead 6 = .ok (.bipush 60, 2) := dec_of (decode cX9_isAhead) da_199 4 rfl
theorem dX9_isAhead_8 : decode cX9_isAhead 8 = .ok (.if_icmp .gt 21, 3) := dec_of (decode cX9_isAhead) da_199 5 rfl
theorem dX9_isAhead_11 : decode cX9_isAhead 11 = .ok (.iload_n 1, 1) := dec_of (decode cX9_isAhead) da_199 6 rfl
theorem dX9_isAhead_12 : decode cX9_isAhead 12 = .ok (.bipush 120, 2) := dec_of (decode cX9_isAhead) da_199 7 rfl
theorem dX9_isAhead_14 : decode cX9_isAhead 14 = .ok (.aload_n 0, 1) := dec_of (decode cX9_isAhead) da_199 8 rfl
theorem dX9_isAhead_15 : decode cX9_isAhead 15 = .ok (.getfield 29, 3) := dec_of (decode cX9_isAhead) da_199 9 rfl
theorem dX9_isAhead_18 : decode cX9_isAhead 18 = .ok (.getfield 186, 3) := dec_of (decode cX9_isAhead) da_199 10 rfl
theorem dX9_isAhead_21 : decode cX9_isAhead 21 = .ok (.isub, 1) := dec_of (decode cX9_isAhead) da_199 11 rfl
theorem dX9_isAhead_22 : decode cX9_isAhead 22 = .ok (.if_icmp .gt 7, 3) := dec_of (decode cX9_isAhead) da_199 12 rfl
theorem dX9_isAhead_25 : decode cX9_isAhead 25 = .ok (.iconst 1, 1) := dec_of (decode cX9_isAhead) da_199 13 rfl
theorem dX9_isAhead_26 : decode cX9_isAhead 26 = .ok (.goto 4, 3) := dec_of (decode cX9_isAhead) da_199 14 rfl
theorem dX9_isAhead_29 : decode cX9_isAhead 29 = .ok (.iconst 0, 1) := dec_of (decode cX9_isAhead) da_199 15 rfl
theorem dX9_isAhead_30 : decode cX9_isAhead 30 = .ok (.ireturn, 1) := dec_of (decode cX9_isAhead) da_199 16 rfl
abbrev dl_200 : List (Nat × Except DecodeError (Instr × Nat)) := [(0, .ok (.aload_n 0, 1)), (1, .ok (.iload_n 1, 1)), (2, .ok (.invokevirtual 195, 3)), (5, .ok (.ifCond .eq 41, 3)), (8, .ok (.aload_n 0, 1)), (9, .ok (.iload_n 2, 1)), (10, .ok (.invokevirtual 195, 3)), (13, .ok (.ifCond .eq 33, 3)), (16, .ok (.iload_n 1, 1)), (17, .ok (.iload_n 2, 1)), (18, .ok (.if_icmp .eq 28, 3)), (21, .ok (.aload_n 0, 1)), (22, .ok (.getfield 29, 3)), (25, .ok (.getfield 186, 3)), (28, .ok (.bipush 59, 2)), (30, .ok (.if_icmp .gt 16, 3)), (33, .ok (.aload_n 0, 1)), (34, .ok (.iload_n 3, 1)), (35, .ok (.iconst 1, 1)), (36, .ok (.invokevirtual 247, 3)), (39, .ok (.ifCond .eq 7, 3)), (42, .ok (.iconst 1, 1)), (43, .ok (.goto 4, 3)), (46, .ok (.iconst 0, 1)), (47, .ok (.ireturn, 1))]
theorem da_200 : dl_200.all (fun q => decide (decode cX9_isGame q.1 = q.2)) = true := by decide +kernel
theorem dX9_isGame_0 : decode cX9_isGame 0 = .ok (.aload_n 0, 1) := dec_of (decode cX9_isGame) da_200 0 rfl
theorem dX9_isGame_1 : decode cX9_isGame 1 = .ok (.iload_n 1, 1) := dec_of (decode cX9_isGame) da_200 1 rfl
theorem dX9_isGame_2 : decode cX9_isGame 2 = .ok (.invokevirtual 195, 3) := dec_of (decode cX9_isGame) da_200 2 rfl
theorem dX9_isGame_5 : decode cX9_isGame 5 = .ok (.ifCond .eq 41, 3) := dec_of (decode cX9_isGame) da_200 3 rfl
theorem dX9_isGame_8 : decode cX9_isGame 8 = .ok (.aload_n 0, 1) := dec_of (decode cX9_isGame) da_200 4 rfl
theorem dX9_isGame_9 : decode cX9_isGame 9 = .ok (.iload_n 2, 1) := dec_of (decode cX9_isGame) da_200 5 rfl
theorem dX9_isGame_10 : decode cX9_isGame 10 = .ok (.invokevirtual 195, 3) := dec_of (decode cX9_isGame) da_200 6 rfl
theorem dX9_isGame_13 : decode cX9_isGame 13 = .ok (.ifCond .eq 33, 3) := dec_of (decode cX9_isGame) da_200 7 rfl
theorem dX9_isGame_16 : decode cX9_isGame 16 = .ok (.iload_n 1, 1) := dec_of (decode cX9_isGame) da_200 8 rfl
theorem dX9_isGame_17 : decode cX9_isGame 17 = .ok (.iload_n 2, 1) := dec_of (decode cX9_isGame) da_200 9 rfl
theorem dX9_isGame_18 : decode cX9_isGame 18 = .ok (.if_icmp .eq 28, 3) := dec_of (decode cX9_isGame) da_200 10 rfl
theorem dX9_isGame_21 : decode cX9_isGame 21 = .ok (.aload_n 0, 1) := dec_of (decode cX9_isGame) da_200 11 rfl
theorem dX9_isGame_22 : decode cX9_isGame 22 = .ok (.getfield 29, 3) := dec_of (decode cX9_isGame) da_200 12 rfl
theorem dX9_isGame_25 : decode cX9_isGame 25 = .ok (.getfield 186, 3) := dec_of (decode cX9_isGame) da_200 13 rfl
theorem dX9_isGame_28 : decode cX9_isGame 28 = .ok (.bipush 59, 2) := dec_of (decode cX9_isGame) da_200 14 rfl
theorem dX9_isGame_30 : decode cX9_isGame 30 = .ok (.if_icmp .gt 16, 3) := dec_of (decode cX9_isGame) da_200 15 rfl
theorem dX9_isGame_33 : decode cX9_isGame 33 = .ok (.aload_n 0, 1) := dec_of (decode cX9_isGame) da_200 16 rfl
theorem dX9_isGame_34 : decode cX9_isGame 34 = .ok (.iload_n 3, 1) := dec_of (decode cX9_isGame) da_200 17 rfl
theorem dX9_isGame_35 : decode cX9_isGame 35 = .ok (.iconst 1, 1) := dec_of (decode cX9_isGame) da_200 18 rfl
theorem dX9_isGame_36 : decode cX9_isGame 36 = .ok (.invokevirtual 247, 3) := dec_of (decode cX9_isGame) da_200 19 rfl
theorem dX9_isGame_39 : decode cX9_isGame 39 = .ok (.ifCond .eq 7, 3) := dec_of (decode cX9_isGame) da_200 20 rfl
theorem dX9_isGame_42 : decode cX9_isGame 42 = .ok (.iconst 1, 1) := dec_of (decode cX9_isGame) da_200 21 rfl
theorem dX9_isGame_43 : decode cX9_isGame 43 = .ok (.goto 4, 3) := dec_of (decode cX9_isGame) da_200 22 rfl
theorem dX9_isGame_46 : decode cX9_isGame 46 = .ok (.iconst 0, 1) := dec_of (decode cX9_isGame) da_200 23 rfl
theorem dX9_isGame_47 : decode cX9_isGame 47 = .ok (.ireturn, 1) := dec_of (decode cX9_isGame) da_200 24 rfl
abbrev dl_201 : List (Nat × Except DecodeError (Instr × Nat)) := [(0, .ok (.aload_n 0, 1)), (1, .ok (.invokespecial 1, 3)), (4, .ok (.aload_n 0, 1)), (5, .ok (.sipush 700, 3)), (8, .ok (.newarray .int, 2)), (10, .ok (.putfield 7, 3)), (13, .ok (.aload_n 0, 1)), (14, .ok (.bipush 22, 2)), (16, .ok (.newarray .int, 2)), (18, .ok (.dup, 1)), (19, .ok (.iconst 0, 1)), (20, .ok (.iconst 0, 1)), (21, .ok (.iastore, 1)), (22, .ok (.dup, 1)), (23, .ok (.iconst 1, 1)), (24, .ok (.sipush 200, 3)), (27, .ok (.iastore, 1)), (28, .ok (.dup, 1)), (29, .ok (.iconst 2, 1)), (30, .ok (.iconst 2, 1)), (31, .ok (.iastore, 1)), (32, .ok (.dup, 1)), (33, .ok (.iconst 3, 1)), (34, .ok (.bipush 10, 2)), (36, .ok (.iastore, 1)), (37, .ok (.dup, 1)), (38, .ok (.iconst 4, 1)), (39, .ok (.iconst 3, 1)), (40, .ok (.iastore, 1)), (41, .ok (.dup, 1)), (42, .ok (.iconst 5, 1)), (43, .ok (.iconst 0, 1)), (44, .ok (.iastore, 1)), (45, .ok (.dup, 1)), (46, .ok (.bipush 6, 2)), (48, .ok (.iconst 0, 1)), (49, .ok (.iastore, 1)), (50, .ok (.dup, 1)), (51, .ok (.bipush 7, 2)), (53, .ok (.iconst 0, 1))]
theorem da_201 : dl_201.all (fun q => decide (decode cX10_init q.1 = q.2)) = true := by decide +kernel
theorem dX10_init_0 : decode cX10_init 0 = .ok (.aload_n 0, 1) := dec_of (decode cX10_init) da_201 0 rfl
theorem dX10_init_1 : decode cX10_init 1 = .ok (.invokespecial 1, 3) := dec_of (decode cX10_init) da_201 1 rfl
theorem dX10_init_4 : decode cX10_init 4 = .ok (.aload_n 0, 1) := dec_of (decode cX10_init) da_201 2 rfl
theorem dX10_init_5 : decode cX10_init 5 = .ok (.sipush 700, 3) := dec_of (decode cX10_init) da_201 3 rfl
theorem dX10_init_8 : decode cX10_init 8 = .ok (.newarray .int, 2) := dec_of (decode cX10_init) da_201 4 rfl
theorem dX10_init_10 : decode cX10_init 10 = .ok (.putfield 7, 3) := dec_of (decode cX10_init) da_201 5 rfl
theorem dX10_init_13 : decode cX10_init 13 = .ok (.aload_n 0, 1) := dec_of (decode cX10_init) da_201 6 rfl
theorem dX10_init_14 : decode cX10_init 14 = .ok (.bipush 22, 2) := dec_of (decode cX10_init) da_201 7 rfl
theorem dX10_init_16 : decode cX10_init 16 = .ok (.newarray .int, 2) := dec_of (decode cX10_init) da_201 8 rfl
theorem dX10_init_18 : decode cX10_init 18 = .ok (.dup, 1) := dec_of (decode cX10_init) da_201 9 rfl
theorem dX10_init_19 : decode cX10_init 19 = .ok (.iconst 0, 1) := dec_of (decode cX10_init) da_201 10 rfl
theorem dX10_init_20 : decode cX10_init 20 = .ok (.iconst 0, 1) := dec_of (decode cX10_init) da_201 11 rfl
theorem dX10_init_21 : decode cX10_init 21 = .ok (.iastore, 1) := dec_of (decode cX10_init) da_201 12 rfl
theorem dX10_init_22 : decode cX10_init 22 = .ok (.dup, 1) := dec_of (decode cX10_init) da_201 13 rfl
theorem dX10_init_23 : decode cX10_init 23 = .ok (.iconst 1, 1) := dec_of (decode cX10_init) da_201 14 rfl
theorem dX10_init_24 : decode cX10_init 24 = .ok (.sipush 200, 3) := dec_of (decode cX10_init) da_201 15 rfl
theorem dX10_init_27 : decode cX10_init 27 = .ok (.iastore, 1) := dec_of (decode cX10_init) da_201 16 rfl
theorem dX10_init_28 : decode cX10_init 28 = .ok (.dup, 1) := dec_of (decode cX10_init) da_201 17 rfl
theorem dX10_init_29 : decode cX10_init 29 = .ok (.iconst 2, 1) := dec_of (decode cX10_init) da_201 18 rfl
theorem dX10_init_30 : decode cX10_init 30 = .ok (.iconst 2, 1) := dec_of (decode cX10_init) da_201 19 rfl
theorem dX10_init_31 : decode cX10_init 31 = .ok (.iastore, 1) := dec_of (decode cX10_init) da_201 20 rfl
theorem dX10_init_32 : decode cX10_init 32 = .ok (.dup, 1) := dec_of (decode cX10_init) da_201 21 rfl
theorem dX10_init_33 : decode cX10_init 33 = .ok (.iconst 3, 1) := dec_of (decode cX10_init) da_201 22 rfl
theorem dX10_init_34 : decode cX10_init 34 = .ok (.bipush 10, 2) := dec_of (decode cX10_init) da_201 23 rfl
theorem dX10_init_36 : decode cX10_init 36 = .ok (.iastore, 1) := dec_of (decode cX10_init) da_201 24 rfl
theorem dX10_init_37 : decode cX10_init 37 = .ok (.dup, 1) := dec_of (decode cX10_init) da_201 25 rfl
theorem dX10_init_38 : decode cX10_init 38 = .ok (.iconst 4, 1) := dec_of (decode cX10_init) da_201 26 rfl
theorem dX10_init_39 : decode cX10_init 39 = .ok (.iconst 3, 1) := dec_of (decode cX10_init) da_201 27 rfl
theorem dX10_init_40 : decode cX10_init 40 = .ok (.iastore, 1) := dec_of (decode cX10_init) da_201 28 rfl
theorem dX10_init_41 : decode cX10_init 41 = .ok (.dup, 1) := dec_of (decode cX10_init) da_201 29 rfl
theorem dX10_init_42 : decode cX10_init 42 = .ok (.iconst 5, 1) := dec_of (decode cX10_init) da_201 30 rfl
theorem dX10_init_43 : decode cX10_init 43 = .ok (.iconst 0, 1) := dec_of (decode cX10_init) da_201 31 rfl
theorem dX10_init_44 : decode cX10_init 44 = .ok (.iastore, 1) := dec_of (decode cX10_init) da_201 32 rfl
theorem dX10_init_45 : decode cX10_init 45 = .ok (.dup, 1) := dec_of (decode cX10_init) da_201 33 rfl
theorem dX10_init_46 : decode cX10_init 46 = .ok (.bipush 6, 2) := dec_of (decode cX10_init) da_201 34 rfl
theorem dX10_init_48 : decode cX10_init 48 = .ok (.iconst 0, 1) := dec_of (decode cX10_init) da_201 35 rfl
theorem dX10_init_49 : decode cX10_init 49 = .ok (.iastore, 1) := dec_of (decode cX10_init) da_201 36 rfl
theorem dX10_init_50 : decode cX10_init 50 = .ok (.dup, 1) := dec_of (decode cX10_init) da_201 37 rfl
theorem dX10_init_51 : decode cX10_init 51 = .ok (.bipush 7, 2) := dec_of (decode cX10_init) da_201 38 rfl
theorem dX10_init_53 : decode cX10_init 53 = .ok (.iconst 0, 1) := dec_of (decode cX10_init) da_201 39 rfl
abbrev dl_202 : List (Nat × Except DecodeError (Instr × Nat)) := [(54, .ok (.iastore, 1)), (55, .ok (.dup, 1)), (56, .ok (.bipush 8, 2)), (58, .ok (.iconst 0, 1)), (59, .ok (.iastore, 1)), (60, .ok (.dup, 1)), (61, .ok (.bipush 9, 2)), (63, .ok (.iconst 1, 1)), (64, .ok (.iastore, 1)), (65, .ok (.dup, 1)), (66, .ok (.bipush 10, 2)), (68, .ok (.iconst 2, 1)), (69, .ok (.iastore, 1)), (70, .ok (.dup, 1)), (71, .ok (.bipush 11, 2)), (73, .ok (.iconst 0, 1)), (74, .ok (.iastore, 1)), (75, .ok (.dup, 1)), (76, .ok (.bipush 12, 2)), (78, .ok (.sipush 200, 3)), (81, .ok (.iastore, 1)), (82, .ok (.dup, 1)), (83, .ok (.bipush 13, 2)), (85, .ok (.iconst 2, 1)), (86, .ok (.iastore, 1)), (87, .ok (.dup, 1)), (88, .ok (.bipush 14, 2)), (90, .ok (.bipush 10, 2)), (92, .ok (.iastore, 1)), (93, .ok (.dup, 1)), (94, .ok (.bipush 15, 2)), (96, .ok (.iconst 3, 1)), (97, .ok (.iastore, 1)), (98, .ok (.dup, 1)), (99, .ok (.bipush 16, 2)), (101, .ok (.iconst 0, 1)), (102, .ok (.iastore, 1)), (103, .ok (.dup, 1)), (104, .ok (.bipush 17, 2)), (106, .ok (.iconst 0, 1))]
theorem da_202 : dl_202.all (fun q => decide (decode cX10_init q.1 = q.2)) = true := by decide +kernel
theorem dX10_init_54 : decode cX10_init 54 = .ok (.iastore, 1) := dec_of (decode cX10_init) da_202 0 rfl
theorem dX10_init_55 : decode cX10_init 55 = .ok (.dup, 1) := dec_of (decode cX10_init) da_202 1 rfl
theorem dX10_init_56 : decode cX10_init 56 = .ok (.bipush 8, 2) := dec_of (decode cX10_init) da_202 2 rfl
theorem dX10_init_58 : decode cX10_init 58 = .ok (.iconst 0, 1) := dec_of (decode cX10_init) da_202 3 rfl
theorem dX10_init_59 : decode cX10_init 59 = .ok (.iastore, 1) := dec_of (decode cX10_init) da_202 4 rfl
theorem dX10_init_60 : decode cX10_init 60 = .ok (.dup, 1) := dec_of (decode cX10_init) da_202 5 rfl
theorem dX10_init_61 : decode cX10_init 61 = .ok (.bipush 9, 2) := dec_of (decode cX10_init) da_202 6 rfl
theorem dX10_init_63 : decode cX10_init 63 = .ok (.iconst 1, 1) := dec_of (decode cX10_init) da_202 7 rfl
theorem dX10_init_64 : decode cX10_init 64 = .ok (.iastore, 1) := dec_of (decode cX10_init) da_202 8 rfl
theorem dX10_init_65 : decode cX10_init 65 = .ok (.dup, 1) := dec_of (decode cX10_init) da_202 9 rfl
theorem dX10_init_66 : decode cX10_init 66 = .ok (.bipush 10, 2) := dec_of (decode cX10_init) da_202 10 rfl
theorem dX10_init_68 : decode cX10_init 68 = .ok (.iconst 2, 1) := dec_of (decode cX10_init) da_202 11 rfl
theorem dX10_init_69 : decode cX10_init 69 = .ok (.iastore, 1) := dec_of (decode cX10_init) da_202 12 rfl
theorem dX10_init_70 : decode cX10_init 70 = .ok (.dup, 1) := dec_of (decode cX10_init) da_202 13 rfl
theorem dX10_init_71 : decode cX10_init 71 = .ok (.bipush 11, 2) := dec_of (decode cX10_init) da_202 14 rfl
theorem dX10_init_73 : decode cX10_init 73 = .ok (.iconst 0, 1) := dec_of (decode cX10_init) da_202 15 rfl
theorem dX10_init_74 : decode cX10_init 74 = .ok (.iastore, 1) := dec_of (decode cX10_init) da_202 16 rfl
theorem dX10_init_75 : decode cX10_init 75 = .ok (.dup, 1) := dec_of (decode cX10_init) da_202 17 rfl
theorem dX10_init_76 : decode cX10_init 76 = .ok (.bipush 12, 2) := dec_of (decode cX10_init) da_202 18 rfl
theorem dX10_init_78 : decode cX10_init 78 = .ok (.sipush 200, 3) := dec_of (decode cX10_init) da_202 19 rfl
theorem dX10_init_81 : decode cX10_init 81 = .ok (.iastore, 1) := dec_of (decode cX10_init) da_202 20 rfl
theorem dX10_init_82 : decode cX10_init 82 = .ok (.dup, 1) := dec_of (decode cX10_init) da_202 21 rfl
theorem dX10_init_83 : decode cX10_init 83 = .ok (.bipush 13, 2) := dec_of (decode cX10_init) da_202 22 rfl
theorem dX10_init_85 : decode cX10_init 85 = .ok (.iconst 2, 1) := dec_of (decode cX10_init) da_202 23 rfl
theorem dX10_init_86 : decode cX10_init 86 = .ok (.iastore, 1) := dec_of (decode cX10_init) da_202 24 rfl
theorem dX10_init_87 : decode cX10_init 87 = .ok (.dup, 1) := dec_of (decode cX10_init) da_202 25 rfl
theorem dX10_init_88 : decode cX10_init 88 = .ok (.bipush 14, 2) := dec_of (decode cX10_init) da_202 26 rfl
theorem dX10_init_90 : decode cX10_init 90 = .ok (.bipush 10, 2) := dec_of (decode cX10_init) da_202 27 rfl
theorem dX10_init_92 : decode cX10_init 92 = .ok (.iastore, 1) := dec_of (decode cX10_init) da_202 28 rfl
theorem dX10_init_93 : decode cX10_init 93 = .ok (.dup, 1) := dec_of (decode cX10_init) da_202 29 rfl
theorem dX10_init_94 : decode cX10_init 94 = .ok (.bipush 15, 2) := dec_of (decode cX10_init) da_202 30 rfl
theorem dX10_init_96 : decode cX10_init 96 = .ok (.iconst 3, 1) := dec_of (decode cX10_init) da_202 31 rfl
theorem dX10_init_97 : decode cX10_init 97 = .ok (.iastore, 1) := dec_of (decode cX10_init) da_202 32 rfl
theorem dX10_init_98 : decode cX10_init 98 = .ok (.dup, 1) := dec_of (decode cX10_init) da_202 33 rfl
theorem dX10_init_99 : decode cX10_init 99 = .ok (.bipush 16, 2) := dec_of (decode cX10_init) da_202 34 rfl
theorem dX10_init_101 : decode cX10_init 101 = .ok (.iconst 0, 1) := dec_of (decode cX10_init) da_202 35 rfl
theorem dX10_init_102 : decode cX10_init 102 = .ok (.iastore, 1) := dec_of (decode cX10_init) da_202 36 rfl
theorem dX10_init_103 : decode cX10_init 103 = .ok (.dup, 1) := dec_of (decode cX10_init) da_202 37 rfl
theorem dX10_init_104 : decode cX10_init 104 = .ok (.bipush 17, 2) := dec_of (decode cX10_init) da_202 38 rfl
theorem dX10_init_106 : decode cX10_init 106 = .ok (.iconst 0, 1) := dec_of (decode cX10_init) da_202 39 rfl
abbrev dl_203 : List (Nat × Except DecodeError (Instr × Nat)) := [(107, .ok (.iastore, 1)), (108, .ok (.dup, 1)), (109, .ok (.bipush 18, 2)), (111, .ok (.iconst 0, 1)), (112, .ok (.iastore, 1)), (113, .ok (.dup, 1)), (114, .ok (.bipush 19, 2)), (116, .ok (.iconst 0, 1)), (117, .ok (.iastore, 1)), (118, .ok (.dup, 1)), (119, .ok (.bipush 20, 2)), (121, .ok (.iconst 1, 1)), (122, .ok (.iastore, 1)), (123, .ok (.dup, 1)), (124, .ok (.bipush 21, 2)), (126, .ok (.iconst 2, 1)), (127, .ok (.iastore, 1)), (128, .ok (.putfield 13, 3)), (131, .ok (.aload_n 0, 1)), (132, .ok (.bipush 16, 2)), (134, .ok (.newarray .int, 2)), (136, .ok (.putfield 16, 3)), (139, .ok (.aload_n 0, 1)), (140, .ok (.bipush 16, 2)), (142, .ok (.newarray .int, 2)), (144, .ok (.putfield 19, 3)), (147, .ok (.aload_n 0, 1)), (148, .ok (.bipush 16, 2)), (150, .ok (.newarray .int, 2)), (152, .ok (.putfield 22, 3)), (155, .ok (.aload_n 0, 1)), (156, .ok (.bipush 16, 2)), (158, .ok (.newarray .int, 2)), (160, .ok (.putfield 25, 3)), (163, .ok (.aload_n 0, 1)), (164, .ok (.bipush 16, 2)), (166, .ok (.newarray .int, 2)), (168, .ok (.putfield 28, 3)), (171, .ok (.aload_n 0, 1)), (172, .ok (.bipush 16, 2))]
theorem da_203 : dl_203.all (fun q => decide (decode cX10_init q.1 = q.2)) = true := by decide +kernel
theorem dX10_init_107 : decode cX10_init 107 = .ok (.iastore, 1) := dec_of (decode cX10_init) da_203 0 rfl
theorem dX10_init_108 : decode cX10_init 108 = .ok (.dup, 1) := dec_of (decode cX10_init) da_203 1 rfl
theorem dX10_init_109 : decode cX10_init 109 = .ok (.bipush 18, 2) := dec_of (decode cX10_init) da_203 2 rfl
theorem dX10_init_111 : decode cX10_init 111 = .ok (.iconst 0, 1) := dec_of (decode cX10_init) da_203 3 rfl
theorem dX10_init_112 : decode cX10_init 112 = .ok (.iastore, 1) := dec_of (decode cX10_init) da_203 4 rfl
theorem dX10_init_113 : decode cX10_init 113 = .ok (.dup, 1) := dec_of (decode cX10_init) da_203 5 rfl
theorem dX10_init_114 : decode cX10_init 114 = .ok (.bipush 19, 2) := dec_of (decode cX10_init) da_203 6 rfl
theorem dX10_init_116 : decode cX10_init 116 = .ok (.iconst 0, 1) := dec_of (decode cX10_init) da_203 7 rfl
theorem dX10_init_117 : decode cX10_init 117 = .ok (.iastore, 1) := dec_of (decode cX10_init) da_203 8 rfl
theorem dX10_init_118 : decode cX10_init 118 = .ok (.dup, 1) := dec_of (decode cX10_init) da_203 9 rfl
theorem dX10_init_119 : decode cX10_init 119 = .ok (.bipush 20, 2) := dec_of (decode cX10_init) da_203 10 rfl
theorem dX10_init_121 : decode cX10_init 121 = .ok (.iconst 1, 1) := dec_of (decode cX10_init) da_203 11 rfl
theorem dX10_init_122 : decode cX10_init 122 = .ok (.iastore, 1) := dec_of (decode cX10_init) da_203 12 rfl
theorem dX10_init_123 : decode cX10_init 123 = .ok (.dup, 1) := dec_of (decode cX10_init) da_203 13 rfl
theorem dX10_init_124 : decode cX10_init 124 = .ok (.bipush 21, 2) := dec_of (decode cX10_init) da_203 14 rfl
theorem dX10_init_126 : decode cX10_init 126 = .ok (.iconst 2, 1) := dec_of (decode cX10_init) da_203 15 rfl
theorem dX10_init_127 : decode cX10_init 127 = .ok (.iastore, 1) := dec_of (decode cX10_init) da_203 16 rfl
theorem dX10_init_128 : decode cX10_init 128 = .ok (.putfield 13, 3) := dec_of (decode cX10_init) da_203 17 rfl
theorem dX10_init_131 : decode cX10_init 131 = .ok (.aload_n 0, 1) := dec_of (decode cX10_init) da_203 18 rfl
theorem dX10_init_132 : decode cX10_init 132 = .ok (.bipush 16, 2) := dec_of (decode cX10_init) da_203 19 rfl
theorem dX10_init_134 : decode cX10_init 134 = .ok (.newarray .int, 2) := dec_of (decode cX10_init) da_203 20 rfl
theorem dX10_init_136 : decode cX10_init 136 = .ok (.putfield 16, 3) := dec_of (decode cX10_init) da_203 21 rfl
theorem dX10_init_139 : decode cX10_init 139 = .ok (.aload_n 0, 1) := dec_of (decode cX10_init) da_203 22 rfl
theorem dX10_init_140 : decode cX10_init 140 = .ok (.bipush 16, 2) := dec_of (decode cX10_init) da_203 23 rfl
theorem dX10_init_142 : decode cX10_init 142 = .ok (.newarray .int, 2) := dec_of (decode cX10_init) da_203 24 rfl
theorem dX10_init_144 : decode cX10_init 144 = .ok (.putfield 19, 3) := dec_of (decode cX10_init) da_203 25 rfl
theorem dX10_init_147 : decode cX10_init 147 = .ok (.aload_n 0, 1) := dec_of (decode cX10_init) da_203 26 rfl
theorem dX10_init_148 : decode cX10_init 148 = .ok (.bipush 16, 2) := dec_of (decode cX10_init) da_203 27 rfl
theorem dX10_init_150 : decode cX10_init 150 = .ok (.newarray .int, 2) := dec_of (decode cX10_init) da_203 28 rfl
theorem dX10_init_152 : decode cX10_init 152 = .ok (.putfield 22, 3) := dec_of (decode cX10_init) da_203 29 rfl
theorem dX10_init_155 : decode cX10_init 155 = .ok (.aload_n 0, 1) := dec_of (decode cX10_init) da_203 30 rfl
theorem dX10_init_156 : decode cX10_init 156 = .ok (.bipush 16, 2) := dec_of (decode cX10_init) da_203 31 rfl
theorem dX10_init_158 : decode cX10_init 158 = .ok (.newarray .int, 2) := dec_of (decode cX10_init) da_203 32 rfl
theorem dX10_init_160 : decode cX10_init 160 = .ok (.putfield 25, 3) := dec_of (decode cX10_init) da_203 33 rfl
theorem dX10_init_163 : decode cX10_init 163 = .ok (.aload_n 0, 1) := dec_of (decode cX10_init) da_203 34 rfl
theorem dX10_init_164 : decode cX10_init 164 = .ok (.bipush 16, 2) := dec_of (decode cX10_init) da_203 35 rfl
theorem dX10_init_166 : decode cX10_init 166 = .ok (.newarray .int, 2) := dec_of (decode cX10_init) da_203 36 rfl
theorem dX10_init_168 : decode cX10_init 168 = .ok (.putfield 28, 3) := dec_of (decode cX10_init) da_203 37 rfl
theorem dX10_init_171 : decode cX10_init 171 = .ok (.aload_n 0, 1) := dec_of (decode cX10_init) da_203 38 rfl
theorem dX10_init_172 : decode cX10_init 172 = .ok (.bipush 16, 2) := dec_of (decode cX10_init) da_203 39 rfl
abbrev dl_204 : List (Nat × Except DecodeError (Instr × Nat)) := [(174, .ok (.newarray .int, 2)), (176, .ok (.putfield 31, 3)), (179, .ok (.aload_n 0, 1)), (180, .ok (.bipush 16, 2)), (182, .ok (.newarray .int, 2)), (184, .ok (.putfield 34, 3)), (187, .ok (.aload_n 0, 1)), (188, .ok (.bipush 16, 2)), (190, .ok (.newarray .int, 2)), (192, .ok (.putfield 37, 3)), (195, .ok (.aload_n 0, 1)), (196, .ok (.bipush 16, 2)), (198, .ok (.newarray .int, 2)), (200, .ok (.putfield 40, 3)), (203, .ok (.aload_n 0, 1)), (204, .ok (.bipush 16, 2)), (206, .ok (.newarray .int, 2)), (208, .ok (.putfield 43, 3)), (211, .ok (.aload_n 0, 1)), (212, .ok (.bipush 6, 2)), (214, .ok (.newarray .int, 2)), (216, .ok (.putfield 46, 3)), (219, .ok (.aload_n 0, 1)), (220, .ok (.bipush 6, 2)), (222, .ok (.newarray .int, 2)), (224, .ok (.putfield 49, 3)), (227, .ok (.aload_n 0, 1)), (228, .ok (.sipush 128, 3)), (231, .ok (.newarray .int, 2)), (233, .ok (.putfield 52, 3)), (236, .ok (.aload_n 0, 1)), (237, .ok (.sipush 128, 3)), (240, .ok (.newarray .int, 2)), (242, .ok (.putfield 55, 3)), (245, .ok (.aload_n 0, 1)), (246, .ok (.iconst (-1), 1)), (247, .ok (.putfield 58, 3)), (250, .ok (.aload_n 0, 1)), (251, .ok (.bipush 6, 2)), (253, .ok (.newarray .long, 2))]
theorem da_204 : dl_204.all (fun q => decide (decode cX10_init q.1 = q.2)) = true := by decide +kernel
theorem dX10_init_174 : decode cX10_init 174 = .ok (.newarray .int, 2) := dec_of (decode cX10_init) da_204 0 rfl
theorem dX10_init_176 : decode cX10_init 176 = .ok (.putfield 31, 3) := dec_of (decode cX10_init) da_204 1 rfl
theorem dX10_init_179 : decode cX10_init 179 = .ok (.aload_n 0, 1) := dec_of (decode cX10_init) da_204 2 rfl
theorem dX10_init_180 : decode cX10_init 180 = .ok (.bipush 16, 2) := dec_of (decode cX10_init) da_204 3 rfl
theorem dX10_init_182 : decode cX10_init 182 = .ok (.newarray .int, 2) := dec_of (decode cX10_init) da_204 4 rfl
theorem dX10_init_184 : decode cX10_init 184 = .ok (.putfield 34, 3) := dec_of (decode cX10_init) da_204 5 rfl
theorem dX10_init_187 : decode cX10_init 187 = .ok (.aload_n 0, 1) := dec_of (decode cX10_init) da_204 6 rfl
theorem dX10_init_188 : decode cX10_init 188 = .ok (.bipush 16, 2) := dec_of (decode cX10_init) da_204 7 rfl
theorem dX10_init_190 : decode cX10_init 190 = .ok (.newarray .int, 2) := dec_of (decode cX10_init) da_204 8 rfl
theorem dX10_init_192 : decode cX10_init 192 = .ok (.putfield 37, 3) := dec_of (decode cX10_init) da_204 9 rfl
theorem dX10_init_195 : decode cX10_init 195 = .ok (.aload_n 0, 1) := dec_of (decode cX10_init) da_204 10 rfl
theorem dX10_init_196 : decode cX10_init 196 = .ok (.bipush 16, 2) := dec_of (decode cX10_init) da_204 11 rfl
theorem dX10_init_198 : decode cX10_init 198 = .ok (.newarray .int, 2) := dec_of (decode cX10_init) da_204 12 rfl
theorem dX10_init_200 : decode cX10_init 200 = .ok (.putfield 40, 3) := dec_of (decode cX10_init) da_204 13 rfl
theorem dX10_init_203 : decode cX10_init 203 = .ok (.aload_n 0, 1) := dec_of (decode cX10_init) da_204 14 rfl
theorem dX10_init_204 : decode cX10_init 204 = .ok (.bipush 16, 2) := dec_of (decode cX10_init) da_204 15 rfl
theorem dX10_init_206 : decode cX10_init 206 = .ok (.newarray .int, 2) := dec_of (decode cX10_init) da_204 16 rfl
theorem dX10_init_208 : decode cX10_init 208 = .ok (.putfield 43, 3) := dec_of (decode cX10_init) da_204 17 rfl
theorem dX10_init_211 : decode cX10_init 211 = .ok (.aload_n 0, 1) := dec_of (decode cX10_init) da_204 18 rfl
theorem dX10_init_212 : decode cX10_init 212 = .ok (.bipush 6, 2) := dec_of (decode cX10_init) da_204 19 rfl
theorem dX10_init_214 : decode cX10_init 214 = .ok (.newarray .int, 2) := dec_of (decode cX10_init) da_204 20 rfl
theorem dX10_init_216 : decode cX10_init 216 = .ok (.putfield 46, 3) := dec_of (decode cX10_init) da_204 21 rfl
theorem dX10_init_219 : decode cX10_init 219 = .ok (.aload_n 0, 1) := dec_of (decode cX10_init) da_204 22 rfl
theorem dX10_init_220 : decode cX10_init 220 = .ok (.bipush 6, 2) := dec_of (decode cX10_init) da_204 23 rfl
theorem dX10_init_222 : decode cX10_init 222 = .ok (.newarray .int, 2) := dec_of (decode cX10_init) da_204 24 rfl
theorem dX10_init_224 : decode cX10_init 224 = .ok (.putfield 49, 3) := dec_of (decode cX10_init) da_204 25 rfl
theorem dX10_init_227 : decode cX10_init 227 = .ok (.aload_n 0, 1) := dec_of (decode cX10_init) da_204 26 rfl
theorem dX10_init_228 : decode cX10_init 228 = .ok (.sipush 128, 3) := dec_of (decode cX10_init) da_204 27 rfl
theorem dX10_init_231 : decode cX10_init 231 = .ok (.newarray .int, 2) := dec_of (decode cX10_init) da_204 28 rfl
theorem dX10_init_233 : decode cX10_init 233 = .ok (.putfield 52, 3) := dec_of (decode cX10_init) da_204 29 rfl
theorem dX10_init_236 : decode cX10_init 236 = .ok (.aload_n 0, 1) := dec_of (decode cX10_init) da_204 30 rfl
theorem dX10_init_237 : decode cX10_init 237 = .ok (.sipush 128, 3) := dec_of (decode cX10_init) da_204 31 rfl
theorem dX10_init_240 : decode cX10_init 240 = .ok (.newarray .int, 2) := dec_of (decode cX10_init) da_204 32 rfl
theorem dX10_init_242 : decode cX10_init 242 = .ok (.putfield 55, 3) := dec_of (decode cX10_init) da_204 33 rfl
theorem dX10_init_245 : decode cX10_init 245 = .ok (.aload_n 0, 1) := dec_of (decode cX10_init) da_204 34 rfl
theorem dX10_init_246 : decode cX10_init 246 = .ok (.iconst (-1), 1) := dec_of (decode cX10_init) da_204 35 rfl
theorem dX10_init_247 : decode cX10_init 247 = .ok (.putfield 58, 3) := dec_of (decode cX10_init) da_204 36 rfl
theorem dX10_init_250 : decode cX10_init 250 = .ok (.aload_n 0, 1) := dec_of (decode cX10_init) da_204 37 rfl
theorem dX10_init_251 : decode cX10_init 251 = .ok (.bipush 6, 2) := dec_of (decode cX10_init) da_204 38 rfl
theorem dX10_init_253 : decode cX10_init 253 = .ok (.newarray .long, 2) := dec_of (decode cX10_init) da_204 39 rfl
abbrev dl_205 : List (Nat × Except DecodeError (Instr × Nat)) := [(255, .ok (.putfield 62, 3)), (258, .ok (.aload_n 0, 1)), (259, .ok (.bipush 64, 2)), (261, .ok (.newarray .long, 2)), (263, .ok (.putfield 66, 3)), (266, .ok (.aload_n 0, 1)), (267, .ok (.bipush 23, 2)), (269, .ok (.newarray .int, 2)), (271, .ok (.putfield 69, 3)), (274, .ok (.aload_n 0, 1)), (275, .ok (.bipush 23, 2)), (277, .ok (.newarray .int, 2)), (279, .ok (.putfield 72, 3)), (282, .ok (.aload_n 0, 1)), (283, .ok (.bipush 23, 2)), (285, .ok (.newarray .int, 2)), (287, .ok (.putfield 75, 3)), (290, .ok (.aload_n 0, 1)), (291, .ok (.bipush 23, 2)), (293, .ok (.newarray .int, 2)), (295, .ok (.putfield 78, 3)), (298, .ok (.aload_n 0, 1)), (299, .ok (.bipush 23, 2)), (301, .ok (.newarray .int, 2)), (303, .ok (.putfield 81, 3)), (306, .ok (.aload_n 0, 1)), (307, .ok (.sipush 184, 3)), (310, .ok (.newarray .int, 2)), (312, .ok (.putfield 84, 3)), (315, .ok (.aload_n 0, 1)), (316, .ok (.sipush 184, 3)), (319, .ok (.newarray .int, 2)), (321, .ok (.putfield 87, 3)), (324, .ok (.aload_n 0, 1)), (325, .ok (.sipush 184, 3)), (328, .ok (.newarray .int, 2)), (330, .ok (.putfield 90, 3)), (333, .ok (.aload_n 0, 1)), (334, .ok (.sipush 184, 3)), (337, .ok (.newarray .int, 2))]
theorem da_205 : dl_205.all (fun q => decide (decode cX10_init q.1 = q.2)) = true := by decide +kernel
theorem dX10_init_255 : decode cX10_init 255 = .ok (.putfield 62, 3) := dec_of (decode cX10_init) da_205 0 rfl
theorem dX10_init_258 : decode cX10_init 258 = .ok (.aload_n 0, 1) := dec_of (decode cX10_init) da_205 1 rfl
theorem dX10_init_259 : decode cX10_init 259 = .ok (.bipush 64, 2) := dec_of (decode cX10_init) da_205 2 rfl
theorem dX10_init_261 : decode cX10_init 261 = .ok (.newarray .long, 2) := dec_of (decode cX10_init) da_205 3 rfl
theorem dX10_init_263 : decode cX10_init 263 = .ok (.putfield 66, 3) := dec_of (decode cX10_init) da_205 4 rfl
theorem dX10_init_266 : decode cX10_init 266 = .ok (.aload_n 0, 1) := dec_of (decode cX10_init) da_205 5 rfl
theorem dX10_init_267 : decode cX10_init 267 = .ok (.bipush 23, 2) := dec_of (decode cX10_init) da_205 6 rfl
theorem dX10_init_269 : decode cX10_init 269 = .ok (.newarray .int, 2) := dec_of (decode cX10_init) da_205 7 rfl
theorem dX10_init_271 : decode cX10_init 271 = .ok (.putfield 69, 3) := dec_of (decode cX10_init) da_205 8 rfl
theorem dX10_init_274 : decode cX10_init 274 = .ok (.aload_n 0, 1) := dec_of (decode cX10_init) da_205 9 rfl
theorem dX10_init_275 : decode cX10_init 275 = .ok (.bipush 23, 2) := dec_of (decode cX10_init) da_205 10 rfl
theorem dX10_init_277 : decode cX10_init 277 = .ok (.newarray .int, 2) := dec_of (decode cX10_init) da_205 11 rfl
theorem dX10_init_279 : decode cX10_init 279 = .ok (.putfield 72, 3) := dec_of (decode cX10_init) da_205 12 rfl
theorem dX10_init_282 : decode cX10_init 282 = .ok (.aload_n 0, 1) := dec_of (decode cX10_init) da_205 13 rfl
theorem dX10_init_283 : decode cX10_init 283 = .ok (.bipush 23, 2) := dec_of (decode cX10_init) da_205 14 rfl
theorem dX10_init_285 : decode cX10_init 285 = .ok (.newarray .int, 2) := dec_of (decode cX10_init) da_205 15 rfl
theorem dX10_init_287 : decode cX10_init 287 = .ok (.putfield 75, 3) := dec_of (decode cX10_init) da_205 16 rfl
theorem dX10_init_290 : decode cX10_init 290 = .ok (.aload_n 0, 1) := dec_of (decode cX10_init) da_205 17 rfl
theorem dX10_init_291 : decode cX10_init 291 = .ok (.bipush 23, 2) := dec_of (decode cX10_init) da_205 18 rfl
theorem dX10_init_293 : decode cX10_init 293 = .ok (.newarray .int, 2) := dec_of (decode cX10_init) da_205 19 rfl
theorem dX10_init_295 : decode cX10_init 295 = .ok (.putfield 78, 3) := dec_of (decode cX10_init) da_205 20 rfl
theorem dX10_init_298 : decode cX10_init 298 = .ok (.aload_n 0, 1) := dec_of (decode cX10_init) da_205 21 rfl
theorem dX10_init_299 : decode cX10_init 299 = .ok (.bipush 23, 2) := dec_of (decode cX10_init) da_205 22 rfl
theorem dX10_init_301 : decode cX10_init 301 = .ok (.newarray .int, 2) := dec_of (decode cX10_init) da_205 23 rfl
theorem dX10_init_303 : decode cX10_init 303 = .ok (.putfield 81, 3) := dec_of (decode cX10_init) da_205 24 rfl
theorem dX10_init_306 : decode cX10_init 306 = .ok (.aload_n 0, 1) := dec_of (decode cX10_init) da_205 25 rfl
theorem dX10_init_307 : decode cX10_init 307 = .ok (.sipush 184, 3) := dec_of (decode cX10_init) da_205 26 rfl
theorem dX10_init_310 : decode cX10_init 310 = .ok (.newarray .int, 2) := dec_of (decode cX10_init) da_205 27 rfl
theorem dX10_init_312 : decode cX10_init 312 = .ok (.putfield 84, 3) := dec_of (decode cX10_init) da_205 28 rfl
theorem dX10_init_315 : decode cX10_init 315 = .ok (.aload_n 0, 1) := dec_of (decode cX10_init) da_205 29 rfl
theorem dX10_init_316 : decode cX10_init 316 = .ok (.sipush 184, 3) := dec_of (decode cX10_init) da_205 30 rfl
theorem dX10_init_319 : decode cX10_init 319 = .ok (.newarray .int, 2) := dec_of (decode cX10_init) da_205 31 rfl
theorem dX10_init_321 : decode cX10_init 321 = .ok (.putfield 87, 3) := dec_of (decode cX10_init) da_205 32 rfl
theorem dX10_init_324 : decode cX10_init 324 = .ok (.aload_n 0, 1) := dec_of (decode cX10_init) da_205 33 rfl
theorem dX10_init_325 : decode cX10_init 325 = .ok (.sipush 184, 3) := dec_of (decode cX10_init) da_205 34 rfl
theorem dX10_init_328 : decode cX10_init 328 = .ok (.newarray .int, 2) := dec_of (decode cX10_init) da_205 35 rfl
theorem dX10_init_330 : decode cX10_init 330 = .ok (.putfield 90, 3) := dec_of (decode cX10_init) da_205 36 rfl
theorem dX10_init_333 : decode cX10_init 333 = .ok (.aload_n 0, 1) := dec_of (decode cX10_init) da_205 37 rfl
theorem dX10_init_334 : decode cX10_init 334 = .ok (.sipush 184, 3) := dec_of (decode cX10_init) da_205 38 rfl
theorem dX10_init_337 : decode cX10_init 337 = .ok (.newarray .int, 2) := dec_of (decode cX10_init) da_205 39 rfl
abbrev dl_206 : List (Nat × Except DecodeError (Instr × Nat)) := [(339, .ok (.putfield 93, 3)), (342, .ok (.aload_n 0, 1)), (343, .ok (.sipush 184, 3)), (346, .ok (.newarray .int, 2)), (348, .ok (.putfield 96, 3)), (351, .ok (.aload_n 0, 1)), (352, .ok (.sipush 184, 3)), (355, .ok (.newarray .int, 2)), (357, .ok (.putfield 99, 3)), (360, .ok (.aload_n 0, 1)), (361, .ok (.sipush 184, 3)), (364, .ok (.newarray .int, 2)), (366, .ok (.putfield 102, 3)), (369, .ok (.aload_n 0, 1)), (370, .ok (.sipush 184, 3)), (373, .ok (.newarray .int, 2)), (375, .ok (.putfield 105, 3)), (378, .ok (.aload_n 0, 1)), (379, .ok (.sipush 184, 3)), (382, .ok (.newarray .int, 2)), (384, .ok (.putfield 108, 3)), (387, .ok (.aload_n 0, 1)), (388, .ok (.sipush 184, 3)), (391, .ok (.newarray .int, 2)), (393, .ok (.putfield 111, 3)), (396, .ok (.aload_n 0, 1)), (397, .ok (.bipush 69, 2)), (399, .ok (.newarray .int, 2)), (401, .ok (.putfield 114, 3)), (404, .ok (.aload_n 0, 1)), (405, .ok (.sipush 720, 3)), (408, .ok (.newarray .int, 2)), (410, .ok (.putfield 117, 3)), (413, .ok (.aload_n 0, 1)), (414, .ok (.iconst (-1), 1)), (415, .ok (.putfield 120, 3)), (418, .ok (.aload_n 0, 1)), (419, .ok (.bipush 16, 2)), (421, .ok (.newarray .int, 2)), (423, .ok (.putfield 123, 3))]
theorem da_206 : dl_206.all (fun q => decide (decode cX10_init q.1 = q.2)) = true := by decide +kernel
theorem dX10_init_339 : decode cX10_init 339 = .ok (.putfield 93, 3) := dec_of (decode cX10_init) da_206 0 rfl
theorem dX10_init_342 : decode cX10_init 342 = .ok (.aload_n 0, 1) := dec_of (decode cX10_init) da_206 1 rfl
theorem dX10_init_343 : decode cX10_init 343 = .ok (.sipush 184, 3) := dec_of (decode cX10_init) da_206 2 rfl
theorem dX10_init_346 : decode cX10_init 346 = .ok (.newarray .int, 2) := dec_of (decode cX10_init) da_206 3 rfl
theorem dX10_init_348 : decode cX10_init 348 = .ok (.putfield 96, 3) := dec_of (decode cX10_init) da_206 4 rfl
theorem dX10_init_351 : decode cX10_init 351 = .ok (.aload_n 0, 1) := dec_of (decode cX10_init) da_206 5 rfl
theorem dX10_init_352 : decode cX10_init 352 = .ok (.sipush 184, 3) := dec_of (decode cX10_init) da_206 6 rfl
theorem dX10_init_355 : decode cX10_init 355 = .ok (.newarray .int, 2) := dec_of (decode cX10_init) da_206 7 rfl
theorem dX10_init_357 : decode cX10_init 357 = .ok (.putfield 99, 3) := dec_of (decode cX10_init) da_206 8 rfl
theorem dX10_init_360 : decode cX10_init 360 = .ok (.aload_n 0, 1) := dec_of (decode cX10_init) da_206 9 rfl
theorem dX10_init_361 : decode cX10_init 361 = .ok (.sipush 184, 3) := dec_of (decode cX10_init) da_206 10 rfl
theorem dX10_init_364 : decode cX10_init 364 = .ok (.newarray .int, 2) := dec_of (decode cX10_init) da_206 11 rfl
theorem dX10_init_366 : decode cX10_init 366 = .ok (.putfield 102, 3) := dec_of (decode cX10_init) da_206 12 rfl
theorem dX10_init_369 : decode cX10_init 369 = .ok (.aload_n 0, 1) := dec_of (decode cX10_init) da_206 13 rfl
theorem dX10_init_370 : decode cX10_init 370 = .ok (.sipush 184, 3) := dec_of (decode cX10_init) da_206 14 rfl
theorem dX10_init_373 : decode cX10_init 373 = .ok (.newarray .int, 2) := dec_of (decode cX10_init) da_206 15 rfl
theorem dX10_init_375 : decode cX10_init 375 = .ok (.putfield 105, 3) := dec_of (decode cX10_init) da_206 16 rfl
theorem dX10_init_378 : decode cX10_init 378 = .ok (.aload_n 0, 1) := dec_of (decode cX10_init) da_206 17 rfl
theorem dX10_init_379 : decode cX10_init 379 = .ok (.sipush 184, 3) := dec_of (decode cX10_init) da_206 18 rfl
theorem dX10_init_382 : decode cX10_init 382 = .ok (.newarray .int, 2) := dec_of (decode cX10_init) da_206 19 rfl
theorem dX10_init_384 : decode cX10_init 384 = .ok (.putfield 108, 3) := dec_of (decode cX10_init) da_206 20 rfl
theorem dX10_init_387 : decode cX10_init 387 = .ok (.aload_n 0, 1) := dec_of (decode cX10_init) da_206 21 rfl
theorem dX10_init_388 : decode cX10_init 388 = .ok (.sipush 184, 3) := dec_of (decode cX10_init) da_206 22 rfl
theorem dX10_init_391 : decode cX10_init 391 = .ok (.newarray .int, 2) := dec_of (decode cX10_init) da_206 23 rfl
theorem dX10_init_393 : decode cX10_init 393 = .ok (.putfield 111, 3) := dec_of (decode cX10_init) da_206 24 rfl
theorem dX10_init_396 : decode cX10_init 396 = .ok (.aload_n 0, 1) := dec_of (decode cX10_init) da_206 25 rfl
theorem dX10_init_397 : decode cX10_init 397 = .ok (.bipush 69, 2) := dec_of (decode cX10_init) da_206 26 rfl
theorem dX10_init_399 : decode cX10_init 399 = .ok (.newarray .int, 2) := dec_of (decode cX10_init) da_206 27 rfl
theorem dX10_init_401 : decode cX10_init 401 = .ok (.putfield 114, 3) := dec_of (decode cX10_init) da_206 28 rfl
theorem dX10_init_404 : decode cX10_init 404 = .ok (.aload_n 0, 1) := dec_of (decode cX10_init) da_206 29 rfl
theorem dX10_init_405 : decode cX10_init 405 = .ok (.sipush 720, 3) := dec_of (decode cX10_init) da_206 30 rfl
theorem dX10_init_408 : decode cX10_init 408 = .ok (.newarray .int, 2) := dec_of (decode cX10_init) da_206 31 rfl
theorem dX10_init_410 : decode cX10_init 410 = .ok (.putfield 117, 3) := dec_of (decode cX10_init) da_206 32 rfl
theorem dX10_init_413 : decode cX10_init 413 = .ok (.aload_n 0, 1) := dec_of (decode cX10_init) da_206 33 rfl
theorem dX10_init_414 : decode cX10_init 414 = .ok (.iconst (-1), 1) := dec_of (decode cX10_init) da_206 34 rfl
theorem dX10_init_415 : decode cX10_init 415 = .ok (.putfield 120, 3) := dec_of (decode cX10_init) da_206 35 rfl
theorem dX10_init_418 : decode cX10_init 418 = .ok (.aload_n 0, 1) := dec_of (decode cX10_init) da_206 36 rfl
theorem dX10_init_419 : decode cX10_init 419 = .ok (.bipush 16, 2) := dec_of (decode cX10_init) da_206 37 rfl
theorem dX10_init_421 : decode cX10_init 421 = .ok (.newarray .int, 2) := dec_of (decode cX10_init) da_206 38 rfl
theorem dX10_init_423 : decode cX10_init 423 = .ok (.putfield 123, 3) := dec_of (decode cX10_init) da_206 39 rfl
abbrev dl_207 : List (Nat × Except DecodeError (Instr × Nat)) := [(426, .ok (.aload_n 0, 1)), (427, .ok (.bipush 16, 2)), (429, .ok (.newarray .int, 2)), (431, .ok (.putfield 126, 3)), (434, .ok (.aload_n 0, 1)), (435, .ok (.bipush 8, 2)), (437, .ok (.newarray .int, 2)), (439, .ok (.putfield 129, 3)), (442, .ok (.aload_n 0, 1)), (443, .ok (.iconst (-1), 1)), (444, .ok (.putfield 132, 3)), (447, .ok (.aload_n 0, 1)), (448, .ok (.bipush 24, 2)), (450, .ok (.newarray .int, 2)), (452, .ok (.putfield 135, 3)), (455, .ok (.aload_n 0, 1)), (456, .ok (.bipush 24, 2)), (458, .ok (.newarray .int, 2)), (460, .ok (.putfield 138, 3)), (463, .ok (.aload_n 0, 1)), (464, .ok (.bipush 24, 2)), (466, .ok (.newarray .int, 2)), (468, .ok (.putfield 141, 3)), (471, .ok (.aload_n 0, 1)), (472, .ok (.bipush 24, 2)), (474, .ok (.newarray .int, 2)), (476, .ok (.putfield 144, 3)), (479, .ok (.aload_n 0, 1)), (480, .ok (.bipush 24, 2)), (482, .ok (.newarray .boolean, 2)), (484, .ok (.putfield 147, 3)), (487, .ok (.aload_n 0, 1)), (488, .ok (.invokevirtual 151, 3)), (491, .ok (.return_, 1))]
theorem da_207 : dl_207.all (fun q => decide (decode cX10_init q.1 = q.2)) = true := by decide +kernel
theorem dX10_init_426 : decode cX10_init 426 = .ok (.aload_n 0, 1) := dec_of (decode cX10_init) da_207 0 rfl
theorem dX10_init_427 : decode cX10_init 427 = .ok (.bipush 16, 2) := dec_of (decode cX10_init) da_207 1 rfl
theorem dX10_init_429 : decode cX10_init 429 = .ok (.newarray .int, 2) := dec_of (decode cX10_init) da_207 2 rfl
theorem dX10_init_431 : decode cX10_init 431 = .ok (.putfield 126, 3) := dec_of (decode cX10_init) da_207 3 rfl
theorem dX10_init_434 : decode cX10_init 434 = .ok (.aload_n 0, 1) := dec_of (decode cX10_init) da_207 4 rfl
theorem dX10_init_435 : decode cX10_init 435 = .ok (.bipush 8, 2) := dec_of (decode cX10_init) da_207 5 rfl
theorem dX10_init_437 : decode cX10_init 437 = .ok (.newarray .int, 2) := dec_of (decode cX10_init) da_207 6 rfl
theorem dX10_init_439 : decode cX10_init 439 = .ok (.putfield 129, 3) := dec_of (decode cX10_init) da_207 7 rfl
theorem dX10_init_442 : decode cX10_init 442 = .ok (.aload_n 0, 1) := dec_of (decode cX10_init) da_207 8 rfl
theorem dX10_init_443 : decode cX10_init 443 = .ok (.iconst (-1), 1) := dec_of (decode cX10_init) da_207 9 rfl
theorem dX10_init_444 : decode cX10_init 444 = .ok (.putfield 132, 3) := dec_of (decode cX10_init) da_207 10 rfl
theorem dX10_init_447 : decode cX10_init 447 = .ok (.aload_n 0, 1) := dec_of (decode cX10_init) da_207 11 rfl
theorem dX10_init_448 : decode cX10_init 448 = .ok (.bipush 24, 2) := dec_of (decode cX10_init) da_207 12 rfl
theorem dX10_init_450 : decode cX10_init 450 = .ok (.newarray .int, 2) := dec_of (decode cX10_init) da_207 13 rfl
theorem dX10_init_452 : decode cX10_init 452 = .ok (.putfield 135, 3) := dec_of (decode cX10_init) da_207 14 rfl
theorem dX10_init_455 : decode cX10_init 455 = .ok (.aload_n 0, 1) := dec_of (decode cX10_init) da_207 15 rfl
theorem dX10_init_456 : decode cX10_init 456 = .ok (.bipush 24, 2) := dec_of (decode cX10_init) da_207 16 rfl
theorem dX10_init_458 : decode cX10_init 458 = .ok (.newarray .int, 2) := dec_of (decode cX10_init) da_207 17 rfl
theorem dX10_init_460 : decode cX10_init 460 = .ok (.putfield 138, 3) := dec_of (decode cX10_init) da_207 18 rfl
theorem dX10_init_463 : decode cX10_init 463 = .ok (.aload_n 0, 1) := dec_of (decode cX10_init) da_207 19 rfl
theorem dX10_init_464 : decode cX10_init 464 = .ok (.bipush 24, 2) := dec_of (decode cX10_init) da_207 20 rfl
theorem dX10_init_466 : decode cX10_init 466 = .ok (.newarray .int, 2) := dec_of (decode cX10_init) da_207 21 rfl
theorem dX10_init_468 : decode cX10_init 468 = .ok (.putfield 141, 3) := dec_of (decode cX10_init) da_207 22 rfl
theorem dX10_init_471 : decode cX10_init 471 = .ok (.aload_n 0, 1) := dec_of (decode cX10_init) da_207 23 rfl
theorem dX10_init_472 : decode cX10_init 472 = .ok (.bipush 24, 2) := dec_of (decode cX10_init) da_207 24 rfl
theorem dX10_init_474 : decode cX10_init 474 = .ok (.newarray .int, 2) := dec_of (decode cX10_init) da_207 25 rfl
theorem dX10_init_476 : decode cX10_init 476 = .ok (.putfield 144, 3) := dec_of (decode cX10_init) da_207 26 rfl
theorem dX10_init_479 : decode cX10_init 479 = .ok (.aload_n 0, 1) := dec_of (decode cX10_init) da_207 27 rfl
theorem dX10_init_480 : decode cX10_init 480 = .ok (.bipush 24, 2) := dec_of (decode cX10_init) da_207 28 rfl
theorem dX10_init_482 : decode cX10_init 482 = .ok (.newarray .boolean, 2) := dec_of (decode cX10_init) da_207 29 rfl
theorem dX10_init_484 : decode cX10_init 484 = .ok (.putfield 147, 3) := dec_of (decode cX10_init) da_207 30 rfl
theorem dX10_init_487 : decode cX10_init 487 = .ok (.aload_n 0, 1) := dec_of (decode cX10_init) da_207 31 rfl
theorem dX10_init_488 : decode cX10_init 488 = .ok (.invokevirtual 151, 3) := dec_of (decode cX10_init) da_207 32 rfl
theorem dX10_init_491 : decode cX10_init 491 = .ok (.return_, 1) := dec_of (decode cX10_init) da_207 33 rfl
abbrev dl_208 : List (Nat × Except DecodeError (Instr × Nat)) := [(0, .ok (.aload_n 0, 1)), (1, .ok (.getfield 154, 3)), (4, .ok (.ireturn, 1))]
theorem da_208 : dl_208.all (fun q => decide (decode cX10_thrown q.1 = q.2)) = true := by decide +kernel
theorem dX10_thrown_0 : decode cX10_thrown 0 = .ok (.aload_n 0, 1) := dec_of (decode cX10_thrown) da_208 0 rfl
theorem dX10_thrown_1 : decode cX10_thrown 1 = .ok (.getfield 154, 3) := dec_of (decode cX10_thrown) da_208 1 rfl
theorem dX10_thrown_4 : decode cX10_thrown 4 = .ok (.ireturn, 1) := dec_of (decode cX10_thrown) da_208 2 rfl
abbrev dl_209 : List (Nat × Except DecodeError (Instr × Nat)) := [(0, .ok (.aload_n 0, 1)), (1, .ok (.iconst 0, 1)), (2, .ok (.putfield 154, 3)), (5, .ok (.aload_n 0, 1)), (6, .ok (.getfield 157, 3)), (9, .ok (.sipush 680, 3)), (12, .ok (.if_icmp .le 5, 3)), (15, .ok (.iconst (-1), 1)), (16, .ok (.ireturn, 1)), (17, .ok (.iconst 0, 1)), (18, .ok (.istore 6, 2)), (20, .ok (.iload 6, 2)), (22, .ok (.bipush 20, 2)), (24, .ok (.if_icmp .ge 86, 3)), (27, .ok (.iload 6, 2)), (29, .ok (.iconst 4, 1)), (30, .ok (.if_icmp .ge 7, 3)), (33, .ok (.iload_n 1, 1)), (34, .ok (.goto 39, 3)), (37, .ok (.iload 6, 2)), (39, .ok (.bipush 8, 2)), (41, .ok (.if_icmp .ge 7, 3)), (44, .ok (.iload_n 2, 1)), (45, .ok (.goto 28, 3)), (48, .ok (.iload 6, 2)), (50, .ok (.bipush 12, 2)), (52, .ok (.if_icmp .ge 7, 3)), (55, .ok (.iload_n 3, 1)), (56, .ok (.goto 17, 3)), (59, .ok (.iload 6, 2)), (61, .ok (.bipush 16, 2)), (63, .ok (.if_icmp .ge 8, 3)), (66, .ok (.iload 4, 2)), (68, .ok (.goto 5, 3)), (71, .ok (.iload 5, 2)), (73, .ok (.istore 7, 2)), (75, .ok (.aload_n 0, 1)), (76, .ok (.getfield 7, 3)), (79, .ok (.aload_n 0, 1)), (80, .ok (.getfield 157, 3))]
theorem da_209 : dl_209.all (fun q => decide (decode cX10_feed q.1 = q.2)) = true := by decide +kernel
theorem dX10_feed_0 : decode cX10_feed 0 = .ok (.aload_n 0, 1) := dec_of (decode cX10_feed) da_209 0 rfl
theorem dX10_feed_1 : decode cX10_feed 1 = .ok (.iconst 0, 1) := dec_of (decode cX10_feed) da_209 1 rfl
theorem dX10_feed_2 : decode cX10_feed 2 = .ok (.putfield 154, 3) := dec_of (decode cX10_feed) da_209 2 rfl
theorem dX10_feed_5 : decode cX10_feed 5 = .ok (.aload_n 0, 1) := dec_of (decode cX10_feed) da_209 3 rfl
theorem dX10_feed_6 : decode cX10_feed 6 = .ok (.getfield 157, 3) := dec_of (decode cX10_feed) da_209 4 rfl
theorem dX10_feed_9 : decode cX10_feed 9 = .ok (.sipush 680, 3) := dec_of (decode cX10_feed) da_209 5 rfl
theorem dX10_feed_12 : decode cX10_feed 12 = .ok (.if_icmp .le 5, 3) := dec_of (decode cX10_feed) da_209 6 rfl
theorem dX10_feed_15 : decode cX10_feed 15 = .ok (.iconst (-1), 1) := dec_of (decode cX10_feed) da_209 7 rfl
theorem dX10_feed_16 : decode cX10_feed 16 = .ok (.ireturn, 1) := dec_of (decode cX10_feed) da_209 8 rfl
theorem dX10_feed_17 : decode cX10_feed 17 = .ok (.iconst 0, 1) := dec_of (decode cX10_feed) da_209 9 rfl
theorem dX10_feed_18 : decode cX10_feed 18 = .ok (.istore 6, 2) := dec_of (decode cX10_feed) da_209 10 rfl
theorem dX10_feed_20 : decode cX10_feed 20 = .ok (.iload 6, 2) := dec_of (decode cX10_feed) da_209 11 rfl
theorem dX10_feed_22 : decode cX10_feed 22 = .ok (.bipush 20, 2) := dec_of (decode cX10_feed) da_209 12 rfl
theorem dX10_feed_24 : decode cX10_feed 24 = .ok (.if_icmp .ge 86, 3) := dec_of (decode cX10_feed) da_209 13 rfl
theorem dX10_feed_27 : decode cX10_feed 27 = .ok (.iload 6, 2) := dec_of (decode cX10_feed) da_209 14 rfl
theorem dX10_feed_29 : decode cX10_feed 29 = .ok (.iconst 4, 1) := dec_of (decode cX10_feed) da_209 15 rfl
theorem dX10_feed_30 : decode cX10_feed 30 = .ok (.if_icmp .ge 7, 3) := dec_of (decode cX10_feed) da_209 16 rfl
theorem dX10_feed_33 : decode cX10_feed 33 = .ok (.iload_n 1, 1) := dec_of (decode cX10_feed) da_209 17 rfl
theorem dX10_feed_34 : decode cX10_feed 34 = .ok (.goto 39, 3) := dec_of (decode cX10_feed) da_209 18 rfl
theorem dX10_feed_37 : decode cX10_feed 37 = .ok (.iload 6, 2) := dec_of (decode cX10_feed) da_209 19 rfl
theorem dX10_feed_39 : decode cX10_feed 39 = .ok (.bipush 8, 2) := dec_of (decode cX10_feed) da_209 20 rfl
theorem dX10_feed_41 : decode cX10_feed 41 = .ok (.if_icmp .ge 7, 3) := dec_of (decode cX10_feed) da_209 21 rfl
theorem dX10_feed_44 : decode cX10_feed 44 = .ok (.iload_n 2, 1) := dec_of (decode cX10_feed) da_209 22 rfl
theorem dX10_feed_45 : decode cX10_feed 45 = .ok (.goto 28, 3) := dec_of (decode cX10_feed) da_209 23 rfl
theorem dX10_feed_48 : decode cX10_feed 48 = .ok (.iload 6, 2) := dec_of (decode cX10_feed) da_209 24 rfl
theorem dX10_feed_50 : decode cX10_feed 50 = .ok (.bipush 12, 2) := dec_of (decode cX10_feed) da_209 25 rfl
theorem dX10_feed_52 : decode cX10_feed 52 = .ok (.if_icmp .ge 7, 3) := dec_of (decode cX10_feed) da_209 26 rfl
theorem dX10_feed_55 : decode cX10_feed 55 = .ok (.iload_n 3, 1) := dec_of (decode cX10_feed) da_209 27 rfl
theorem dX10_feed_56 : decode cX10_feed 56 = .ok (.goto 17, 3) := dec_of (decode cX10_feed) da_209 28 rfl
theorem dX10_feed_59 : decode cX10_feed 59 = .ok (.iload 6, 2) := dec_of (decode cX10_feed) da_209 29 rfl
theorem dX10_feed_61 : decode cX10_feed 61 = .ok (.bipush 16, 2) := dec_of (decode cX10_feed) da_209 30 rfl
theorem dX10_feed_63 : decode cX10_feed 63 = .ok (.if_icmp .ge 8, 3) := dec_of (decode cX10_feed) da_209 31 rfl
theorem dX10_feed_66 : decode cX10_feed 66 = .ok (.iload 4, 2) := dec_of (decode cX10_feed) da_209 32 rfl
theorem dX10_feed_68 : decode cX10_feed 68 = .ok (.goto 5, 3) := dec_of (decode cX10_feed) da_209 33 rfl
theorem dX10_feed_71 : decode cX10_feed 71 = .ok (.iload 5, 2) := dec_of (decode cX10_feed) da_209 34 rfl
theorem dX10_feed_73 : decode cX10_feed 73 = .ok (.istore 7, 2) := dec_of (decode cX10_feed) da_209 35 rfl
theorem dX10_feed_75 : decode cX10_feed 75 = .ok (.aload_n 0, 1) := dec_of (decode cX10_feed) da_209 36 rfl
theorem dX10_feed_76 : decode cX10_feed 76 = .ok (.getfield 7, 3) := dec_of (decode cX10_feed) da_209 37 rfl
theorem dX10_feed_79 : decode cX10_feed 79 = .ok (.aload_n 0, 1) := dec_of (decode cX10_feed) da_209 38 rfl
theorem dX10_feed_80 : decode cX10_feed 80 = .ok (.getfield 157, 3) := dec_of (decode cX10_feed) da_209 39 rfl
abbrev dl_210 : List (Nat × Except DecodeError (Instr × Nat)) := [(83, .ok (.iload 6, 2)), (85, .ok (.iadd, 1)), (86, .ok (.iload 7, 2)), (88, .ok (.bipush 24, 2)), (90, .ok (.bipush 8, 2)), (92, .ok (.iload 6, 2)), (94, .ok (.iconst 4, 1)), (95, .ok (.irem, 1)), (96, .ok (.imul, 1)), (97, .ok (.isub, 1)), (98, .ok (.ishr, 1)), (99, .ok (.sipush 255, 3)), (102, .ok (.iand, 1)), (103, .ok (.iastore, 1)), (104, .ok (.iinc 6 1, 3)), (107, .ok (.goto (-87), 3)), (110, .ok (.aload_n 0, 1)), (111, .ok (.dup, 1)), (112, .ok (.getfield 157, 3)), (115, .ok (.bipush 20, 2)), (117, .ok (.iadd, 1)), (118, .ok (.putfield 157, 3)), (121, .ok (.aload_n 0, 1)), (122, .ok (.getfield 157, 3)), (125, .ok (.ireturn, 1))]
theorem da_210 : dl_210.all (fun q => decide (decode cX10_feed q.1 = q.2)) = true := by decide +kernel
theorem dX10_feed_83 : decode cX10_feed 83 = .ok (.iload 6, 2) := dec_of (decode cX10_feed) da_210 0 rfl
theorem dX10_feed_85 : decode cX10_feed 85 = .ok (.iadd, 1) := dec_of (decode cX10_feed) da_210 1 rfl
theorem dX10_feed_86 : decode cX10_feed 86 = .ok (.iload 7, 2) := dec_of (decode cX10_feed) da_210 2 rfl
theorem dX10_feed_88 : decode cX10_feed 88 = .ok (.bipush 24, 2) := dec_of (decode cX10_feed) da_210 3 rfl
theorem dX10_feed_90 : decode cX10_feed 90 = .ok (.bipush 8, 2) := dec_of (decode cX10_feed) da_210 4 rfl
theorem dX10_feed_92 : decode cX10_feed 92 = .ok (.iload 6, 2) := dec_of (decode cX10_feed) da_210 5 rfl
theorem dX10_feed_94 : decode cX10_feed 94 = .ok (.iconst 4, 1) := dec_of (decode cX10_feed) da_210 6 rfl
theorem dX10_feed_95 : decode cX10_feed 95 = .ok (.irem, 1) := dec_of (decode cX10_feed) da_210 7 rfl
theorem dX10_feed_96 : decode cX10_feed 96 = .ok (.imul, 1) := dec_of (decode cX10_feed) da_210 8 rfl
theorem dX10_feed_97 : decode cX10_feed 97 = .ok (.isub, 1) := dec_of (decode cX10_feed) da_210 9 rfl
theorem dX10_feed_98 : decode cX10_feed 98 = .ok (.ishr, 1) := dec_of (decode cX10_feed) da_210 10 rfl
theorem dX10_feed_99 : decode cX10_feed 99 = .ok (.sipush 255, 3) := dec_of (decode cX10_feed) da_210 11 rfl
theorem dX10_feed_102 : decode cX10_feed 102 = .ok (.iand, 1) := dec_of (decode cX10_feed) da_210 12 rfl
theorem dX10_feed_103 : decode cX10_feed 103 = .ok (.iastore, 1) := dec_of (decode cX10_feed) da_210 13 rfl
theorem dX10_feed_104 : decode cX10_feed 104 = .ok (.iinc 6 1, 3) := dec_of (decode cX10_feed) da_210 14 rfl
theorem dX10_feed_107 : decode cX10_feed 107 = .ok (.goto (-87), 3) := dec_of (decode cX10_feed) da_210 15 rfl
theorem dX10_feed_110 : decode cX10_feed 110 = .ok (.aload_n 0, 1) := dec_of (decode cX10_feed) da_210 16 rfl
theorem dX10_feed_111 : decode cX10_feed 111 = .ok (.dup, 1) := dec_of (decode cX10_feed) da_210 17 rfl
theorem dX10_feed_112 : decode cX10_feed 112 = .ok (.getfield 157, 3) := dec_of (decode cX10_feed) da_210 18 rfl
theorem dX10_feed_115 : decode cX10_feed 115 = .ok (.bipush 20, 2) := dec_of (decode cX10_feed) da_210 19 rfl
theorem dX10_feed_117 : decode cX10_feed 117 = .ok (.iadd, 1) := dec_of (decode cX10_feed) da_210 20 rfl
theorem dX10_feed_118 : decode cX10_feed 118 = .ok (.putfield 157, 3) := dec_of (decode cX10_feed) da_210 21 rfl
theorem dX10_feed_121 : decode cX10_feed 121 = .ok (.aload_n 0, 1) := dec_of (decode cX10_feed) da_210 22 rfl
theorem dX10_feed_122 : decode cX10_feed 122 = .ok (.getfield 157, 3) := dec_of (decode cX10_feed) da_210 23 rfl
theorem dX10_feed_125 : decode cX10_feed 125 = .ok (.ireturn, 1) := dec_of (decode cX10_feed) da_210 24 rfl
abbrev dl_211 : List (Nat × Except DecodeError (Instr × Nat)) := [(0, .ok (.aload_n 0, 1)), (1, .ok (.getfield 160, 3)), (4, .ok (.aload_n 0, 1)), (5, .ok (.getfield 163, 3)), (8, .ok (.if_icmp .ge 15, 3)), (11, .ok (.aload_n 0, 1)), (12, .ok (.getfield 7, 3)), (15, .ok (.aload_n 0, 1)), (16, .ok (.getfield 160, 3)), (19, .ok (.iaload, 1)), (20, .ok (.goto 4, 3)), (23, .ok (.iconst (-1), 1)), (24, .ok (.ireturn, 1))]
theorem da_211 : dl_211.all (fun q => decide (decode cX10_here q.1 = q.2)) = true := by decide +kernel
theorem dX10_here_0 : decode cX10_here 0 = .ok (.aload_n 0, 1) := dec_of (decode cX10_here) da_211 0 rfl
theorem dX10_here_1 : decode cX10_here 1 = .ok (.getfield 160, 3) := dec_of (decode cX10_here) da_211 1 rfl
theorem dX10_here_4 : decode cX10_here 4 = .ok (.aload_n 0, 1) := dec_of (decode cX10_here) da_211 2 rfl
theorem dX10_here_5 : decode cX10_here 5 = .ok (.getfield 163, 3) := dec_of (decode cX10_here) da_211 3 rfl
theorem dX10_here_8 : decode cX10_here 8 = .ok (.if_icmp .ge 15, 3) := dec_of (decode cX10_here) da_211 4 rfl
theorem dX10_here_11 : decode cX10_here 11 = .ok (.aload_n 0, 1) := dec_of (decode cX10_here) da_211 5 rfl
theorem dX10_here_12 : decode cX10_here 12 = .ok (.getfield 7, 3) := dec_of (decode cX10_here) da_211 6 rfl
theorem dX10_here_15 : decode cX10_here 15 = .ok (.aload_n 0, 1) := dec_of (decode cX10_here) da_211 7 rfl
theorem dX10_here_16 : decode cX10_here 16 = .ok (.getfield 160, 3) := dec_of (decode cX10_here) da_211 8 rfl
theorem dX10_here_19 : decode cX10_here 19 = .ok (.iaload, 1) := dec_of (decode cX10_here) da_211 9 rfl
theorem dX10_here_20 : decode cX10_here 20 = .ok (.goto 4, 3) := dec_of (decode cX10_here) da_211 10 rfl
theorem dX10_here_23 : decode cX10_here 23 = .ok (.iconst (-1), 1) := dec_of (decode cX10_here) da_211 11 rfl
theorem dX10_here_24 : decode cX10_here 24 = .ok (.ireturn, 1) := dec_of (decode cX10_here) da_211 12 rfl
abbrev dl_212 : List (Nat × Except DecodeError (Instr × Nat)) := [(0, .ok (.iload_n 0, 1)), (1, .ok (.bipush 97, 2)), (3, .ok (.if_icmp .lt 13, 3)), (6, .ok (.iload_n 0, 1)), (7, .ok (.bipush 122, 2)), (9, .ok (.if_icmp .gt 7, 3)), (12, .ok (.iconst 1, 1)), (13, .ok (.goto 4, 3)), (16, .ok (.iconst 0, 1)), (17, .ok (.ireturn, 1))]
theorem da_212 : dl_212.all (fun q => decide (decode cX10_isSmall q.1 = q.2)) = true := by decide +kernel
theorem dX10_isSmall_0 : decode cX10_isSmall 0 = .ok (.iload_n 0, 1) := dec_of (decode cX10_isSmall) da_212 0 rfl
theorem dX10_isSmall_1 : decode cX10_isSmall 1 = .ok (.bipush 97, 2) := dec_of (decode cX10_isSmall) da_212 1 rfl
theorem dX10_isSmall_3 : decode cX10_isSmall 3 = .ok (.if_icmp .lt 13, 3) := dec_of (decode cX10_isSmall) da_212 2 rfl
theorem dX10_isSmall_6 : decode cX10_isSmall 6 = .ok (.iload_n 0, 1) := dec_of (decode cX10_isSmall) da_212 3 rfl
theorem dX10_isSmall_7 : decode cX10_isSmall 7 = .ok (.bipush 122, 2) := dec_of (decode cX10_isSmall) da_212 4 rfl
theorem dX10_isSmall_9 : decode cX10_isSmall 9 = .ok (.if_icmp .gt 7, 3) := dec_of (decode cX10_isSmall) da_212 5 rfl
theorem dX10_isSmall_12 : decode cX10_isSmall 12 = .ok (.iconst 1, 1) := dec_of (decode cX10_isSmall) da_212 6 rfl
theorem dX10_isSmall_13 : decode cX10_isSmall 13 = .ok (.goto 4, 3) := dec_of (decode cX10_isSmall) da_212 7 rfl
theorem dX10_isSmall_16 : decode cX10_isSmall 16 = .ok (.iconst 0, 1) := dec_of (decode cX10_isSmall) da_212 8 rfl
theorem dX10_isSmall_17 : decode cX10_isSmall 17 = .ok (.ireturn, 1) := dec_of (decode cX10_isSmall) da_212 9 rfl
abbrev dl_213 : List (Nat × Except DecodeError (Instr × Nat)) := [(0, .ok (.iload_n 0, 1)), (1, .ok (.bipush 48, 2)), (3, .ok (.if_icmp .lt 13, 3)), (6, .ok (.iload_n 0, 1)), (7, .ok (.bipush 57, 2)), (9, .ok (.if_icmp .gt 7, 3)), (12, .ok (.iconst 1, 1)), (13, .ok (.goto 4, 3)), (16, .ok (.iconst 0, 1)), (17, .ok (.ireturn, 1))]
theorem da_213 : dl_213.all (fun q => decide (decode cX10_isDigit q.1 = q.2)) = true := by decide +kernel
theorem dX10_isDigit_0 : decode cX10_isDigit 0 = .ok (.iload_n 0, 1) := dec_of (decode cX10_isDigit) da_213 0 rfl
theorem dX10_isDigit_1 : decode cX10_isDigit 1 = .ok (.bipush 48, 2) := dec_of (decode cX10_isDigit) da_213 1 rfl
theorem dX10_isDigit_3 : decode cX10_isDigit 3 = .ok (.if_icmp .lt 13, 3) := dec_of (decode cX10_isDigit) da_213 2 rfl
theorem dX10_isDigit_6 : decode cX10_isDigit 6 = .ok (.iload_n 0, 1) := dec_of (decode cX10_isDigit) da_213 3 rfl
theorem dX10_isDigit_7 : decode cX10_isDigit 7 = .ok (.bipush 57, 2) := dec_of (decode cX10_isDigit) da_213 4 rfl
theorem dX10_isDigit_9 : decode cX10_isDigit 9 = .ok (.if_icmp .gt 7, 3) := dec_of (decode cX10_isDigit) da_213 5 rfl
theorem dX10_isDigit_12 : decode cX10_isDigit 12 = .ok (.iconst 1, 1) := dec_of (decode cX10_isDigit) da_213 6 rfl
theorem dX10_isDigit_13 : decode cX10_isDigit 13 = .ok (.goto 4, 3) := dec_of (decode cX10_isDigit) da_213 7 rfl
theorem dX10_isDigit_16 : decode cX10_isDigit 16 = .ok (.iconst 0, 1) := dec_of (decode cX10_isDigit) da_213 8 rfl
theorem dX10_isDigit_17 : decode cX10_isDigit 17 = .ok (.ireturn, 1) := dec_of (decode cX10_isDigit) da_213 9 rfl
abbrev dl_214 : List (Nat × Except DecodeError (Instr × Nat)) := [(0, .ok (.aload_n 0, 1)), (1, .ok (.invokevirtual 166, 3)), (4, .ok (.bipush 10, 2)), (6, .ok (.if_icmp .eq 12, 3)), (9, .ok (.aload_n 0, 1)), (10, .ok (.invokevirtual 166, 3)), (13, .ok (.bipush 32, 2)), (15, .ok (.if_icmp .ne 16, 3)), (18, .ok (.aload_n 0, 1)), (19, .ok (.dup, 1)), (20, .ok (.getfield 160, 3)), (23, .ok (.iconst 1, 1)), (24, .ok (.iadd, 1)), (25, .ok (.putfield 160, 3)), (28, .ok (.goto (-28), 3)), (31, .ok (.aload_n 0, 1)), (32, .ok (.aload_n 0, 1)), (33, .ok (.getfield 160, 3)), (36, .ok (.putfield 170, 3)), (39, .ok (.aload_n 0, 1)), (40, .ok (.invokevirtual 166, 3)), (43, .ok (.istore_n 1, 1)), (44, .ok (.iload_n 1, 1)), (45, .ok (.iconst (-1), 1)), (46, .ok (.if_icmp .ne 11, 3)), (49, .ok (.aload_n 0, 1)), (50, .ok (.iconst 4, 1)), (51, .ok (.putfield 173, 3)), (54, .ok (.goto 171, 3)), (57, .ok (.iload_n 1, 1)), (58, .ok (.invokestatic 176, 3)), (61, .ok (.ifCond .eq 84, 3)), (64, .ok (.aload_n 0, 1)), (65, .ok (.invokevirtual 166, 3)), (68, .ok (.invokestatic 176, 3)), (71, .ok (.ifCond .eq 16, 3)), (74, .ok (.aload_n 0, 1)), (75, .ok (.dup, 1)), (76, .ok (.getfield 160, 3)), (79, .ok (.iconst 1, 1))]
theorem da_214 : dl_214.all (fun q => decide (decode cX10_token q.1 = q.2)) = true := by decide +kernel
theorem dX10_token_0 : decode cX10_token 0 = .ok (.aload_n 0, 1) := dec_of (decode cX10_token) da_214 0 rfl
theorem dX10_token_1 : decode cX10_token 1 = .ok (.invokevirtual 166, 3) := dec_of (decode cX10_token) da_214 1 rfl
theorem dX10_token_4 : decode cX10_token 4 = .ok (.bipush 10, 2) := dec_of (decode cX10_token) da_214 2 rfl
theorem dX10_token_6 : decode cX10_token 6 = .ok (.if_icmp .eq 12, 3) := dec_of (decode cX10_token) da_214 3 rfl
theorem dX10_token_9 : decode cX10_token 9 = .ok (.aload_n 0, 1) := dec_of (decode cX10_token) da_214 4 rfl
theorem dX10_token_10 : decode cX10_token 10 = .ok (.invokevirtual 166, 3) := dec_of (decode cX10_token) da_214 5 rfl
theorem dX10_token_13 : decode cX10_token 13 = .ok (.bipush 32, 2) := dec_of (decode cX10_token) da_214 6 rfl
theorem dX10_token_15 : decode cX10_token 15 = .ok (.if_icmp .ne 16, 3) := dec_of (decode cX10_token) da_214 7 rfl
theorem dX10_token_18 : decode cX10_token 18 = .ok (.aload_n 0, 1) := dec_of (decode cX10_token) da_214 8 rfl
theorem dX10_token_19 : decode cX10_token 19 = .ok (.dup, 1) := dec_of (decode cX10_token) da_214 9 rfl
theorem dX10_token_20 : decode cX10_token 20 = .ok (.getfield 160, 3) := dec_of (decode cX10_token) da_214 10 rfl
theorem dX10_token_23 : decode cX10_token 23 = .ok (.iconst 1, 1) := dec_of (decode cX10_token) da_214 11 rfl
theorem dX10_token_24 : decode cX10_token 24 = .ok (.iadd, 1) := dec_of (decode cX10_token) da_214 12 rfl
theorem dX10_token_25 : decode cX10_token 25 = .ok (.putfield 160, 3) := dec_of (decode cX10_token) da_214 13 rfl
theorem dX10_token_28 : decode cX10_token 28 = .ok (.goto (-28), 3) := dec_of (decode cX10_token) da_214 14 rfl
theorem dX10_token_31 : decode cX10_token 31 = .ok (.aload_n 0, 1) := dec_of (decode cX10_token) da_214 15 rfl
theorem dX10_token_32 : decode cX10_token 32 = .ok (.aload_n 0, 1) := dec_of (decode cX10_token) da_214 16 rfl
theorem dX10_token_33 : decode cX10_token 33 = .ok (.getfield 160, 3) := dec_of (decode cX10_token) da_214 17 rfl
theorem dX10_token_36 : decode cX10_token 36 = .ok (.putfield 170, 3) := dec_of (decode cX10_token) da_214 18 rfl
theorem dX10_token_39 : decode cX10_token 39 = .ok (.aload_n 0, 1) := dec_of (decode cX10_token) da_214 19 rfl
theorem dX10_token_40 : decode cX10_token 40 = .ok (.invokevirtual 166, 3) := dec_of (decode cX10_token) da_214 20 rfl
theorem dX10_token_43 : decode cX10_token 43 = .ok (.istore_n 1, 1) := dec_of (decode cX10_token) da_214 21 rfl
theorem dX10_token_44 : decode cX10_token 44 = .ok (.iload_n 1, 1) := dec_of (decode cX10_token) da_214 22 rfl
theorem dX10_token_45 : decode cX10_token 45 = .ok (.iconst (-1), 1) := dec_of (decode cX10_token) da_214 23 rfl
theorem dX10_token_46 : decode cX10_token 46 = .ok (.if_icmp .ne 11, 3) := dec_of (decode cX10_token) da_214 24 rfl
theorem dX10_token_49 : decode cX10_token 49 = .ok (.aload_n 0, 1) := dec_of (decode cX10_token) da_214 25 rfl
theorem dX10_token_50 : decode cX10_token 50 = .ok (.iconst 4, 1) := dec_of (decode cX10_token) da_214 26 rfl
theorem dX10_token_51 : decode cX10_token 51 = .ok (.putfield 173, 3) := dec_of (decode cX10_token) da_214 27 rfl
theorem dX10_token_54 : decode cX10_token 54 = .ok (.goto 171, 3) := dec_of (decode cX10_token) da_214 28 rfl
theorem dX10_token_57 : decode cX10_token 57 = .ok (.iload_n 1, 1) := dec_of (decode cX10_token) da_214 29 rfl
theorem dX10_token_58 : decode cX10_token 58 = .ok (.invokestatic 176, 3) := dec_of (decode cX10_token) da_214 30 rfl
theorem dX10_token_61 : decode cX10_token 61 = .ok (.ifCond .eq 84, 3) := dec_of (decode cX10_token) da_214 31 rfl
theorem dX10_token_64 : decode cX10_token 64 = .ok (.aload_n 0, 1) := dec_of (decode cX10_token) da_214 32 rfl
theorem dX10_token_65 : decode cX10_token 65 = .ok (.invokevirtual 166, 3) := dec_of (decode cX10_token) da_214 33 rfl
theorem dX10_token_68 : decode cX10_token 68 = .ok (.invokestatic 176, 3) := dec_of (decode cX10_token) da_214 34 rfl
theorem dX10_token_71 : decode cX10_token 71 = .ok (.ifCond .eq 16, 3) := dec_of (decode cX10_token) da_214 35 rfl
theorem dX10_token_74 : decode cX10_token 74 = .ok (.aload_n 0, 1) := dec_of (decode cX10_token) da_214 36 rfl
theorem dX10_token_75 : decode cX10_token 75 = .ok (.dup, 1) := dec_of (decode cX10_token) da_214 37 rfl
theorem dX10_token_76 : decode cX10_token 76 = .ok (.getfield 160, 3) := dec_of (decode cX10_token) da_214 38 rfl
theorem dX10_token_79 : decode cX10_token 79 = .ok (.iconst 1, 1) := dec_of (decode cX10_token) da_214 39 rfl
abbrev dl_215 : List (Nat × Except DecodeError (Instr × Nat)) := [(80, .ok (.iadd, 1)), (81, .ok (.putfield 160, 3)), (84, .ok (.goto (-20), 3)), (87, .ok (.aload_n 0, 1)), (88, .ok (.aload_n 0, 1)), (89, .ok (.invokevirtual 180, 3)), (92, .ok (.putfield 183, 3)), (95, .ok (.aload_n 0, 1)), (96, .ok (.aload_n 0, 1)), (97, .ok (.getfield 183, 3)), (100, .ok (.iconst (-1), 1)), (101, .ok (.if_icmp .eq 7, 3)), (104, .ok (.iconst 0, 1)), (105, .ok (.goto 22, 3)), (108, .ok (.aload_n 0, 1)), (109, .ok (.getfield 160, 3)), (112, .ok (.aload_n 0, 1)), (113, .ok (.getfield 170, 3)), (116, .ok (.isub, 1)), (117, .ok (.bipush 6, 2)), (119, .ok (.if_icmp .le 7, 3)), (122, .ok (.iconst 5, 1)), (123, .ok (.goto 4, 3)), (126, .ok (.iconst 1, 1)), (127, .ok (.putfield 173, 3)), (130, .ok (.aload_n 0, 1)), (131, .ok (.getfield 173, 3)), (134, .ok (.iconst 1, 1)), (135, .ok (.if_icmp .ne 90, 3)), (138, .ok (.aload_n 0, 1)), (139, .ok (.invokevirtual 186, 3)), (142, .ok (.goto 83, 3)), (145, .ok (.iload_n 1, 1)), (146, .ok (.invokestatic 189, 3)), (149, .ok (.ifCond .eq 71, 3)), (152, .ok (.aload_n 0, 1)), (153, .ok (.iconst 2, 1)), (154, .ok (.putfield 173, 3)), (157, .ok (.aload_n 0, 1)), (158, .ok (.iconst 0, 1))]
theorem da_215 : dl_215.all (fun q => decide (decode cX10_token q.1 = q.2)) = true := by decide +kernel
theorem dX10_token_80 : decode cX10_token 80 = .ok (.iadd, 1) := dec_of (decode cX10_token) da_215 0 rfl
theorem dX10_token_81 : decode cX10_token 81 = .ok (.putfield 160, 3) := dec_of (decode cX10_token) da_215 1 rfl
theorem dX10_token_84 : decode cX10_token 84 = .ok (.goto (-20), 3) := dec_of (decode cX10_token) da_215 2 rfl
theorem dX10_token_87 : decode cX10_token 87 = .ok (.aload_n 0, 1) := dec_of (decode cX10_token) da_215 3 rfl
theorem dX10_token_88 : decode cX10_token 88 = .ok (.aload_n 0, 1) := dec_of (decode cX10_token) da_215 4 rfl
theorem dX10_token_89 : decode cX10_token 89 = .ok (.invokevirtual 180, 3) := dec_of (decode cX10_token) da_215 5 rfl
theorem dX10_token_92 : decode cX10_token 92 = .ok (.putfield 183, 3) := dec_of (decode cX10_token) da_215 6 rfl
theorem dX10_token_95 : decode cX10_token 95 = .ok (.aload_n 0, 1) := dec_of (decode cX10_token) da_215 7 rfl
theorem dX10_token_96 : decode cX10_token 96 = .ok (.aload_n 0, 1) := dec_of (decode cX10_token) da_215 8 rfl
theorem dX10_token_97 : decode cX10_token 97 = .ok (.getfield 183, 3) := dec_of (decode cX10_token) da_215 9 rfl
theorem dX10_token_100 : decode cX10_token 100 = .ok (.iconst (-1), 1) := dec_of (decode cX10_token) da_215 10 rfl
theorem dX10_token_101 : decode cX10_token 101 = .ok (.if_icmp .eq 7, 3) := dec_of (decode cX10_token) da_215 11 rfl
theorem dX10_token_104 : decode cX10_token 104 = .ok (.iconst 0, 1) := dec_of (decode cX10_token) da_215 12 rfl
theorem dX10_token_105 : decode cX10_token 105 = .ok (.goto 22, 3) := dec_of (decode cX10_token) da_215 13 rfl
theorem dX10_token_108 : decode cX10_token 108 = .ok (.aload_n 0, 1) := dec_of (decode cX10_token) da_215 14 rfl
theorem dX10_token_109 : decode cX10_token 109 = .ok (.getfield 160, 3) := dec_of (decode cX10_token) da_215 15 rfl
theorem dX10_token_112 : decode cX10_token 112 = .ok (.aload_n 0, 1) := dec_of (decode cX10_token) da_215 16 rfl
theorem dX10_token_113 : decode cX10_token 113 = .ok (.getfield 170, 3) := dec_of (decode cX10_token) da_215 17 rfl
theorem dX10_token_116 : decode cX10_token 116 = .ok (.isub, 1) := dec_of (decode cX10_token) da_215 18 rfl
theorem dX10_token_117 : decode cX10_token 117 = .ok (.bipush 6, 2) := dec_of (decode cX10_token) da_215 19 rfl
theorem dX10_token_119 : decode cX10_token 119 = .ok (.if_icmp .le 7, 3) := dec_of (decode cX10_token) da_215 20 rfl
theorem dX10_token_122 : decode cX10_token 122 = .ok (.iconst 5, 1) := dec_of (decode cX10_token) da_215 21 rfl
theorem dX10_token_123 : decode cX10_token 123 = .ok (.goto 4, 3) := dec_of (decode cX10_token) da_215 22 rfl
theorem dX10_token_126 : decode cX10_token 126 = .ok (.iconst 1, 1) := dec_of (decode cX10_token) da_215 23 rfl
theorem dX10_token_127 : decode cX10_token 127 = .ok (.putfield 173, 3) := dec_of (decode cX10_token) da_215 24 rfl
theorem dX10_token_130 : decode cX10_token 130 = .ok (.aload_n 0, 1) := dec_of (decode cX10_token) da_215 25 rfl
theorem dX10_token_131 : decode cX10_token 131 = .ok (.getfield 173, 3) := dec_of (decode cX10_token) da_215 26 rfl
theorem dX10_token_134 : decode cX10_token 134 = .ok (.iconst 1, 1) := dec_of (decode cX10_token) da_215 27 rfl
theorem dX10_token_135 : decode cX10_token 135 = .ok (.if_icmp .ne 90, 3) := dec_of (decode cX10_token) da_215 28 rfl
theorem dX10_token_138 : decode cX10_token 138 = .ok (.aload_n 0, 1) := dec_of (decode cX10_token) da_215 29 rfl
theorem dX10_token_139 : decode cX10_token 139 = .ok (.invokevirtual 186, 3) := dec_of (decode cX10_token) da_215 30 rfl
theorem dX10_token_142 : decode cX10_token 142 = .ok (.goto 83, 3) := dec_of (decode cX10_token) da_215 31 rfl
theorem dX10_token_145 : decode cX10_token 145 = .ok (.iload_n 1, 1) := dec_of (decode cX10_token) da_215 32 rfl
theorem dX10_token_146 : decode cX10_token 146 = .ok (.invokestatic 189, 3) := dec_of (decode cX10_token) da_215 33 rfl
theorem dX10_token_149 : decode cX10_token 149 = .ok (.ifCond .eq 71, 3) := dec_of (decode cX10_token) da_215 34 rfl
theorem dX10_token_152 : decode cX10_token 152 = .ok (.aload_n 0, 1) := dec_of (decode cX10_token) da_215 35 rfl
theorem dX10_token_153 : decode cX10_token 153 = .ok (.iconst 2, 1) := dec_of (decode cX10_token) da_215 36 rfl
theorem dX10_token_154 : decode cX10_token 154 = .ok (.putfield 173, 3) := dec_of (decode cX10_token) da_215 37 rfl
theorem dX10_token_157 : decode cX10_token 157 = .ok (.aload_n 0, 1) := dec_of (decode cX10_token) da_215 38 rfl
theorem dX10_token_158 : decode cX10_token 158 = .ok (.iconst 0, 1) := dec_of (decode cX10_token) da_215 39 rfl
abbrev dl_216 : List (Nat × Except DecodeError (Instr × Nat)) := [(159, .ok (.putfield 183, 3)), (162, .ok (.aload_n 0, 1)), (163, .ok (.invokevirtual 166, 3)), (166, .ok (.invokestatic 189, 3)), (169, .ok (.ifCond .eq 56, 3)), (172, .ok (.aload_n 0, 1)), (173, .ok (.aload_n 0, 1)), (174, .ok (.getfield 183, 3)), (177, .ok (.ldc 192, 2)), (179, .ok (.if_icmp .le 10, 3)), (182, .ok (.aload_n 0, 1)), (183, .ok (.getfield 183, 3)), (186, .ok (.goto 18, 3)), (189, .ok (.bipush 10, 2)), (191, .ok (.aload_n 0, 1)), (192, .ok (.getfield 183, 3)), (195, .ok (.imul, 1)), (196, .ok (.aload_n 0, 1)), (197, .ok (.invokevirtual 166, 3)), (200, .ok (.iadd, 1)), (201, .ok (.bipush 48, 2)), (203, .ok (.isub, 1)), (204, .ok (.putfield 183, 3)), (207, .ok (.aload_n 0, 1)), (208, .ok (.dup, 1)), (209, .ok (.getfield 160, 3)), (212, .ok (.iconst 1, 1)), (213, .ok (.iadd, 1)), (214, .ok (.putfield 160, 3)), (217, .ok (.goto (-55), 3)), (220, .ok (.aload_n 0, 1)), (221, .ok (.iload_n 1, 1)), (222, .ok (.invokevirtual 193, 3)), (225, .ok (.return_, 1))]
theorem da_216 : dl_216.all (fun q => decide (decode cX10_token q.1 = q.2)) = true := by decide +kernel
theorem dX10_token_159 : decode cX10_token 159 = .ok (.putfield 183, 3) := dec_of (decode cX10_token) da_216 0 rfl
theorem dX10_token_162 : decode cX10_token 162 = .ok (.aload_n 0, 1) := dec_of (decode cX10_token) da_216 1 rfl
theorem dX10_token_163 : decode cX10_token 163 = .ok (.invokevirtual 166, 3) := dec_of (decode cX10_token) da_216 2 rfl
theorem dX10_token_166 : decode cX10_token 166 = .ok (.invokestatic 189, 3) := dec_of (decode cX10_token) da_216 3 rfl
theorem dX10_token_169 : decode cX10_token 169 = .ok (.ifCond .eq 56, 3) := dec_of (decode cX10_token) da_216 4 rfl
theorem dX10_token_172 : decode cX10_token 172 = .ok (.aload_n 0, 1) := dec_of (decode cX10_token) da_216 5 rfl
theorem dX10_token_173 : decode cX10_token 173 = .ok (.aload_n 0, 1) := dec_of (decode cX10_token) da_216 6 rfl
theorem dX10_token_174 : decode cX10_token 174 = .ok (.getfield 183, 3) := dec_of (decode cX10_token) da_216 7 rfl
theorem dX10_token_177 : decode cX10_token 177 = .ok (.ldc 192, 2) := dec_of (decode cX10_token) da_216 8 rfl
theorem dX10_token_179 : decode cX10_token 179 = .ok (.if_icmp .le 10, 3) := dec_of (decode cX10_token) da_216 9 rfl
theorem dX10_token_182 : decode cX10_token 182 = .ok (.aload_n 0, 1) := dec_of (decode cX10_token) da_216 10 rfl
theorem dX10_token_183 : decode cX10_token 183 = .ok (.getfield 183, 3) := dec_of (decode cX10_token) da_216 11 rfl
theorem dX10_token_186 : decode cX10_token 186 = .ok (.goto 18, 3) := dec_of (decode cX10_token) da_216 12 rfl
theorem dX10_token_189 : decode cX10_token 189 = .ok (.bipush 10, 2) := dec_of (decode cX10_token) da_216 13 rfl
theorem dX10_token_191 : decode cX10_token 191 = .ok (.aload_n 0, 1) := dec_of (decode cX10_token) da_216 14 rfl
theorem dX10_token_192 : decode cX10_token 192 = .ok (.getfield 183, 3) := dec_of (decode cX10_token) da_216 15 rfl
theorem dX10_token_195 : decode cX10_token 195 = .ok (.imul, 1) := dec_of (decode cX10_token) da_216 16 rfl
theorem dX10_token_196 : decode cX10_token 196 = .ok (.aload_n 0, 1) := dec_of (decode cX10_token) da_216 17 rfl
theorem dX10_token_197 : decode cX10_token 197 = .ok (.invokevirtual 166, 3) := dec_of (decode cX10_token) da_216 18 rfl
theorem dX10_token_200 : decode cX10_token 200 = .ok (.iadd, 1) := dec_of (decode cX10_token) da_216 19 rfl
theorem dX10_token_201 : decode cX10_token 201 = .ok (.bipush 48, 2) := dec_of (decode cX10_token) da_216 20 rfl
theorem dX10_token_203 : decode cX10_token 203 = .ok (.isub, 1) := dec_of (decode cX10_token) da_216 21 rfl
theorem dX10_token_204 : decode cX10_token 204 = .ok (.putfield 183, 3) := dec_of (decode cX10_token) da_216 22 rfl
theorem dX10_token_207 : decode cX10_token 207 = .ok (.aload_n 0, 1) := dec_of (decode cX10_token) da_216 23 rfl
theorem dX10_token_208 : decode cX10_token 208 = .ok (.dup, 1) := dec_of (decode cX10_token) da_216 24 rfl
theorem dX10_token_209 : decode cX10_token 209 = .ok (.getfield 160, 3) := dec_of (decode cX10_token) da_216 25 rfl
theorem dX10_token_212 : decode cX10_token 212 = .ok (.iconst 1, 1) := dec_of (decode cX10_token) da_216 26 rfl
theorem dX10_token_213 : decode cX10_token 213 = .ok (.iadd, 1) := dec_of (decode cX10_token) da_216 27 rfl
theorem dX10_token_214 : decode cX10_token 214 = .ok (.putfield 160, 3) := dec_of (decode cX10_token) da_216 28 rfl
theorem dX10_token_217 : decode cX10_token 217 = .ok (.goto (-55), 3) := dec_of (decode cX10_token) da_216 29 rfl
theorem dX10_token_220 : decode cX10_token 220 = .ok (.aload_n 0, 1) := dec_of (decode cX10_token) da_216 30 rfl
theorem dX10_token_221 : decode cX10_token 221 = .ok (.iload_n 1, 1) := dec_of (decode cX10_token) da_216 31 rfl
theorem dX10_token_222 : decode cX10_token 222 = .ok (.invokevirtual 193, 3) := dec_of (decode cX10_token) da_216 32 rfl
theorem dX10_token_225 : decode cX10_token 225 = .ok (.return_, 1) := dec_of (decode cX10_token) da_216 33 rfl
abbrev dl_217 : List (Nat × Except DecodeError (Instr × Nat)) := [(0, .ok (.aload_n 0, 1)), (1, .ok (.dup, 1)), (2, .ok (.getfield 160, 3)), (5, .ok (.iconst 1, 1)), (6, .ok (.iadd, 1)), (7, .ok (.putfield 160, 3)), (10, .ok (.aload_n 0, 1)), (11, .ok (.iload_n 1, 1)), (12, .ok (.bipush 59, 2)), (14, .ok (.if_icmp .eq 57, 3)), (17, .ok (.iload_n 1, 1)), (18, .ok (.bipush 40, 2)), (20, .ok (.if_icmp .eq 51, 3)), (23, .ok (.iload_n 1, 1)), (24, .ok (.bipush 41, 2)), (26, .ok (.if_icmp .eq 45, 3)), (29, .ok (.iload_n 1, 1)), (30, .ok (.bipush 43, 2)), (32, .ok (.if_icmp .eq 39, 3)), (35, .ok (.iload_n 1, 1)), (36, .ok (.bipush 45, 2)), (38, .ok (.if_icmp .eq 33, 3)), (41, .ok (.iload_n 1, 1)), (42, .ok (.bipush 42, 2)), (44, .ok (.if_icmp .eq 27, 3)), (47, .ok (.iload_n 1, 1)), (48, .ok (.bipush 47, 2)), (50, .ok (.if_icmp .eq 21, 3)), (53, .ok (.iload_n 1, 1)), (54, .ok (.bipush 60, 2)), (56, .ok (.if_icmp .eq 15, 3)), (59, .ok (.iload_n 1, 1)), (60, .ok (.bipush 61, 2)), (62, .ok (.if_icmp .eq 9, 3)), (65, .ok (.iload_n 1, 1)), (66, .ok (.bipush 62, 2)), (68, .ok (.if_icmp .ne 7, 3)), (71, .ok (.iconst 3, 1)), (72, .ok (.goto 4, 3)), (75, .ok (.iconst 5, 1))]
theorem da_217 : dl_217.all (fun q => decide (decode cX10_sign q.1 = q.2)) = true := by decide +kernel
theorem dX10_sign_0 : decode cX10_sign 0 = .ok (.aload_n 0, 1) := dec_of (decode cX10_sign) da_217 0 rfl
theorem dX10_sign_1 : decode cX10_sign 1 = .ok (.dup, 1) := dec_of (decode cX10_sign) da_217 1 rfl
theorem dX10_sign_2 : decode cX10_sign 2 = .ok (.getfield 160, 3) := dec_of (decode cX10_sign) da_217 2 rfl
theorem dX10_sign_5 : decode cX10_sign 5 = .ok (.iconst 1, 1) := dec_of (decode cX10_sign) da_217 3 rfl
theorem dX10_sign_6 : decode cX10_sign 6 = .ok (.iadd, 1) := dec_of (decode cX10_sign) da_217 4 rfl
theorem dX10_sign_7 : decode cX10_sign 7 = .ok (.putfield 160, 3) := dec_of (decode cX10_sign) da_217 5 rfl
theorem dX10_sign_10 : decode cX10_sign 10 = .ok (.aload_n 0, 1) := dec_of (decode cX10_sign) da_217 6 rfl
theorem dX10_sign_11 : decode cX10_sign 11 = .ok (.iload_n 1, 1) := dec_of (decode cX10_sign) da_217 7 rfl
theorem dX10_sign_12 : decode cX10_sign 12 = .ok (.bipush 59, 2) := dec_of (decode cX10_sign) da_217 8 rfl
theorem dX10_sign_14 : decode cX10_sign 14 = .ok (.if_icmp .eq 57, 3) := dec_of (decode cX10_sign) da_217 9 rfl
theorem dX10_sign_17 : decode cX10_sign 17 = .ok (.iload_n 1, 1) := dec_of (decode cX10_sign) da_217 10 rfl
theorem dX10_sign_18 : decode cX10_sign 18 = .ok (.bipush 40, 2) := dec_of (decode cX10_sign) da_217 11 rfl
theorem dX10_sign_20 : decode cX10_sign 20 = .ok (.if_icmp .eq 51, 3) := dec_of (decode cX10_sign) da_217 12 rfl
theorem dX10_sign_23 : decode cX10_sign 23 = .ok (.iload_n 1, 1) := dec_of (decode cX10_sign) da_217 13 rfl
theorem dX10_sign_24 : decode cX10_sign 24 = .ok (.bipush 41, 2) := dec_of (decode cX10_sign) da_217 14 rfl
theorem dX10_sign_26 : decode cX10_sign 26 = .ok (.if_icmp .eq 45, 3) := dec_of (decode cX10_sign) da_217 15 rfl
theorem dX10_sign_29 : decode cX10_sign 29 = .ok (.iload_n 1, 1) := dec_of (decode cX10_sign) da_217 16 rfl
theorem dX10_sign_30 : decode cX10_sign 30 = .ok (.bipush 43, 2) := dec_of (decode cX10_sign) da_217 17 rfl
theorem dX10_sign_32 : decode cX10_sign 32 = .ok (.if_icmp .eq 39, 3) := dec_of (decode cX10_sign) da_217 18 rfl
theorem dX10_sign_35 : decode cX10_sign 35 = .ok (.iload_n 1, 1) := dec_of (decode cX10_sign) da_217 19 rfl
theorem dX10_sign_36 : decode cX10_sign 36 = .ok (.bipush 45, 2) := dec_of (decode cX10_sign) da_217 20 rfl
theorem dX10_sign_38 : decode cX10_sign 38 = .ok (.if_icmp .eq 33, 3) := dec_of (decode cX10_sign) da_217 21 rfl
theorem dX10_sign_41 : decode cX10_sign 41 = .ok (.iload_n 1, 1) := dec_of (decode cX10_sign) da_217 22 rfl
theorem dX10_sign_42 : decode cX10_sign 42 = .ok (.bipush 42, 2) := dec_of (decode cX10_sign) da_217 23 rfl
theorem dX10_sign_44 : decode cX10_sign 44 = .ok (.if_icmp .eq 27, 3) := dec_of (decode cX10_sign) da_217 24 rfl
theorem dX10_sign_47 : decode cX10_sign 47 = .ok (.iload_n 1, 1) := dec_of (decode cX10_sign) da_217 25 rfl
theorem dX10_sign_48 : decode cX10_sign 48 = .ok (.bipush 47, 2) := dec_of (decode cX10_sign) da_217 26 rfl
theorem dX10_sign_50 : decode cX10_sign 50 = .ok (.if_icmp .eq 21, 3) := dec_of (decode cX10_sign) da_217 27 rfl
theorem dX10_sign_53 : decode cX10_sign 53 = .ok (.iload_n 1, 1) := dec_of (decode cX10_sign) da_217 28 rfl
theorem dX10_sign_54 : decode cX10_sign 54 = .ok (.bipush 60, 2) := dec_of (decode cX10_sign) da_217 29 rfl
theorem dX10_sign_56 : decode cX10_sign 56 = .ok (.if_icmp .eq 15, 3) := dec_of (decode cX10_sign) da_217 30 rfl
theorem dX10_sign_59 : decode cX10_sign 59 = .ok (.iload_n 1, 1) := dec_of (decode cX10_sign) da_217 31 rfl
theorem dX10_sign_60 : decode cX10_sign 60 = .ok (.bipush 61, 2) := dec_of (decode cX10_sign) da_217 32 rfl
theorem dX10_sign_62 : decode cX10_sign 62 = .ok (.if_icmp .eq 9, 3) := dec_of (decode cX10_sign) da_217 33 rfl
theorem dX10_sign_65 : decode cX10_sign 65 = .ok (.iload_n 1, 1) := dec_of (decode cX10_sign) da_217 34 rfl
theorem dX10_sign_66 : decode cX10_sign 66 = .ok (.bipush 62, 2) := dec_of (decode cX10_sign) da_217 35 rfl
theorem dX10_sign_68 : decode cX10_sign 68 = .ok (.if_icmp .ne 7, 3) := dec_of (decode cX10_sign) da_217 36 rfl
theorem dX10_sign_71 : decode cX10_sign 71 = .ok (.iconst 3, 1) := dec_of (decode cX10_sign) da_217 37 rfl
theorem dX10_sign_72 : decode cX10_sign 72 = .ok (.goto 4, 3) := dec_of (decode cX10_sign) da_217 38 rfl
theorem dX10_sign_75 : decode cX10_sign 75 = .ok (.iconst 5, 1) := dec_of (decode cX10_sign) da_217 39 rfl
abbrev dl_218 : List (Nat × Except DecodeError (Instr × Nat)) := [(76, .ok (.putfield 173, 3)), (79, .ok (.aload_n 0, 1)), (80, .ok (.iload_n 1, 1)), (81, .ok (.putfield 183, 3)), (84, .ok (.iload_n 1, 1)), (85, .ok (.bipush 60, 2)), (87, .ok (.if_icmp .ne 19, 3)), (90, .ok (.aload_n 0, 1)), (91, .ok (.invokevirtual 166, 3)), (94, .ok (.bipush 61, 2)), (96, .ok (.if_icmp .ne 10, 3)), (99, .ok (.aload_n 0, 1)), (100, .ok (.sipush 256, 3)), (103, .ok (.putfield 183, 3)), (106, .ok (.iload_n 1, 1)), (107, .ok (.bipush 60, 2)), (109, .ok (.if_icmp .ne 19, 3)), (112, .ok (.aload_n 0, 1)), (113, .ok (.invokevirtual 166, 3)), (116, .ok (.bipush 62, 2)), (118, .ok (.if_icmp .ne 10, 3)), (121, .ok (.aload_n 0, 1)), (122, .ok (.sipush 257, 3)), (125, .ok (.putfield 183, 3)), (128, .ok (.iload_n 1, 1)), (129, .ok (.bipush 62, 2)), (131, .ok (.if_icmp .ne 19, 3)), (134, .ok (.aload_n 0, 1)), (135, .ok (.invokevirtual 166, 3)), (138, .ok (.bipush 61, 2)), (140, .ok (.if_icmp .ne 10, 3)), (143, .ok (.aload_n 0, 1)), (144, .ok (.sipush 258, 3)), (147, .ok (.putfield 183, 3)), (150, .ok (.aload_n 0, 1)), (151, .ok (.getfield 183, 3)), (154, .ok (.sipush 256, 3)), (157, .ok (.if_icmp .lt 13, 3)), (160, .ok (.aload_n 0, 1)), (161, .ok (.dup, 1))]
theorem da_218 : dl_218.all (fun q => decide (decode cX10_sign q.1 = q.2)) = true := by decide +kernel
theorem dX10_sign_76 : decode cX10_sign 76 = .ok (.putfield 173, 3) := dec_of (decode cX10_sign) da_218 0 rfl
theorem dX10_sign_79 : decode cX10_sign 79 = .ok (.aload_n 0, 1) := dec_of (decode cX10_sign) da_218 1 rfl
theorem dX10_sign_80 : decode cX10_sign 80 = .ok (.iload_n 1, 1) := dec_of (decode cX10_sign) da_218 2 rfl
theorem dX10_sign_81 : decode cX10_sign 81 = .ok (.putfield 183, 3) := dec_of (decode cX10_sign) da_218 3 rfl
theorem dX10_sign_84 : decode cX10_sign 84 = .ok (.iload_n 1, 1) := dec_of (decode cX10_sign) da_218 4 rfl
theorem dX10_sign_85 : decode cX10_sign 85 = .ok (.bipush 60, 2) := dec_of (decode cX10_sign) da_218 5 rfl
theorem dX10_sign_87 : decode cX10_sign 87 = .ok (.if_icmp .ne 19, 3) := dec_of (decode cX10_sign) da_218 6 rfl
theorem dX10_sign_90 : decode cX10_sign 90 = .ok (.aload_n 0, 1) := dec_of (decode cX10_sign) da_218 7 rfl
theorem dX10_sign_91 : decode cX10_sign 91 = .ok (.invokevirtual 166, 3) := dec_of (decode cX10_sign) da_218 8 rfl
theorem dX10_sign_94 : decode cX10_sign 94 = .ok (.bipush 61, 2) := dec_of (decode cX10_sign) da_218 9 rfl
theorem dX10_sign_96 : decode cX10_sign 96 = .ok (.if_icmp .ne 10, 3) := dec_of (decode cX10_sign) da_218 10 rfl
theorem dX10_sign_99 : decode cX10_sign 99 = .ok (.aload_n 0, 1) := dec_of (decode cX10_sign) da_218 11 rfl
theorem dX10_sign_100 : decode cX10_sign 100 = .ok (.sipush 256, 3) := dec_of (decode cX10_sign) da_218 12 rfl
theorem dX10_sign_103 : decode cX10_sign 103 = .ok (.putfield 183, 3) := dec_of (decode cX10_sign) da_218 13 rfl
theorem dX10_sign_106 : decode cX10_sign 106 = .ok (.iload_n 1, 1) := dec_of (decode cX10_sign) da_218 14 rfl
theorem dX10_sign_107 : decode cX10_sign 107 = .ok (.bipush 60, 2) := dec_of (decode cX10_sign) da_218 15 rfl
theorem dX10_sign_109 : decode cX10_sign 109 = .ok (.if_icmp .ne 19, 3) := dec_of (decode cX10_sign) da_218 16 rfl
theorem dX10_sign_112 : decode cX10_sign 112 = .ok (.aload_n 0, 1) := dec_of (decode cX10_sign) da_218 17 rfl
theorem dX10_sign_113 : decode cX10_sign 113 = .ok (.invokevirtual 166, 3) := dec_of (decode cX10_sign) da_218 18 rfl
theorem dX10_sign_116 : decode cX10_sign 116 = .ok (.bipush 62, 2) := dec_of (decode cX10_sign) da_218 19 rfl
theorem dX10_sign_118 : decode cX10_sign 118 = .ok (.if_icmp .ne 10, 3) := dec_of (decode cX10_sign) da_218 20 rfl
theorem dX10_sign_121 : decode cX10_sign 121 = .ok (.aload_n 0, 1) := dec_of (decode cX10_sign) da_218 21 rfl
theorem dX10_sign_122 : decode cX10_sign 122 = .ok (.sipush 257, 3) := dec_of (decode cX10_sign) da_218 22 rfl
theorem dX10_sign_125 : decode cX10_sign 125 = .ok (.putfield 183, 3) := dec_of (decode cX10_sign) da_218 23 rfl
theorem dX10_sign_128 : decode cX10_sign 128 = .ok (.iload_n 1, 1) := dec_of (decode cX10_sign) da_218 24 rfl
theorem dX10_sign_129 : decode cX10_sign 129 = .ok (.bipush 62, 2) := dec_of (decode cX10_sign) da_218 25 rfl
theorem dX10_sign_131 : decode cX10_sign 131 = .ok (.if_icmp .ne 19, 3) := dec_of (decode cX10_sign) da_218 26 rfl
theorem dX10_sign_134 : decode cX10_sign 134 = .ok (.aload_n 0, 1) := dec_of (decode cX10_sign) da_218 27 rfl
theorem dX10_sign_135 : decode cX10_sign 135 = .ok (.invokevirtual 166, 3) := dec_of (decode cX10_sign) da_218 28 rfl
theorem dX10_sign_138 : decode cX10_sign 138 = .ok (.bipush 61, 2) := dec_of (decode cX10_sign) da_218 29 rfl
theorem dX10_sign_140 : decode cX10_sign 140 = .ok (.if_icmp .ne 10, 3) := dec_of (decode cX10_sign) da_218 30 rfl
theorem dX10_sign_143 : decode cX10_sign 143 = .ok (.aload_n 0, 1) := dec_of (decode cX10_sign) da_218 31 rfl
theorem dX10_sign_144 : decode cX10_sign 144 = .ok (.sipush 258, 3) := dec_of (decode cX10_sign) da_218 32 rfl
theorem dX10_sign_147 : decode cX10_sign 147 = .ok (.putfield 183, 3) := dec_of (decode cX10_sign) da_218 33 rfl
theorem dX10_sign_150 : decode cX10_sign 150 = .ok (.aload_n 0, 1) := dec_of (decode cX10_sign) da_218 34 rfl
theorem dX10_sign_151 : decode cX10_sign 151 = .ok (.getfield 183, 3) := dec_of (decode cX10_sign) da_218 35 rfl
theorem dX10_sign_154 : decode cX10_sign 154 = .ok (.sipush 256, 3) := dec_of (decode cX10_sign) da_218 36 rfl
theorem dX10_sign_157 : decode cX10_sign 157 = .ok (.if_icmp .lt 13, 3) := dec_of (decode cX10_sign) da_218 37 rfl
theorem dX10_sign_160 : decode cX10_sign 160 = .ok (.aload_n 0, 1) := dec_of (decode cX10_sign) da_218 38 rfl
theorem dX10_sign_161 : decode cX10_sign 161 = .ok (.dup, 1) := dec_of (decode cX10_sign) da_218 39 rfl
abbrev dl_219 : List (Nat × Except DecodeError (Instr × Nat)) := [(162, .ok (.getfield 160, 3)), (165, .ok (.iconst 1, 1)), (166, .ok (.iadd, 1)), (167, .ok (.putfield 160, 3)), (170, .ok (.return_, 1))]
theorem da_219 : dl_219.all (fun q => decide (decode cX10_sign q.1 = q.2)) = true := by decide +kernel
theorem dX10_sign_162 : decode cX10_sign 162 = .ok (.getfield 160, 3) := dec_of (decode cX10_sign) da_219 0 rfl
theorem dX10_sign_165 : decode cX10_sign 165 = .ok (.iconst 1, 1) := dec_of (decode cX10_sign) da_219 1 rfl
theorem dX10_sign_166 : decode cX10_sign 166 = .ok (.iadd, 1) := dec_of (decode cX10_sign) da_219 2 rfl
theorem dX10_sign_167 : decode cX10_sign 167 = .ok (.putfield 160, 3) := dec_of (decode cX10_sign) da_219 3 rfl
theorem dX10_sign_170 : decode cX10_sign 170 = .ok (.return_, 1) := dec_of (decode cX10_sign) da_219 4 rfl
abbrev dl_220 : List (Nat × Except DecodeError (Instr × Nat)) := [(0, .ok (.iconst 0, 1)), (1, .ok (.istore_n 1, 1)), (2, .ok (.iconst 0, 1)), (3, .ok (.istore_n 2, 1)), (4, .ok (.iload_n 2, 1)), (5, .ok (.ldc 197, 2)), (7, .ok (.invokevirtual 199, 3)), (10, .ok (.if_icmp .ge 113, 3)), (13, .ok (.iconst 0, 1)), (14, .ok (.istore_n 3, 1)), (15, .ok (.ldc 197, 2)), (17, .ok (.iload_n 2, 1)), (18, .ok (.iload_n 3, 1)), (19, .ok (.iadd, 1)), (20, .ok (.invokevirtual 204, 3)), (23, .ok (.bipush 32, 2)), (25, .ok (.if_icmp .eq 44, 3)), (28, .ok (.aload_n 0, 1)), (29, .ok (.getfield 170, 3)), (32, .ok (.iload_n 3, 1)), (33, .ok (.iadd, 1)), (34, .ok (.aload_n 0, 1)), (35, .ok (.getfield 160, 3)), (38, .ok (.if_icmp .ge 31, 3)), (41, .ok (.aload_n 0, 1)), (42, .ok (.getfield 7, 3)), (45, .ok (.aload_n 0, 1)), (46, .ok (.getfield 170, 3)), (49, .ok (.iload_n 3, 1)), (50, .ok (.iadd, 1)), (51, .ok (.iaload, 1)), (52, .ok (.ldc 197, 2)), (54, .ok (.iload_n 2, 1)), (55, .ok (.iload_n 3, 1)), (56, .ok (.iadd, 1)), (57, .ok (.invokevirtual 204, 3)), (60, .ok (.if_icmp .ne 9, 3)), (63, .ok (.iinc 3 1, 3)), (66, .ok (.goto (-51), 3)), (69, .ok (.ldc 197, 2))]
theorem da_220 : dl_220.all (fun q => decide (decode cX10_word q.1 = q.2)) = true := by decide +kernel
theorem dX10_word_0 : decode cX10_word 0 = .ok (.iconst 0, 1) := dec_of (decode cX10_word) da_220 0 rfl
theorem dX10_word_1 : decode cX10_word 1 = .ok (.istore_n 1, 1) := dec_of (decode cX10_word) da_220 1 rfl
theorem dX10_word_2 : decode cX10_word 2 = .ok (.iconst 0, 1) := dec_of (decode cX10_word) da_220 2 rfl
theorem dX10_word_3 : decode cX10_word 3 = .ok (.istore_n 2, 1) := dec_of (decode cX10_word) da_220 3 rfl
theorem dX10_word_4 : decode cX10_word 4 = .ok (.iload_n 2, 1) := dec_of (decode cX10_word) da_220 4 rfl
theorem dX10_word_5 : decode cX10_word 5 = .ok (.ldc 197, 2) := dec_of (decode cX10_word) da_220 5 rfl
theorem dX10_word_7 : decode cX10_word 7 = .ok (.invokevirtual 199, 3) := dec_of (decode cX10_word) da_220 6 rfl
theorem dX10_word_10 : decode cX10_word 10 = .ok (.if_icmp .ge 113, 3) := dec_of (decode cX10_word) da_220 7 rfl
theorem dX10_word_13 : decode cX10_word 13 = .ok (.iconst 0, 1) := dec_of (decode cX10_word) da_220 8 rfl
theorem dX10_word_14 : decode cX10_word 14 = .ok (.istore_n 3, 1) := dec_of (decode cX10_word) da_220 9 rfl
theorem dX10_word_15 : decode cX10_word 15 = .ok (.ldc 197, 2) := dec_of (decode cX10_word) da_220 10 rfl
theorem dX10_word_17 : decode cX10_word 17 = .ok (.iload_n 2, 1) := dec_of (decode cX10_word) da_220 11 rfl
theorem dX10_word_18 : decode cX10_word 18 = .ok (.iload_n 3, 1) := dec_of (decode cX10_word) da_220 12 rfl
theorem dX10_word_19 : decode cX10_word 19 = .ok (.iadd, 1) := dec_of (decode cX10_word) da_220 13 rfl
theorem dX10_word_20 : decode cX10_word 20 = .ok (.invokevirtual 204, 3) := dec_of (decode cX10_word) da_220 14 rfl
theorem dX10_word_23 : decode cX10_word 23 = .ok (.bipush 32, 2) := dec_of (decode cX10_word) da_220 15 rfl
theorem dX10_word_25 : decode cX10_word 25 = .ok (.if_icmp .eq 44, 3) := dec_of (decode cX10_word) da_220 16 rfl
theorem dX10_word_28 : decode cX10_word 28 = .ok (.aload_n 0, 1) := dec_of (decode cX10_word) da_220 17 rfl
theorem dX10_word_29 : decode cX10_word 29 = .ok (.getfield 170, 3) := dec_of (decode cX10_word) da_220 18 rfl
theorem dX10_word_32 : decode cX10_word 32 = .ok (.iload_n 3, 1) := dec_of (decode cX10_word) da_220 19 rfl
theorem dX10_word_33 : decode cX10_word 33 = .ok (.iadd, 1) := dec_of (decode cX10_word) da_220 20 rfl
theorem dX10_word_34 : decode cX10_word 34 = .ok (.aload_n 0, 1) := dec_of (decode cX10_word) da_220 21 rfl
theorem dX10_word_35 : decode cX10_word 35 = .ok (.getfield 160, 3) := dec_of (decode cX10_word) da_220 22 rfl
theorem dX10_word_38 : decode cX10_word 38 = .ok (.if_icmp .ge 31, 3) := dec_of (decode cX10_word) da_220 23 rfl
theorem dX10_word_41 : decode cX10_word 41 = .ok (.aload_n 0, 1) := dec_of (decode cX10_word) da_220 24 rfl
theorem dX10_word_42 : decode cX10_word 42 = .ok (.getfield 7, 3) := dec_of (decode cX10_word) da_220 25 rfl
theorem dX10_word_45 : decode cX10_word 45 = .ok (.aload_n 0, 1) := dec_of (decode cX10_word) da_220 26 rfl
theorem dX10_word_46 : decode cX10_word 46 = .ok (.getfield 170, 3) := dec_of (decode cX10_word) da_220 27 rfl
theorem dX10_word_49 : decode cX10_word 49 = .ok (.iload_n 3, 1) := dec_of (decode cX10_word) da_220 28 rfl
theorem dX10_word_50 : decode cX10_word 50 = .ok (.iadd, 1) := dec_of (decode cX10_word) da_220 29 rfl
theorem dX10_word_51 : decode cX10_word 51 = .ok (.iaload, 1) := dec_of (decode cX10_word) da_220 30 rfl
theorem dX10_word_52 : decode cX10_word 52 = .ok (.ldc 197, 2) := dec_of (decode cX10_word) da_220 31 rfl
theorem dX10_word_54 : decode cX10_word 54 = .ok (.iload_n 2, 1) := dec_of (decode cX10_word) da_220 32 rfl
theorem dX10_word_55 : decode cX10_word 55 = .ok (.iload_n 3, 1) := dec_of (decode cX10_word) da_220 33 rfl
theorem dX10_word_56 : decode cX10_word 56 = .ok (.iadd, 1) := dec_of (decode cX10_word) da_220 34 rfl
theorem dX10_word_57 : decode cX10_word 57 = .ok (.invokevirtual 204, 3) := dec_of (decode cX10_word) da_220 35 rfl
theorem dX10_word_60 : decode cX10_word 60 = .ok (.if_icmp .ne 9, 3) := dec_of (decode cX10_word) da_220 36 rfl
theorem dX10_word_63 : decode cX10_word 63 = .ok (.iinc 3 1, 3) := dec_of (decode cX10_word) da_220 37 rfl
theorem dX10_word_66 : decode cX10_word 66 = .ok (.goto (-51), 3) := dec_of (decode cX10_word) da_220 38 rfl
theorem dX10_word_69 : decode cX10_word 69 = .ok (.ldc 197, 2) := dec_of (decode cX10_word) da_220 39 rfl
abbrev dl_221 : List (Nat × Except DecodeError (Instr × Nat)) := [(71, .ok (.iload_n 2, 1)), (72, .ok (.iload_n 3, 1)), (73, .ok (.iadd, 1)), (74, .ok (.invokevirtual 204, 3)), (77, .ok (.bipush 32, 2)), (79, .ok (.if_icmp .ne 18, 3)), (82, .ok (.aload_n 0, 1)), (83, .ok (.getfield 170, 3)), (86, .ok (.iload_n 3, 1)), (87, .ok (.iadd, 1)), (88, .ok (.aload_n 0, 1)), (89, .ok (.getfield 160, 3)), (92, .ok (.if_icmp .ne 5, 3)), (95, .ok (.iload_n 1, 1)), (96, .ok (.ireturn, 1)), (97, .ok (.ldc 197, 2)), (99, .ok (.iload_n 2, 1)), (100, .ok (.invokevirtual 204, 3)), (103, .ok (.bipush 32, 2)), (105, .ok (.if_icmp .eq 9, 3)), (108, .ok (.iinc 2 1, 3)), (111, .ok (.goto (-14), 3)), (114, .ok (.iinc 2 1, 3)), (117, .ok (.iinc 1 1, 3)), (120, .ok (.goto (-116), 3)), (123, .ok (.iconst (-1), 1)), (124, .ok (.ireturn, 1))]
theorem da_221 : dl_221.all (fun q => decide (decode cX10_word q.1 = q.2)) = true := by decide +kernel
theorem dX10_word_71 : decode cX10_word 71 = .ok (.iload_n 2, 1) := dec_of (decode cX10_word) da_221 0 rfl
theorem dX10_word_72 : decode cX10_word 72 = .ok (.iload_n 3, 1) := dec_of (decode cX10_word) da_221 1 rfl
theorem dX10_word_73 : decode cX10_word 73 = .ok (.iadd, 1) := dec_of (decode cX10_word) da_221 2 rfl
theorem dX10_word_74 : decode cX10_word 74 = .ok (.invokevirtual 204, 3) := dec_of (decode cX10_word) da_221 3 rfl
theorem dX10_word_77 : decode cX10_word 77 = .ok (.bipush 32, 2) := dec_of (decode cX10_word) da_221 4 rfl
theorem dX10_word_79 : decode cX10_word 79 = .ok (.if_icmp .ne 18, 3) := dec_of (decode cX10_word) da_221 5 rfl
theorem dX10_word_82 : decode cX10_word 82 = .ok (.aload_n 0, 1) := dec_of (decode cX10_word) da_221 6 rfl
theorem dX10_word_83 : decode cX10_word 83 = .ok (.getfield 170, 3) := dec_of (decode cX10_word) da_221 7 rfl
theorem dX10_word_86 : decode cX10_word 86 = .ok (.iload_n 3, 1) := dec_of (decode cX10_word) da_221 8 rfl
theorem dX10_word_87 : decode cX10_word 87 = .ok (.iadd, 1) := dec_of (decode cX10_word) da_221 9 rfl
theorem dX10_word_88 : decode cX10_word 88 = .ok (.aload_n 0, 1) := dec_of (decode cX10_word) da_221 10 rfl
theorem dX10_word_89 : decode cX10_word 89 = .ok (.getfield 160, 3) := dec_of (decode cX10_word) da_221 11 rfl
theorem dX10_word_92 : decode cX10_word 92 = .ok (.if_icmp .ne 5, 3) := dec_of (decode cX10_word) da_221 12 rfl
theorem dX10_word_95 : decode cX10_word 95 = .ok (.iload_n 1, 1) := dec_of (decode cX10_word) da_221 13 rfl
theorem dX10_word_96 : decode cX10_word 96 = .ok (.ireturn, 1) := dec_of (decode cX10_word) da_221 14 rfl
theorem dX10_word_97 : decode cX10_word 97 = .ok (.ldc 197, 2) := dec_of (decode cX10_word) da_221 15 rfl
theorem dX10_word_99 : decode cX10_word 99 = .ok (.iload_n 2, 1) := dec_of (decode cX10_word) da_221 16 rfl
theorem dX10_word_100 : decode cX10_word 100 = .ok (.invokevirtual 204, 3) := dec_of (decode cX10_word) da_221 17 rfl
theorem dX10_word_103 : decode cX10_word 103 = .ok (.bipush 32, 2) := dec_of (decode cX10_word) da_221 18 rfl
theorem dX10_word_105 : decode cX10_word 105 = .ok (.if_icmp .eq 9, 3) := dec_of (decode cX10_word) da_221 19 rfl
theorem dX10_word_108 : decode cX10_word 108 = .ok (.iinc 2 1, 3) := dec_of (decode cX10_word) da_221 20 rfl
theorem dX10_word_111 : decode cX10_word 111 = .ok (.goto (-14), 3) := dec_of (decode cX10_word) da_221 21 rfl
theorem dX10_word_114 : decode cX10_word 114 = .ok (.iinc 2 1, 3) := dec_of (decode cX10_word) da_221 22 rfl
theorem dX10_word_117 : decode cX10_word 117 = .ok (.iinc 1 1, 3) := dec_of (decode cX10_word) da_221 23 rfl
theorem dX10_word_120 : decode cX10_word 120 = .ok (.goto (-116), 3) := dec_of (decode cX10_word) da_221 24 rfl
theorem dX10_word_123 : decode cX10_word 123 = .ok (.iconst (-1), 1) := dec_of (decode cX10_word) da_221 25 rfl
theorem dX10_word_124 : decode cX10_word 124 = .ok (.ireturn, 1) := dec_of (decode cX10_word) da_221 26 rfl
abbrev dl_222 : List (Nat × Except DecodeError (Instr × Nat)) := [(0, .ok (.aload_n 0, 1)), (1, .ok (.iconst 0, 1)), (2, .ok (.putfield 183, 3)), (5, .ok (.iconst 0, 1)), (6, .ok (.istore_n 1, 1)), (7, .ok (.iload_n 1, 1)), (8, .ok (.bipush 6, 2)), (10, .ok (.if_icmp .ge 53, 3)), (13, .ok (.aload_n 0, 1)), (14, .ok (.aload_n 0, 1)), (15, .ok (.getfield 183, 3)), (18, .ok (.iconst 5, 1)), (19, .ok (.ishl, 1)), (20, .ok (.aload_n 0, 1)), (21, .ok (.getfield 170, 3)), (24, .ok (.iload_n 1, 1)), (25, .ok (.iadd, 1)), (26, .ok (.aload_n 0, 1)), (27, .ok (.getfield 160, 3)), (30, .ok (.if_icmp .ge 22, 3)), (33, .ok (.aload_n 0, 1)), (34, .ok (.getfield 7, 3)), (37, .ok (.aload_n 0, 1)), (38, .ok (.getfield 170, 3)), (41, .ok (.iload_n 1, 1)), (42, .ok (.iadd, 1)), (43, .ok (.iaload, 1)), (44, .ok (.bipush 97, 2)), (46, .ok (.isub, 1)), (47, .ok (.iconst 1, 1)), (48, .ok (.iadd, 1)), (49, .ok (.goto 4, 3)), (52, .ok (.iconst 0, 1)), (53, .ok (.ior, 1)), (54, .ok (.putfield 183, 3)), (57, .ok (.iinc 1 1, 3)), (60, .ok (.goto (-53), 3)), (63, .ok (.return_, 1))]
theorem da_222 : dl_222.all (fun q => decide (decode cX10_name q.1 = q.2)) = true := by decide +kernel
theorem dX10_name_0 : decode cX10_name 0 = .ok (.aload_n 0, 1) := dec_of (decode cX10_name) da_222 0 rfl
theorem dX10_name_1 : decode cX10_name 1 = .ok (.iconst 0, 1) := dec_of (decode cX10_name) da_222 1 rfl
theorem dX10_name_2 : decode cX10_name 2 = .ok (.putfield 183, 3) := dec_of (decode cX10_name) da_222 2 rfl
theorem dX10_name_5 : decode cX10_name 5 = .ok (.iconst 0, 1) := dec_of (decode cX10_name) da_222 3 rfl
theorem dX10_name_6 : decode cX10_name 6 = .ok (.istore_n 1, 1) := dec_of (decode cX10_name) da_222 4 rfl
theorem dX10_name_7 : decode cX10_name 7 = .ok (.iload_n 1, 1) := dec_of (decode cX10_name) da_222 5 rfl
theorem dX10_name_8 : decode cX10_name 8 = .ok (.bipush 6, 2) := dec_of (decode cX10_name) da_222 6 rfl
theorem dX10_name_10 : decode cX10_name 10 = .ok (.if_icmp .ge 53, 3) := dec_of (decode cX10_name) da_222 7 rfl
theorem dX10_name_13 : decode cX10_name 13 = .ok (.aload_n 0, 1) := dec_of (decode cX10_name) da_222 8 rfl
theorem dX10_name_14 : decode cX10_name 14 = .ok (.aload_n 0, 1) := dec_of (decode cX10_name) da_222 9 rfl
theorem dX10_name_15 : decode cX10_name 15 = .ok (.getfield 183, 3) := dec_of (decode cX10_name) da_222 10 rfl
theorem dX10_name_18 : decode cX10_name 18 = .ok (.iconst 5, 1) := dec_of (decode cX10_name) da_222 11 rfl
theorem dX10_name_19 : decode cX10_name 19 = .ok (.ishl, 1) := dec_of (decode cX10_name) da_222 12 rfl
theorem dX10_name_20 : decode cX10_name 20 = .ok (.aload_n 0, 1) := dec_of (decode cX10_name) da_222 13 rfl
theorem dX10_name_21 : decode cX10_name 21 = .ok (.getfield 170, 3) := dec_of (decode cX10_name) da_222 14 rfl
theorem dX10_name_24 : decode cX10_name 24 = .ok (.iload_n 1, 1) := dec_of (decode cX10_name) da_222 15 rfl
theorem dX10_name_25 : decode cX10_name 25 = .ok (.iadd, 1) := dec_of (decode cX10_name) da_222 16 rfl
theorem dX10_name_26 : decode cX10_name 26 = .ok (.aload_n 0, 1) := dec_of (decode cX10_name) da_222 17 rfl
theorem dX10_name_27 : decode cX10_name 27 = .ok (.getfield 160, 3) := dec_of (decode cX10_name) da_222 18 rfl
theorem dX10_name_30 : decode cX10_name 30 = .ok (.if_icmp .ge 22, 3) := dec_of (decode cX10_name) da_222 19 rfl
theorem dX10_name_33 : decode cX10_name 33 = .ok (.aload_n 0, 1) := dec_of (decode cX10_name) da_222 20 rfl
theorem dX10_name_34 : decode cX10_name 34 = .ok (.getfield 7, 3) := dec_of (decode cX10_name) da_222 21 rfl
theorem dX10_name_37 : decode cX10_name 37 = .ok (.aload_n 0, 1) := dec_of (decode cX10_name) da_222 22 rfl
theorem dX10_name_38 : decode cX10_name 38 = .ok (.getfield 170, 3) := dec_of (decode cX10_name) da_222 23 rfl
theorem dX10_name_41 : decode cX10_name 41 = .ok (.iload_n 1, 1) := dec_of (decode cX10_name) da_222 24 rfl
theorem dX10_name_42 : decode cX10_name 42 = .ok (.iadd, 1) := dec_of (decode cX10_name) da_222 25 rfl
theorem dX10_name_43 : decode cX10_name 43 = .ok (.iaload, 1) := dec_of (decode cX10_name) da_222 26 rfl
theorem dX10_name_44 : decode cX10_name 44 = .ok (.bipush 97, 2) := dec_of (decode cX10_name) da_222 27 rfl
theorem dX10_name_46 : decode cX10_name 46 = .ok (.isub, 1) := dec_of (decode cX10_name) da_222 28 rfl
theorem dX10_name_47 : decode cX10_name 47 = .ok (.iconst 1, 1) := dec_of (decode cX10_name) da_222 29 rfl
theorem dX10_name_48 : decode cX10_name 48 = .ok (.iadd, 1) := dec_of (decode cX10_name) da_222 30 rfl
theorem dX10_name_49 : decode cX10_name 49 = .ok (.goto 4, 3) := dec_of (decode cX10_name) da_222 31 rfl
theorem dX10_name_52 : decode cX10_name 52 = .ok (.iconst 0, 1) := dec_of (decode cX10_name) da_222 32 rfl
theorem dX10_name_53 : decode cX10_name 53 = .ok (.ior, 1) := dec_of (decode cX10_name) da_222 33 rfl
theorem dX10_name_54 : decode cX10_name 54 = .ok (.putfield 183, 3) := dec_of (decode cX10_name) da_222 34 rfl
theorem dX10_name_57 : decode cX10_name 57 = .ok (.iinc 1 1, 3) := dec_of (decode cX10_name) da_222 35 rfl
theorem dX10_name_60 : decode cX10_name 60 = .ok (.goto (-53), 3) := dec_of (decode cX10_name) da_222 36 rfl
theorem dX10_name_63 : decode cX10_name 63 = .ok (.return_, 1) := dec_of (decode cX10_name) da_222 37 rfl
abbrev dl_223 : List (Nat × Except DecodeError (Instr × Nat)) := [(0, .ok (.aload_n 0, 1)), (1, .ok (.getfield 208, 3)), (4, .ok (.ifCond .eq 4, 3)), (7, .ok (.return_, 1)), (8, .ok (.aload_n 0, 1)), (9, .ok (.iload_n 1, 1)), (10, .ok (.putfield 208, 3)), (13, .ok (.aload_n 0, 1)), (14, .ok (.aload_n 0, 1)), (15, .ok (.getfield 170, 3)), (18, .ok (.putfield 211, 3)), (21, .ok (.return_, 1))]
theorem da_223 : dl_223.all (fun q => decide (decode cX10_wrong q.1 = q.2)) = true := by decide +kernel
theorem dX10_wrong_0 : decode cX10_wrong 0 = .ok (.aload_n 0, 1) := dec_of (decode cX10_wrong) da_223 0 rfl
theorem dX10_wrong_1 : decode cX10_wrong 1 = .ok (.getfield 208, 3) := dec_of (decode cX10_wrong) da_223 1 rfl
theorem dX10_wrong_4 : decode cX10_wrong 4 = .ok (.ifCond .eq 4, 3) := dec_of (decode cX10_wrong) da_223 2 rfl
theorem dX10_wrong_7 : decode cX10_wrong 7 = .ok (.return_, 1) := dec_of (decode cX10_wrong) da_223 3 rfl
theorem dX10_wrong_8 : decode cX10_wrong 8 = .ok (.aload_n 0, 1) := dec_of (decode cX10_wrong) da_223 4 rfl
theorem dX10_wrong_9 : decode cX10_wrong 9 = .ok (.iload_n 1, 1) := dec_of (decode cX10_wrong) da_223 5 rfl
theorem dX10_wrong_10 : decode cX10_wrong 10 = .ok (.putfield 208, 3) := dec_of (decode cX10_wrong) da_223 6 rfl
theorem dX10_wrong_13 : decode cX10_wrong 13 = .ok (.aload_n 0, 1) := dec_of (decode cX10_wrong) da_223 7 rfl
theorem dX10_wrong_14 : decode cX10_wrong 14 = .ok (.aload_n 0, 1) := dec_of (decode cX10_wrong) da_223 8 rfl
theorem dX10_wrong_15 : decode cX10_wrong 15 = .ok (.getfield 170, 3) := dec_of (decode cX10_wrong) da_223 9 rfl
theorem dX10_wrong_18 : decode cX10_wrong 18 = .ok (.putfield 211, 3) := dec_of (decode cX10_wrong) da_223 10 rfl
theorem dX10_wrong_21 : decode cX10_wrong 21 = .ok (.return_, 1) := dec_of (decode cX10_wrong) da_223 11 rfl
abbrev dl_224 : List (Nat × Except DecodeError (Instr × Nat)) := [(0, .ok (.aload_n 0, 1)), (1, .ok (.getfield 208, 3)), (4, .ok (.ifCond .ne 22, 3)), (7, .ok (.aload_n 0, 1)), (8, .ok (.getfield 173, 3)), (11, .ok (.ifCond .ne 15, 3)), (14, .ok (.aload_n 0, 1)), (15, .ok (.getfield 183, 3)), (18, .ok (.iload_n 1, 1)), (19, .ok (.if_icmp .ne 7, 3)), (22, .ok (.iconst 1, 1)), (23, .ok (.goto 4, 3)), (26, .ok (.iconst 0, 1)), (27, .ok (.ireturn, 1))]
theorem da_224 : dl_224.all (fun q => decide (decode cX10_isWord q.1 = q.2)) = true := by decide +kernel
theorem dX10_isWord_0 : decode cX10_isWord 0 = .ok (.aload_n 0, 1) := dec_of (decode cX10_isWord) da_224 0 rfl
theorem dX10_isWord_1 : decode cX10_isWord 1 = .ok (.getfield 208, 3) := dec_of (decode cX10_isWord) da_224 1 rfl
theorem dX10_isWord_4 : decode cX10_isWord 4 = .ok (.ifCond .ne 22, 3) := dec_of (decode cX10_isWord) da_224 2 rfl
theorem dX10_isWord_7 : decode cX10_isWord 7 = .ok (.aload_n 0, 1) := dec_of (decode cX10_isWord) da_224 3 rfl
theorem dX10_isWord_8 : decode cX10_isWord 8 = .ok (.getfield 173, 3) := dec_of (decode cX10_isWord) da_224 4 rfl
theorem dX10_isWord_11 : decode cX10_isWord 11 = .ok (.ifCond .ne 15, 3) := dec_of (decode cX10_isWord) da_224 5 rfl
theorem dX10_isWord_14 : decode cX10_isWord 14 = .ok (.aload_n 0, 1) := dec_of (decode cX10_isWord) da_224 6 rfl
theorem dX10_isWord_15 : decode cX10_isWord 15 = .ok (.getfield 183, 3) := dec_of (decode cX10_isWord) da_224 7 rfl
theorem dX10_isWord_18 : decode cX10_isWord 18 = .ok (.iload_n 1, 1) := dec_of (decode cX10_isWord) da_224 8 rfl
theorem dX10_isWord_19 : decode cX10_isWord 19 = .ok (.if_icmp .ne 7, 3) := dec_of (decode cX10_isWord) da_224 9 rfl
theorem dX10_isWord_22 : decode cX10_isWord 22 = .ok (.iconst 1, 1) := dec_of (decode cX10_isWord) da_224 10 rfl
theorem dX10_isWord_23 : decode cX10_isWord 23 = .ok (.goto 4, 3) := dec_of (decode cX10_isWord) da_224 11 rfl
theorem dX10_isWord_26 : decode cX10_isWord 26 = .ok (.iconst 0, 1) := dec_of (decode cX10_isWord) da_224 12 rfl
theorem dX10_isWord_27 : decode cX10_isWord 27 = .ok (.ireturn, 1) := dec_of (decode cX10_isWord) da_224 13 rfl
abbrev dl_225 : List (Nat × Except DecodeError (Instr × Nat)) := [(0, .ok (.aload_n 0, 1)), (1, .ok (.getfield 208, 3)), (4, .ok (.ifCond .ne 23, 3)), (7, .ok (.aload_n 0, 1)), (8, .ok (.getfield 173, 3)), (11, .ok (.iconst 3, 1)), (12, .ok (.if_icmp .ne 15, 3)), (15, .ok (.aload_n 0, 1)), (16, .ok (.getfield 183, 3)), (19, .ok (.iload_n 1, 1)), (20, .ok (.if_icmp .ne 7, 3)), (23, .ok (.iconst 1, 1)), (24, .ok (.goto 4, 3)), (27, .ok (.iconst 0, 1)), (28, .ok (.ireturn, 1))]
theorem da_225 : dl_225.all (fun q => decide (decode cX10_isSign q.1 = q.2)) = true := by decide +kernel
theorem dX10_isSign_0 : decode cX10_isSign 0 = .ok (.aload_n 0, 1) := dec_of (decode cX10_isSign) da_225 0 rfl
theorem dX10_isSign_1 : decode cX10_isSign 1 = .ok (.getfield 208, 3) := dec_of (decode cX10_isSign) da_225 1 rfl
theorem dX10_isSign_4 : decode cX10_isSign 4 = .ok (.ifCond .ne 23, 3) := dec_of (decode cX10_isSign) da_225 2 rfl
theorem dX10_isSign_7 : decode cX10_isSign 7 = .ok (.aload_n 0, 1) := dec_of (decode cX10_isSign) da_225 3 rfl
theorem dX10_isSign_8 : decode cX10_isSign 8 = .ok (.getfield 173, 3) := dec_of (decode cX10_isSign) da_225 4 rfl
theorem dX10_isSign_11 : decode cX10_isSign 11 = .ok (.iconst 3, 1) := dec_of (decode cX10_isSign) da_225 5 rfl
theorem dX10_isSign_12 : decode cX10_isSign 12 = .ok (.if_icmp .ne 15, 3) := dec_of (decode cX10_isSign) da_225 6 rfl
theorem dX10_isSign_15 : decode cX10_isSign 15 = .ok (.aload_n 0, 1) := dec_of (decode cX10_isSign) da_225 7 rfl
theorem dX10_isSign_16 : decode cX10_isSign 16 = .ok (.getfield 183, 3) := dec_of (decode cX10_isSign) da_225 8 rfl
theorem dX10_isSign_19 : decode cX10_isSign 19 = .ok (.iload_n 1, 1) := dec_of (decode cX10_isSign) da_225 9 rfl
theorem dX10_isSign_20 : decode cX10_isSign 20 = .ok (.if_icmp .ne 7, 3) := dec_of (decode cX10_isSign) da_225 10 rfl
theorem dX10_isSign_23 : decode cX10_isSign 23 = .ok (.iconst 1, 1) := dec_of (decode cX10_isSign) da_225 11 rfl
theorem dX10_isSign_24 : decode cX10_isSign 24 = .ok (.goto 4, 3) := dec_of (decode cX10_isSign) da_225 12 rfl
theorem dX10_isSign_27 : decode cX10_isSign 27 = .ok (.iconst 0, 1) := dec_of (decode cX10_isSign) da_225 13 rfl
theorem dX10_isSign_28 : decode cX10_isSign 28 = .ok (.ireturn, 1) := dec_of (decode cX10_isSign) da_225 14 rfl
abbrev dl_226 : List (Nat × Except DecodeError (Instr × Nat)) := [(0, .ok (.aload_n 0, 1)), (1, .ok (.getfield 208, 3)), (4, .ok (.ifCond .ne 7, 3)), (7, .ok (.aload_n 0, 1)), (8, .ok (.invokevirtual 214, 3)), (11, .ok (.return_, 1))]
theorem da_226 : dl_226.all (fun q => decide (decode cX10_goOn q.1 = q.2)) = true := by decide +kernel
theorem dX10_goOn_0 : decode cX10_goOn 0 = .ok (.aload_n 0, 1) := dec_of (decode cX10_goOn) da_226 0 rfl
theorem dX10_goOn_1 : decode cX10_goOn 1 = .ok (.getfield 208, 3) := dec_of (decode cX10_goOn) da_226 1 rfl
theorem dX10_goOn_4 : decode cX10_goOn 4 = .ok (.ifCond .ne 7, 3) := dec_of (decode cX10_goOn) da_226 2 rfl
theorem dX10_goOn_7 : decode cX10_goOn 7 = .ok (.aload_n 0, 1) := dec_of (decode cX10_goOn) da_226 3 rfl
theorem dX10_goOn_8 : decode cX10_goOn 8 = .ok (.invokevirtual 214, 3) := dec_of (decode cX10_goOn) da_226 4 rfl
theorem dX10_goOn_11 : decode cX10_goOn 11 = .ok (.return_, 1) := dec_of (decode cX10_goOn) da_226 5 rfl
abbrev dl_227 : List (Nat × Except DecodeError (Instr × Nat)) := [(0, .ok (.aload_n 0, 1)), (1, .ok (.getfield 208, 3)), (4, .ok (.ifCond .eq 5, 3)), (7, .ok (.iload_n 1, 1)), (8, .ok (.ireturn, 1)), (9, .ok (.aload_n 0, 1)), (10, .ok (.getfield 173, 3)), (13, .ok (.iconst 2, 1)), (14, .ok (.if_icmp .eq 11, 3)), (17, .ok (.aload_n 0, 1)), (18, .ok (.iconst 1, 1)), (19, .ok (.invokevirtual 217, 3)), (22, .ok (.goto 24, 3)), (25, .ok (.aload_n 0, 1)), (26, .ok (.getfield 183, 3)), (29, .ok (.iload_n 1, 1)), (30, .ok (.if_icmp .lt 11, 3)), (33, .ok (.aload_n 0, 1)), (34, .ok (.getfield 183, 3)), (37, .ok (.iload_n 2, 1)), (38, .ok (.if_icmp .le 8, 3)), (41, .ok (.aload_n 0, 1)), (42, .ok (.iconst 2, 1)), (43, .ok (.invokevirtual 217, 3)), (46, .ok (.aload_n 0, 1)), (47, .ok (.getfield 208, 3)), (50, .ok (.ifCond .eq 5, 3)), (53, .ok (.iload_n 1, 1)), (54, .ok (.ireturn, 1)), (55, .ok (.aload_n 0, 1)), (56, .ok (.getfield 183, 3)), (59, .ok (.istore_n 3, 1)), (60, .ok (.aload_n 0, 1)), (61, .ok (.invokevirtual 214, 3)), (64, .ok (.iload_n 3, 1)), (65, .ok (.ireturn, 1))]
theorem da_227 : dl_227.all (fun q => decide (decode cX10_numeral q.1 = q.2)) = true := by decide +kernel
theorem dX10_numeral_0 : decode cX10_numeral 0 = .ok (.aload_n 0, 1) := dec_of (decode cX10_numeral) da_227 0 rfl
theorem dX10_numeral_1 : decode cX10_numeral 1 = .ok (.getfield 208, 3) := dec_of (decode cX10_numeral) da_227 1 rfl
theorem dX10_numeral_4 : decode cX10_numeral 4 = .ok (.ifCond .eq 5, 3) := dec_of (decode cX10_numeral) da_227 2 rfl
theorem dX10_numeral_7 : decode cX10_numeral 7 = .ok (.iload_n 1, 1) := dec_of (decode cX10_numeral) da_227 3 rfl
theorem dX10_numeral_8 : decode cX10_numeral 8 = .ok (.ireturn, 1) := dec_of (decode cX10_numeral) da_227 4 rfl
theorem dX10_numeral_9 : decode cX10_numeral 9 = .ok (.aload_n 0, 1) := dec_of (decode cX10_numeral) da_227 5 rfl
theorem dX10_numeral_10 : decode cX10_numeral 10 = .ok (.getfield 173, 3) := dec_of (decode cX10_numeral) da_227 6 rfl
theorem dX10_numeral_13 : decode cX10_numeral 13 = .ok (.iconst 2, 1) := dec_of (decode cX10_numeral) da_227 7 rfl
theorem dX10_numeral_14 : decode cX10_numeral 14 = .ok (.if_icmp .eq 11, 3) := dec_of (decode cX10_numeral) da_227 8 rfl
theorem dX10_numeral_17 : decode cX10_numeral 17 = .ok (.aload_n 0, 1) := dec_of (decode cX10_numeral) da_227 9 rfl
theorem dX10_numeral_18 : decode cX10_numeral 18 = .ok (.iconst 1, 1) := dec_of (decode cX10_numeral) da_227 10 rfl
theorem dX10_numeral_19 : decode cX10_numeral 19 = .ok (.invokevirtual 217, 3) := dec_of (decode cX10_numeral) da_227 11 rfl
theorem dX10_numeral_22 : decode cX10_numeral 22 = .ok (.goto 24, 3) := dec_of (decode cX10_numeral) da_227 12 rfl
theorem dX10_numeral_25 : decode cX10_numeral 25 = .ok (.aload_n 0, 1) := dec_of (decode cX10_numeral) da_227 13 rfl
theorem dX10_numeral_26 : decode cX10_numeral 26 = .ok (.getfield 183, 3) := dec_of (decode cX10_numeral) da_227 14 rfl
theorem dX10_numeral_29 : decode cX10_numeral 29 = .ok (.iload_n 1, 1) := dec_of (decode cX10_numeral) da_227 15 rfl
theorem dX10_numeral_30 : decode cX10_numeral 30 = .ok (.if_icmp .lt 11, 3) := dec_of (decode cX10_numeral) da_227 16 rfl
theorem dX10_numeral_33 : decode cX10_numeral 33 = .ok (.aload_n 0, 1) := dec_of (decode cX10_numeral) da_227 17 rfl
theorem dX10_numeral_34 : decode cX10_numeral 34 = .ok (.getfield 183, 3) := dec_of (decode cX10_numeral) da_227 18 rfl
theorem dX10_numeral_37 : decode cX10_numeral 37 = .ok (.iload_n 2, 1) := dec_of (decode cX10_numeral) da_227 19 rfl
theorem dX10_numeral_38 : decode cX10_numeral 38 = .ok (.if_icmp .le 8, 3) := dec_of (decode cX10_numeral) da_227 20 rfl
theorem dX10_numeral_41 : decode cX10_numeral 41 = .ok (.aload_n 0, 1) := dec_of (decode cX10_numeral) da_227 21 rfl
theorem dX10_numeral_42 : decode cX10_numeral 42 = .ok (.iconst 2, 1) := dec_of (decode cX10_numeral) da_227 22 rfl
theorem dX10_numeral_43 : decode cX10_numeral 43 = .ok (.invokevirtual 217, 3) := dec_of (decode cX10_numeral) da_227 23 rfl
theorem dX10_numeral_46 : decode cX10_numeral 46 = .ok (.aload_n 0, 1) := dec_of (decode cX10_numeral) da_227 24 rfl
theorem dX10_numeral_47 : decode cX10_numeral 47 = .ok (.getfield 208, 3) := dec_of (decode cX10_numeral) da_227 25 rfl
theorem dX10_numeral_50 : decode cX10_numeral 50 = .ok (.ifCond .eq 5, 3) := dec_of (decode cX10_numeral) da_227 26 rfl
theorem dX10_numeral_53 : decode cX10_numeral 53 = .ok (.iload_n 1, 1) := dec_of (decode cX10_numeral) da_227 27 rfl
theorem dX10_numeral_54 : decode cX10_numeral 54 = .ok (.ireturn, 1) := dec_of (decode cX10_numeral) da_227 28 rfl
theorem dX10_numeral_55 : decode cX10_numeral 55 = .ok (.aload_n 0, 1) := dec_of (decode cX10_numeral) da_227 29 rfl
theorem dX10_numeral_56 : decode cX10_numeral 56 = .ok (.getfield 183, 3) := dec_of (decode cX10_numeral) da_227 30 rfl
theorem dX10_numeral_59 : decode cX10_numeral 59 = .ok (.istore_n 3, 1) := dec_of (decode cX10_numeral) da_227 31 rfl
theorem dX10_numeral_60 : decode cX10_numeral 60 = .ok (.aload_n 0, 1) := dec_of (decode cX10_numeral) da_227 32 rfl
theorem dX10_numeral_61 : decode cX10_numeral 61 = .ok (.invokevirtual 214, 3) := dec_of (decode cX10_numeral) da_227 33 rfl
theorem dX10_numeral_64 : decode cX10_numeral 64 = .ok (.iload_n 3, 1) := dec_of (decode cX10_numeral) da_227 34 rfl
theorem dX10_numeral_65 : decode cX10_numeral 65 = .ok (.ireturn, 1) := dec_of (decode cX10_numeral) da_227 35 rfl
abbrev dl_228 : List (Nat × Except DecodeError (Instr × Nat)) := [(0, .ok (.iconst 0, 1)), (1, .ok (.istore 4, 2)), (3, .ok (.iload 4, 2)), (5, .ok (.iload_n 2, 1)), (6, .ok (.if_icmp .ge 22, 3)), (9, .ok (.aload_n 0, 1)), (10, .ok (.iload_n 1, 1)), (11, .ok (.iload 4, 2)), (13, .ok (.iadd, 1)), (14, .ok (.iaload, 1)), (15, .ok (.iload_n 3, 1)), (16, .ok (.if_icmp .ne 6, 3)), (19, .ok (.iload 4, 2)), (21, .ok (.ireturn, 1)), (22, .ok (.iinc 4 1, 3)), (25, .ok (.goto (-22), 3)), (28, .ok (.iconst (-1), 1)), (29, .ok (.ireturn, 1))]
theorem da_228 : dl_228.all (fun q => decide (decode cX10_found q.1 = q.2)) = true := by decide +kernel
theorem dX10_found_0 : decode cX10_found 0 = .ok (.iconst 0, 1) := dec_of (decode cX10_found) da_228 0 rfl
theorem dX10_found_1 : decode cX10_found 1 = .ok (.istore 4, 2) := dec_of (decode cX10_found) da_228 1 rfl
theorem dX10_found_3 : decode cX10_found 3 = .ok (.iload 4, 2) := dec_of (decode cX10_found) da_228 2 rfl
theorem dX10_found_5 : decode cX10_found 5 = .ok (.iload_n 2, 1) := dec_of (decode cX10_found) da_228 3 rfl
theorem dX10_found_6 : decode cX10_found 6 = .ok (.if_icmp .ge 22, 3) := dec_of (decode cX10_found) da_228 4 rfl
theorem dX10_found_9 : decode cX10_found 9 = .ok (.aload_n 0, 1) := dec_of (decode cX10_found) da_228 5 rfl
theorem dX10_found_10 : decode cX10_found 10 = .ok (.iload_n 1, 1) := dec_of (decode cX10_found) da_228 6 rfl
theorem dX10_found_11 : decode cX10_found 11 = .ok (.iload 4, 2) := dec_of (decode cX10_found) da_228 7 rfl
theorem dX10_found_13 : decode cX10_found 13 = .ok (.iadd, 1) := dec_of (decode cX10_found) da_228 8 rfl
theorem dX10_found_14 : decode cX10_found 14 = .ok (.iaload, 1) := dec_of (decode cX10_found) da_228 9 rfl
theorem dX10_found_15 : decode cX10_found 15 = .ok (.iload_n 3, 1) := dec_of (decode cX10_found) da_228 10 rfl
theorem dX10_found_16 : decode cX10_found 16 = .ok (.if_icmp .ne 6, 3) := dec_of (decode cX10_found) da_228 11 rfl
theorem dX10_found_19 : decode cX10_found 19 = .ok (.iload 4, 2) := dec_of (decode cX10_found) da_228 12 rfl
theorem dX10_found_21 : decode cX10_found 21 = .ok (.ireturn, 1) := dec_of (decode cX10_found) da_228 13 rfl
theorem dX10_found_22 : decode cX10_found 22 = .ok (.iinc 4 1, 3) := dec_of (decode cX10_found) da_228 14 rfl
theorem dX10_found_25 : decode cX10_found 25 = .ok (.goto (-22), 3) := dec_of (decode cX10_found) da_228 15 rfl
theorem dX10_found_28 : decode cX10_found 28 = .ok (.iconst (-1), 1) := dec_of (decode cX10_found) da_228 16 rfl
theorem dX10_found_29 : decode cX10_found 29 = .ok (.ireturn, 1) := dec_of (decode cX10_found) da_228 17 rfl
abbrev dl_229 : List (Nat × Except DecodeError (Instr × Nat)) := [(0, .ok (.aload_n 0, 1)), (1, .ok (.getfield 208, 3)), (4, .ok (.ifCond .eq 5, 3)), (7, .ok (.iconst 0, 1)), (8, .ok (.ireturn, 1)), (9, .ok (.aload_n 0, 1)), (10, .ok (.getfield 173, 3)), (13, .ok (.iconst 1, 1)), (14, .ok (.if_icmp .eq 11, 3)), (17, .ok (.aload_n 0, 1)), (18, .ok (.iconst 1, 1)), (19, .ok (.invokevirtual 217, 3)), (22, .ok (.goto 22, 3)), (25, .ok (.aload_n 1, 1)), (26, .ok (.iload_n 2, 1)), (27, .ok (.iload_n 3, 1)), (28, .ok (.aload_n 0, 1)), (29, .ok (.getfield 183, 3)), (32, .ok (.invokestatic 220, 3)), (35, .ok (.iconst (-1), 1)), (36, .ok (.if_icmp .eq 8, 3)), (39, .ok (.aload_n 0, 1)), (40, .ok (.iconst 3, 1)), (41, .ok (.invokevirtual 217, 3)), (44, .ok (.aload_n 0, 1)), (45, .ok (.getfield 208, 3)), (48, .ok (.ifCond .eq 5, 3)), (51, .ok (.iconst 0, 1)), (52, .ok (.ireturn, 1)), (53, .ok (.aload_n 0, 1)), (54, .ok (.getfield 183, 3)), (57, .ok (.istore 4, 2)), (59, .ok (.aload_n 0, 1)), (60, .ok (.invokevirtual 214, 3)), (63, .ok (.iload 4, 2)), (65, .ok (.ireturn, 1))]
theorem da_229 : dl_229.all (fun q => decide (decode cX10_fresh q.1 = q.2)) = true := by decide +kernel
theorem dX10_fresh_0 : decode cX10_fresh 0 = .ok (.aload_n 0, 1) := dec_of (decode cX10_fresh) da_229 0 rfl
theorem dX10_fresh_1 : decode cX10_fresh 1 = .ok (.getfield 208, 3) := dec_of (decode cX10_fresh) da_229 1 rfl
theorem dX10_fresh_4 : decode cX10_fresh 4 = .ok (.ifCond .eq 5, 3) := dec_of (decode cX10_fresh) da_229 2 rfl
theorem dX10_fresh_7 : decode cX10_fresh 7 = .ok (.iconst 0, 1) := dec_of (decode cX10_fresh) da_229 3 rfl
theorem dX10_fresh_8 : decode cX10_fresh 8 = .ok (.ireturn, 1) := dec_of (decode cX10_fresh) da_229 4 rfl
theorem dX10_fresh_9 : decode cX10_fresh 9 = .ok (.aload_n 0, 1) := dec_of (decode cX10_fresh) da_229 5 rfl
theorem dX10_fresh_10 : decode cX10_fresh 10 = .ok (.getfield 173, 3) := dec_of (decode cX10_fresh) da_229 6 rfl
theorem dX10_fresh_13 : decode cX10_fresh 13 = .ok (.iconst 1, 1) := dec_of (decode cX10_fresh) da_229 7 rfl
theorem dX10_fresh_14 : decode cX10_fresh 14 = .ok (.if_icmp .eq 11, 3) := dec_of (decode cX10_fresh) da_229 8 rfl
theorem dX10_fresh_17 : decode cX10_fresh 17 = .ok (.aload_n 0, 1) := dec_of (decode cX10_fresh) da_229 9 rfl
theorem dX10_fresh_18 : decode cX10_fresh 18 = .ok (.iconst 1, 1) := dec_of (decode cX10_fresh) da_229 10 rfl
theorem dX10_fresh_19 : decode cX10_fresh 19 = .ok (.invokevirtual 217, 3) := dec_of (decode cX10_fresh) da_229 11 rfl
theorem dX10_fresh_22 : decode cX10_fresh 22 = .ok (.goto 22, 3) := dec_of (decode cX10_fresh) da_229 12 rfl
theorem dX10_fresh_25 : decode cX10_fresh 25 = .ok (.aload_n 1, 1) := dec_of (decode cX10_fresh) da_229 13 rfl
theorem dX10_fresh_26 : decode cX10_fresh 26 = .ok (.iload_n 2, 1) := dec_of (decode cX10_fresh) da_229 14 rfl
theorem dX10_fresh_27 : decode cX10_fresh 27 = .ok (.iload_n 3, 1) := dec_of (decode cX10_fresh) da_229 15 rfl
theorem dX10_fresh_28 : decode cX10_fresh 28 = .ok (.aload_n 0, 1) := dec_of (decode cX10_fresh) da_229 16 rfl
theorem dX10_fresh_29 : decode cX10_fresh 29 = .ok (.getfield 183, 3) := dec_of (decode cX10_fresh) da_229 17 rfl
theorem dX10_fresh_32 : decode cX10_fresh 32 = .ok (.invokestatic 220, 3) := dec_of (decode cX10_fresh) da_229 18 rfl
theorem dX10_fresh_35 : decode cX10_fresh 35 = .ok (.iconst (-1), 1) := dec_of (decode cX10_fresh) da_229 19 rfl
theorem dX10_fresh_36 : decode cX10_fresh 36 = .ok (.if_icmp .eq 8, 3) := dec_of (decode cX10_fresh) da_229 20 rfl
theorem dX10_fresh_39 : decode cX10_fresh 39 = .ok (.aload_n 0, 1) := dec_of (decode cX10_fresh) da_229 21 rfl
theorem dX10_fresh_40 : decode cX10_fresh 40 = .ok (.iconst 3, 1) := dec_of (decode cX10_fresh) da_229 22 rfl
theorem dX10_fresh_41 : decode cX10_fresh 41 = .ok (.invokevirtual 217, 3) := dec_of (decode cX10_fresh) da_229 23 rfl
theorem dX10_fresh_44 : decode cX10_fresh 44 = .ok (.aload_n 0, 1) := dec_of (decode cX10_fresh) da_229 24 rfl
theorem dX10_fresh_45 : decode cX10_fresh 45 = .ok (.getfield 208, 3) := dec_of (decode cX10_fresh) da_229 25 rfl
theorem dX10_fresh_48 : decode cX10_fresh 48 = .ok (.ifCond .eq 5, 3) := dec_of (decode cX10_fresh) da_229 26 rfl
theorem dX10_fresh_51 : decode cX10_fresh 51 = .ok (.iconst 0, 1) := dec_of (decode cX10_fresh) da_229 27 rfl
theorem dX10_fresh_52 : decode cX10_fresh 52 = .ok (.ireturn, 1) := dec_of (decode cX10_fresh) da_229 28 rfl
theorem dX10_fresh_53 : decode cX10_fresh 53 = .ok (.aload_n 0, 1) := dec_of (decode cX10_fresh) da_229 29 rfl
theorem dX10_fresh_54 : decode cX10_fresh 54 = .ok (.getfield 183, 3) := dec_of (decode cX10_fresh) da_229 30 rfl
theorem dX10_fresh_57 : decode cX10_fresh 57 = .ok (.istore 4, 2) := dec_of (decode cX10_fresh) da_229 31 rfl
theorem dX10_fresh_59 : decode cX10_fresh 59 = .ok (.aload_n 0, 1) := dec_of (decode cX10_fresh) da_229 32 rfl
theorem dX10_fresh_60 : decode cX10_fresh 60 = .ok (.invokevirtual 214, 3) := dec_of (decode cX10_fresh) da_229 33 rfl
theorem dX10_fresh_63 : decode cX10_fresh 63 = .ok (.iload 4, 2) := dec_of (decode cX10_fresh) da_229 34 rfl
theorem dX10_fresh_65 : decode cX10_fresh 65 = .ok (.ireturn, 1) := dec_of (decode cX10_fresh) da_229 35 rfl
abbrev dl_230 : List (Nat × Except DecodeError (Instr × Nat)) := [(0, .ok (.aload_n 0, 1)), (1, .ok (.getfield 13, 3)), (4, .ok (.bipush 11, 2)), (6, .ok (.iload_n 1, 1)), (7, .ok (.iadd, 1)), (8, .ok (.iaload, 1)), (9, .ok (.ireturn, 1))]
theorem da_230 : dl_230.all (fun q => decide (decode cX10_fresher q.1 = q.2)) = true := by decide +kernel
theorem dX10_fresher_0 : decode cX10_fresher 0 = .ok (.aload_n 0, 1) := dec_of (decode cX10_fresher) da_230 0 rfl
theorem dX10_fresher_1 : decode cX10_fresher 1 = .ok (.getfield 13, 3) := dec_of (decode cX10_fresher) da_230 1 rfl
theorem dX10_fresher_4 : decode cX10_fresher 4 = .ok (.bipush 11, 2) := dec_of (decode cX10_fresher) da_230 2 rfl
theorem dX10_fresher_6 : decode cX10_fresher 6 = .ok (.iload_n 1, 1) := dec_of (decode cX10_fresher) da_230 3 rfl
theorem dX10_fresher_7 : decode cX10_fresher 7 = .ok (.iadd, 1) := dec_of (decode cX10_fresher) da_230 4 rfl
theorem dX10_fresher_8 : decode cX10_fresher 8 = .ok (.iaload, 1) := dec_of (decode cX10_fresher) da_230 5 rfl
theorem dX10_fresher_9 : decode cX10_fresher 9 = .ok (.ireturn, 1) := dec_of (decode cX10_fresher) da_230 6 rfl
abbrev dl_231 : List (Nat × Except DecodeError (Instr × Nat)) := [(0, .ok (.aload_n 0, 1)), (1, .ok (.getfield 13, 3)), (4, .ok (.bipush 11, 2)), (6, .ok (.iload_n 1, 1)), (7, .ok (.iadd, 1)), (8, .ok (.iload_n 2, 1)), (9, .ok (.iastore, 1)), (10, .ok (.return_, 1))]
theorem da_231 : dl_231.all (fun q => decide (decode cX10_reads q.1 = q.2)) = true := by decide +kernel
theorem dX10_reads_0 : decode cX10_reads 0 = .ok (.aload_n 0, 1) := dec_of (decode cX10_reads) da_231 0 rfl
theorem dX10_reads_1 : decode cX10_reads 1 = .ok (.getfield 13, 3) := dec_of (decode cX10_reads) da_231 1 rfl
theorem dX10_reads_4 : decode cX10_reads 4 = .ok (.bipush 11, 2) := dec_of (decode cX10_reads) da_231 2 rfl
theorem dX10_reads_6 : decode cX10_reads 6 = .ok (.iload_n 1, 1) := dec_of (decode cX10_reads) da_231 3 rfl
theorem dX10_reads_7 : decode cX10_reads 7 = .ok (.iadd, 1) := dec_of (decode cX10_reads) da_231 4 rfl
theorem dX10_reads_8 : decode cX10_reads 8 = .ok (.iload_n 2, 1) := dec_of (decode cX10_reads) da_231 5 rfl
theorem dX10_reads_9 : decode cX10_reads 9 = .ok (.iastore, 1) := dec_of (decode cX10_reads) da_231 6 rfl
theorem dX10_reads_10 : decode cX10_reads 10 = .ok (.return_, 1) := dec_of (decode cX10_reads) da_231 7 rfl
abbrev dl_232 : List (Nat × Except DecodeError (Instr × Nat)) := [(0, .ok (.aload_n 0, 1)), (1, .ok (.getfield 173, 3)), (4, .ok (.ifCond .ne 12, 3)), (7, .ok (.aload_n 0, 1)), (8, .ok (.getfield 183, 3)), (11, .ok (.bipush 8, 2)), (13, .ok (.if_icmp .le 9, 3)), (16, .ok (.aload_n 0, 1)), (17, .ok (.iconst 1, 1)), (18, .ok (.invokevirtual 217, 3)), (21, .ok (.return_, 1)), (22, .ok (.aload_n 0, 1)), (23, .ok (.getfield 183, 3)), (26, .ok (.istore_n 1, 1)), (27, .ok (.iload_n 1, 1)), (28, .ok (.ifCond .ne 21, 3)), (31, .ok (.aload_n 0, 1)), (32, .ok (.iconst 0, 1)), (33, .ok (.invokevirtual 224, 3)), (36, .ok (.bipush 8, 2)), (38, .ok (.if_icmp .ne 11, 3)), (41, .ok (.aload_n 0, 1)), (42, .ok (.iconst 2, 1)), (43, .ok (.invokevirtual 217, 3)), (46, .ok (.goto 31, 3)), (49, .ok (.iload_n 1, 1)), (50, .ok (.iconst 3, 1)), (51, .ok (.if_icmp .lt 26, 3)), (54, .ok (.iload_n 1, 1)), (55, .ok (.bipush 7, 2)), (57, .ok (.if_icmp .gt 20, 3)), (60, .ok (.aload_n 0, 1)), (61, .ok (.getfield 228, 3)), (64, .ok (.iload_n 1, 1)), (65, .ok (.ishr, 1)), (66, .ok (.iconst 1, 1)), (67, .ok (.iand, 1)), (68, .ok (.iconst 1, 1)), (69, .ok (.if_icmp .ne 8, 3)), (72, .ok (.aload_n 0, 1))]
theorem da_232 : dl_232.all (fun q => decide (decode cX10_line q.1 = q.2)) = true := by decide +kernel
theorem dX10_line_0 : decode cX10_line 0 = .ok (.aload_n 0, 1) := dec_of (decode cX10_line) da_232 0 rfl
theorem dX10_line_1 : decode cX10_line 1 = .ok (.getfield 173, 3) := dec_of (decode cX10_line) da_232 1 rfl
theorem dX10_line_4 : decode cX10_line 4 = .ok (.ifCond .ne 12, 3) := dec_of (decode cX10_line) da_232 2 rfl
theorem dX10_line_7 : decode cX10_line 7 = .ok (.aload_n 0, 1) := dec_of (decode cX10_line) da_232 3 rfl
theorem dX10_line_8 : decode cX10_line 8 = .ok (.getfield 183, 3) := dec_of (decode cX10_line) da_232 4 rfl
theorem dX10_line_11 : decode cX10_line 11 = .ok (.bipush 8, 2) := dec_of (decode cX10_line) da_232 5 rfl
theorem dX10_line_13 : decode cX10_line 13 = .ok (.if_icmp .le 9, 3) := dec_of (decode cX10_line) da_232 6 rfl
theorem dX10_line_16 : decode cX10_line 16 = .ok (.aload_n 0, 1) := dec_of (decode cX10_line) da_232 7 rfl
theorem dX10_line_17 : decode cX10_line 17 = .ok (.iconst 1, 1) := dec_of (decode cX10_line) da_232 8 rfl
theorem dX10_line_18 : decode cX10_line 18 = .ok (.invokevirtual 217, 3) := dec_of (decode cX10_line) da_232 9 rfl
theorem dX10_line_21 : decode cX10_line 21 = .ok (.return_, 1) := dec_of (decode cX10_line) da_232 10 rfl
theorem dX10_line_22 : decode cX10_line 22 = .ok (.aload_n 0, 1) := dec_of (decode cX10_line) da_232 11 rfl
theorem dX10_line_23 : decode cX10_line 23 = .ok (.getfield 183, 3) := dec_of (decode cX10_line) da_232 12 rfl
theorem dX10_line_26 : decode cX10_line 26 = .ok (.istore_n 1, 1) := dec_of (decode cX10_line) da_232 13 rfl
theorem dX10_line_27 : decode cX10_line 27 = .ok (.iload_n 1, 1) := dec_of (decode cX10_line) da_232 14 rfl
theorem dX10_line_28 : decode cX10_line 28 = .ok (.ifCond .ne 21, 3) := dec_of (decode cX10_line) da_232 15 rfl
theorem dX10_line_31 : decode cX10_line 31 = .ok (.aload_n 0, 1) := dec_of (decode cX10_line) da_232 16 rfl
theorem dX10_line_32 : decode cX10_line 32 = .ok (.iconst 0, 1) := dec_of (decode cX10_line) da_232 17 rfl
theorem dX10_line_33 : decode cX10_line 33 = .ok (.invokevirtual 224, 3) := dec_of (decode cX10_line) da_232 18 rfl
theorem dX10_line_36 : decode cX10_line 36 = .ok (.bipush 8, 2) := dec_of (decode cX10_line) da_232 19 rfl
theorem dX10_line_38 : decode cX10_line 38 = .ok (.if_icmp .ne 11, 3) := dec_of (decode cX10_line) da_232 20 rfl
theorem dX10_line_41 : decode cX10_line 41 = .ok (.aload_n 0, 1) := dec_of (decode cX10_line) da_232 21 rfl
theorem dX10_line_42 : decode cX10_line 42 = .ok (.iconst 2, 1) := dec_of (decode cX10_line) da_232 22 rfl
theorem dX10_line_43 : decode cX10_line 43 = .ok (.invokevirtual 217, 3) := dec_of (decode cX10_line) da_232 23 rfl
theorem dX10_line_46 : decode cX10_line 46 = .ok (.goto 31, 3) := dec_of (decode cX10_line) da_232 24 rfl
theorem dX10_line_49 : decode cX10_line 49 = .ok (.iload_n 1, 1) := dec_of (decode cX10_line) da_232 25 rfl
theorem dX10_line_50 : decode cX10_line 50 = .ok (.iconst 3, 1) := dec_of (decode cX10_line) da_232 26 rfl
theorem dX10_line_51 : decode cX10_line 51 = .ok (.if_icmp .lt 26, 3) := dec_of (decode cX10_line) da_232 27 rfl
theorem dX10_line_54 : decode cX10_line 54 = .ok (.iload_n 1, 1) := dec_of (decode cX10_line) da_232 28 rfl
theorem dX10_line_55 : decode cX10_line 55 = .ok (.bipush 7, 2) := dec_of (decode cX10_line) da_232 29 rfl
theorem dX10_line_57 : decode cX10_line 57 = .ok (.if_icmp .gt 20, 3) := dec_of (decode cX10_line) da_232 30 rfl
theorem dX10_line_60 : decode cX10_line 60 = .ok (.aload_n 0, 1) := dec_of (decode cX10_line) da_232 31 rfl
theorem dX10_line_61 : decode cX10_line 61 = .ok (.getfield 228, 3) := dec_of (decode cX10_line) da_232 32 rfl
theorem dX10_line_64 : decode cX10_line 64 = .ok (.iload_n 1, 1) := dec_of (decode cX10_line) da_232 33 rfl
theorem dX10_line_65 : decode cX10_line 65 = .ok (.ishr, 1) := dec_of (decode cX10_line) da_232 34 rfl
theorem dX10_line_66 : decode cX10_line 66 = .ok (.iconst 1, 1) := dec_of (decode cX10_line) da_232 35 rfl
theorem dX10_line_67 : decode cX10_line 67 = .ok (.iand, 1) := dec_of (decode cX10_line) da_232 36 rfl
theorem dX10_line_68 : decode cX10_line 68 = .ok (.iconst 1, 1) := dec_of (decode cX10_line) da_232 37 rfl
theorem dX10_line_69 : decode cX10_line 69 = .ok (.if_icmp .ne 8, 3) := dec_of (decode cX10_line) da_232 38 rfl
theorem dX10_line_72 : decode cX10_line 72 = .ok (.aload_n 0, 1) := dec_of (decode cX10_line) da_232 39 rfl
abbrev dl_233 : List (Nat × Except DecodeError (Instr × Nat)) := [(73, .ok (.iconst 3, 1)), (74, .ok (.invokevirtual 217, 3)), (77, .ok (.aload_n 0, 1)), (78, .ok (.getfield 208, 3)), (81, .ok (.ifCond .eq 4, 3)), (84, .ok (.return_, 1)), (85, .ok (.aload_n 0, 1)), (86, .ok (.dup, 1)), (87, .ok (.getfield 228, 3)), (90, .ok (.iconst 1, 1)), (91, .ok (.iload_n 1, 1)), (92, .ok (.ishl, 1)), (93, .ok (.ior, 1)), (94, .ok (.putfield 228, 3)), (97, .ok (.aload_n 0, 1)), (98, .ok (.invokevirtual 214, 3)), (101, .ok (.iload_n 1, 1)), (102, .ok (.tableswitch 164 0 7 #[46, 61, 68, 75, 103, 118, 133, 148], 46)), (148, .ok (.aload_n 0, 1)), (149, .ok (.bipush 8, 2)), (151, .ok (.aload_n 0, 1)), (152, .ok (.iconst 0, 1)), (153, .ok (.invokevirtual 224, 3)), (156, .ok (.iadd, 1)), (157, .ok (.invokevirtual 231, 3)), (160, .ok (.goto 110, 3)), (163, .ok (.aload_n 0, 1)), (164, .ok (.invokevirtual 234, 3)), (167, .ok (.goto 103, 3)), (170, .ok (.aload_n 0, 1)), (171, .ok (.invokevirtual 237, 3)), (174, .ok (.goto 96, 3)), (177, .ok (.aload_n 0, 1)), (178, .ok (.iconst 1, 1)), (179, .ok (.aload_n 0, 1)), (180, .ok (.iconst 0, 1)), (181, .ok (.sipush 999, 3)), (184, .ok (.invokevirtual 240, 3)), (187, .ok (.invokevirtual 244, 3)), (190, .ok (.aload_n 0, 1))]
theorem da_233 : dl_233.all (fun q => decide (decode cX10_line q.1 = q.2)) = true := by decide +kernel
theorem dX10_line_73 : decode cX10_line 73 = .ok (.iconst 3, 1) := dec_of (decode cX10_line) da_233 0 rfl
theorem dX10_line_74 : decode cX10_line 74 = .ok (.invokevirtual 217, 3) := dec_of (decode cX10_line) da_233 1 rfl
theorem dX10_line_77 : decode cX10_line 77 = .ok (.aload_n 0, 1) := dec_of (decode cX10_line) da_233 2 rfl
theorem dX10_line_78 : decode cX10_line 78 = .ok (.getfield 208, 3) := dec_of (decode cX10_line) da_233 3 rfl
theorem dX10_line_81 : decode cX10_line 81 = .ok (.ifCond .eq 4, 3) := dec_of (decode cX10_line) da_233 4 rfl
theorem dX10_line_84 : decode cX10_line 84 = .ok (.return_, 1) := dec_of (decode cX10_line) da_233 5 rfl
theorem dX10_line_85 : decode cX10_line 85 = .ok (.aload_n 0, 1) := dec_of (decode cX10_line) da_233 6 rfl
theorem dX10_line_86 : decode cX10_line 86 = .ok (.dup, 1) := dec_of (decode cX10_line) da_233 7 rfl
theorem dX10_line_87 : decode cX10_line 87 = .ok (.getfield 228, 3) := dec_of (decode cX10_line) da_233 8 rfl
theorem dX10_line_90 : decode cX10_line 90 = .ok (.iconst 1, 1) := dec_of (decode cX10_line) da_233 9 rfl
theorem dX10_line_91 : decode cX10_line 91 = .ok (.iload_n 1, 1) := dec_of (decode cX10_line) da_233 10 rfl
theorem dX10_line_92 : decode cX10_line 92 = .ok (.ishl, 1) := dec_of (decode cX10_line) da_233 11 rfl
theorem dX10_line_93 : decode cX10_line 93 = .ok (.ior, 1) := dec_of (decode cX10_line) da_233 12 rfl
theorem dX10_line_94 : decode cX10_line 94 = .ok (.putfield 228, 3) := dec_of (decode cX10_line) da_233 13 rfl
theorem dX10_line_97 : decode cX10_line 97 = .ok (.aload_n 0, 1) := dec_of (decode cX10_line) da_233 14 rfl
theorem dX10_line_98 : decode cX10_line 98 = .ok (.invokevirtual 214, 3) := dec_of (decode cX10_line) da_233 15 rfl
theorem dX10_line_101 : decode cX10_line 101 = .ok (.iload_n 1, 1) := dec_of (decode cX10_line) da_233 16 rfl
theorem dX10_line_102 : decode cX10_line 102 = .ok (.tableswitch 164 0 7 #[46, 61, 68, 75, 103, 118, 133, 148], 46) := dec_of (decode cX10_line) da_233 17 rfl
theorem dX10_line_148 : decode cX10_line 148 = .ok (.aload_n 0, 1) := dec_of (decode cX10_line) da_233 18 rfl
theorem dX10_line_149 : decode cX10_line 149 = .ok (.bipush 8, 2) := dec_of (decode cX10_line) da_233 19 rfl
theorem dX10_line_151 : decode cX10_line 151 = .ok (.aload_n 0, 1) := dec_of (decode cX10_line) da_233 20 rfl
theorem dX10_line_152 : decode cX10_line 152 = .ok (.iconst 0, 1) := dec_of (decode cX10_line) da_233 21 rfl
theorem dX10_line_153 : decode cX10_line 153 = .ok (.invokevirtual 224, 3) := dec_of (decode cX10_line) da_233 22 rfl
theorem dX10_line_156 : decode cX10_line 156 = .ok (.iadd, 1) := dec_of (decode cX10_line) da_233 23 rfl
theorem dX10_line_157 : decode cX10_line 157 = .ok (.invokevirtual 231, 3) := dec_of (decode cX10_line) da_233 24 rfl
theorem dX10_line_160 : decode cX10_line 160 = .ok (.goto 110, 3) := dec_of (decode cX10_line) da_233 25 rfl
theorem dX10_line_163 : decode cX10_line 163 = .ok (.aload_n 0, 1) := dec_of (decode cX10_line) da_233 26 rfl
theorem dX10_line_164 : decode cX10_line 164 = .ok (.invokevirtual 234, 3) := dec_of (decode cX10_line) da_233 27 rfl
theorem dX10_line_167 : decode cX10_line 167 = .ok (.goto 103, 3) := dec_of (decode cX10_line) da_233 28 rfl
theorem dX10_line_170 : decode cX10_line 170 = .ok (.aload_n 0, 1) := dec_of (decode cX10_line) da_233 29 rfl
theorem dX10_line_171 : decode cX10_line 171 = .ok (.invokevirtual 237, 3) := dec_of (decode cX10_line) da_233 30 rfl
theorem dX10_line_174 : decode cX10_line 174 = .ok (.goto 96, 3) := dec_of (decode cX10_line) da_233 31 rfl
theorem dX10_line_177 : decode cX10_line 177 = .ok (.aload_n 0, 1) := dec_of (decode cX10_line) da_233 32 rfl
theorem dX10_line_178 : decode cX10_line 178 = .ok (.iconst 1, 1) := dec_of (decode cX10_line) da_233 33 rfl
theorem dX10_line_179 : decode cX10_line 179 = .ok (.aload_n 0, 1) := dec_of (decode cX10_line) da_233 34 rfl
theorem dX10_line_180 : decode cX10_line 180 = .ok (.iconst 0, 1) := dec_of (decode cX10_line) da_233 35 rfl
theorem dX10_line_181 : decode cX10_line 181 = .ok (.sipush 999, 3) := dec_of (decode cX10_line) da_233 36 rfl
theorem dX10_line_184 : decode cX10_line 184 = .ok (.invokevirtual 240, 3) := dec_of (decode cX10_line) da_233 37 rfl
theorem dX10_line_187 : decode cX10_line 187 = .ok (.invokevirtual 244, 3) := dec_of (decode cX10_line) da_233 38 rfl
theorem dX10_line_190 : decode cX10_line 190 = .ok (.aload_n 0, 1) := dec_of (decode cX10_line) da_233 39 rfl
abbrev dl_234 : List (Nat × Except DecodeError (Instr × Nat)) := [(191, .ok (.iconst 2, 1)), (192, .ok (.aload_n 0, 1)), (193, .ok (.iconst 1, 1)), (194, .ok (.bipush 9, 2)), (196, .ok (.invokevirtual 240, 3)), (199, .ok (.invokevirtual 244, 3)), (202, .ok (.goto 68, 3)), (205, .ok (.aload_n 0, 1)), (206, .ok (.iconst 3, 1)), (207, .ok (.aload_n 0, 1)), (208, .ok (.iconst 1, 1)), (209, .ok (.bipush 30, 2)), (211, .ok (.invokevirtual 240, 3)), (214, .ok (.invokevirtual 244, 3)), (217, .ok (.goto 53, 3)), (220, .ok (.aload_n 0, 1)), (221, .ok (.iconst 4, 1)), (222, .ok (.aload_n 0, 1)), (223, .ok (.iconst 1, 1)), (224, .ok (.bipush 7, 2)), (226, .ok (.invokevirtual 240, 3)), (229, .ok (.invokevirtual 244, 3)), (232, .ok (.goto 38, 3)), (235, .ok (.aload_n 0, 1)), (236, .ok (.iconst 5, 1)), (237, .ok (.aload_n 0, 1)), (238, .ok (.iconst 0, 1)), (239, .ok (.bipush 99, 2)), (241, .ok (.invokevirtual 240, 3)), (244, .ok (.invokevirtual 244, 3)), (247, .ok (.goto 23, 3)), (250, .ok (.aload_n 0, 1)), (251, .ok (.bipush 6, 2)), (253, .ok (.aload_n 0, 1)), (254, .ok (.iconst 0, 1)), (255, .ok (.ldc 192, 2)), (257, .ok (.invokevirtual 240, 3)), (260, .ok (.invokevirtual 244, 3)), (263, .ok (.goto 7, 3)), (266, .ok (.aload_n 0, 1))]
theorem da_234 : dl_234.all (fun q => decide (decode cX10_line q.1 = q.2)) = true := by decide +kernel
theorem dX10_line_191 : decode cX10_line 191 = .ok (.iconst 2, 1) := dec_of (decode cX10_line) da_234 0 rfl
theorem dX10_line_192 : decode cX10_line 192 = .ok (.aload_n 0, 1) := dec_of (decode cX10_line) da_234 1 rfl
theorem dX10_line_193 : decode cX10_line 193 = .ok (.iconst 1, 1) := dec_of (decode cX10_line) da_234 2 rfl
theorem dX10_line_194 : decode cX10_line 194 = .ok (.bipush 9, 2) := dec_of (decode cX10_line) da_234 3 rfl
theorem dX10_line_196 : decode cX10_line 196 = .ok (.invokevirtual 240, 3) := dec_of (decode cX10_line) da_234 4 rfl
theorem dX10_line_199 : decode cX10_line 199 = .ok (.invokevirtual 244, 3) := dec_of (decode cX10_line) da_234 5 rfl
theorem dX10_line_202 : decode cX10_line 202 = .ok (.goto 68, 3) := dec_of (decode cX10_line) da_234 6 rfl
theorem dX10_line_205 : decode cX10_line 205 = .ok (.aload_n 0, 1) := dec_of (decode cX10_line) da_234 7 rfl
theorem dX10_line_206 : decode cX10_line 206 = .ok (.iconst 3, 1) := dec_of (decode cX10_line) da_234 8 rfl
theorem dX10_line_207 : decode cX10_line 207 = .ok (.aload_n 0, 1) := dec_of (decode cX10_line) da_234 9 rfl
theorem dX10_line_208 : decode cX10_line 208 = .ok (.iconst 1, 1) := dec_of (decode cX10_line) da_234 10 rfl
theorem dX10_line_209 : decode cX10_line 209 = .ok (.bipush 30, 2) := dec_of (decode cX10_line) da_234 11 rfl
theorem dX10_line_211 : decode cX10_line 211 = .ok (.invokevirtual 240, 3) := dec_of (decode cX10_line) da_234 12 rfl
theorem dX10_line_214 : decode cX10_line 214 = .ok (.invokevirtual 244, 3) := dec_of (decode cX10_line) da_234 13 rfl
theorem dX10_line_217 : decode cX10_line 217 = .ok (.goto 53, 3) := dec_of (decode cX10_line) da_234 14 rfl
theorem dX10_line_220 : decode cX10_line 220 = .ok (.aload_n 0, 1) := dec_of (decode cX10_line) da_234 15 rfl
theorem dX10_line_221 : decode cX10_line 221 = .ok (.iconst 4, 1) := dec_of (decode cX10_line) da_234 16 rfl
theorem dX10_line_222 : decode cX10_line 222 = .ok (.aload_n 0, 1) := dec_of (decode cX10_line) da_234 17 rfl
theorem dX10_line_223 : decode cX10_line 223 = .ok (.iconst 1, 1) := dec_of (decode cX10_line) da_234 18 rfl
theorem dX10_line_224 : decode cX10_line 224 = .ok (.bipush 7, 2) := dec_of (decode cX10_line) da_234 19 rfl
theorem dX10_line_226 : decode cX10_line 226 = .ok (.invokevirtual 240, 3) := dec_of (decode cX10_line) da_234 20 rfl
theorem dX10_line_229 : decode cX10_line 229 = .ok (.invokevirtual 244, 3) := dec_of (decode cX10_line) da_234 21 rfl
theorem dX10_line_232 : decode cX10_line 232 = .ok (.goto 38, 3) := dec_of (decode cX10_line) da_234 22 rfl
theorem dX10_line_235 : decode cX10_line 235 = .ok (.aload_n 0, 1) := dec_of (decode cX10_line) da_234 23 rfl
theorem dX10_line_236 : decode cX10_line 236 = .ok (.iconst 5, 1) := dec_of (decode cX10_line) da_234 24 rfl
theorem dX10_line_237 : decode cX10_line 237 = .ok (.aload_n 0, 1) := dec_of (decode cX10_line) da_234 25 rfl
theorem dX10_line_238 : decode cX10_line 238 = .ok (.iconst 0, 1) := dec_of (decode cX10_line) da_234 26 rfl
theorem dX10_line_239 : decode cX10_line 239 = .ok (.bipush 99, 2) := dec_of (decode cX10_line) da_234 27 rfl
theorem dX10_line_241 : decode cX10_line 241 = .ok (.invokevirtual 240, 3) := dec_of (decode cX10_line) da_234 28 rfl
theorem dX10_line_244 : decode cX10_line 244 = .ok (.invokevirtual 244, 3) := dec_of (decode cX10_line) da_234 29 rfl
theorem dX10_line_247 : decode cX10_line 247 = .ok (.goto 23, 3) := dec_of (decode cX10_line) da_234 30 rfl
theorem dX10_line_250 : decode cX10_line 250 = .ok (.aload_n 0, 1) := dec_of (decode cX10_line) da_234 31 rfl
theorem dX10_line_251 : decode cX10_line 251 = .ok (.bipush 6, 2) := dec_of (decode cX10_line) da_234 32 rfl
theorem dX10_line_253 : decode cX10_line 253 = .ok (.aload_n 0, 1) := dec_of (decode cX10_line) da_234 33 rfl
theorem dX10_line_254 : decode cX10_line 254 = .ok (.iconst 0, 1) := dec_of (decode cX10_line) da_234 34 rfl
theorem dX10_line_255 : decode cX10_line 255 = .ok (.ldc 192, 2) := dec_of (decode cX10_line) da_234 35 rfl
theorem dX10_line_257 : decode cX10_line 257 = .ok (.invokevirtual 240, 3) := dec_of (decode cX10_line) da_234 36 rfl
theorem dX10_line_260 : decode cX10_line 260 = .ok (.invokevirtual 244, 3) := dec_of (decode cX10_line) da_234 37 rfl
theorem dX10_line_263 : decode cX10_line 263 = .ok (.goto 7, 3) := dec_of (decode cX10_line) da_234 38 rfl
theorem dX10_line_266 : decode cX10_line 266 = .ok (.aload_n 0, 1) := dec_of (decode cX10_line) da_234 39 rfl
abbrev dl_235 : List (Nat × Except DecodeError (Instr × Nat)) := [(267, .ok (.invokevirtual 248, 3)), (270, .ok (.aload_n 0, 1)), (271, .ok (.getfield 208, 3)), (274, .ok (.ifCond .eq 4, 3)), (277, .ok (.return_, 1)), (278, .ok (.aload_n 0, 1)), (279, .ok (.bipush 59, 2)), (281, .ok (.invokevirtual 251, 3)), (284, .ok (.ifCond .ne 11, 3)), (287, .ok (.aload_n 0, 1)), (288, .ok (.iconst 1, 1)), (289, .ok (.invokevirtual 217, 3)), (292, .ok (.goto 7, 3)), (295, .ok (.aload_n 0, 1)), (296, .ok (.invokevirtual 214, 3)), (299, .ok (.aload_n 0, 1)), (300, .ok (.dup, 1)), (301, .ok (.getfield 254, 3)), (304, .ok (.iconst 1, 1)), (305, .ok (.iadd, 1)), (306, .ok (.putfield 254, 3)), (309, .ok (.return_, 1))]
theorem da_235 : dl_235.all (fun q => decide (decode cX10_line q.1 = q.2)) = true := by decide +kernel
theorem dX10_line_267 : decode cX10_line 267 = .ok (.invokevirtual 248, 3) := dec_of (decode cX10_line) da_235 0 rfl
theorem dX10_line_270 : decode cX10_line 270 = .ok (.aload_n 0, 1) := dec_of (decode cX10_line) da_235 1 rfl
theorem dX10_line_271 : decode cX10_line 271 = .ok (.getfield 208, 3) := dec_of (decode cX10_line) da_235 2 rfl
theorem dX10_line_274 : decode cX10_line 274 = .ok (.ifCond .eq 4, 3) := dec_of (decode cX10_line) da_235 3 rfl
theorem dX10_line_277 : decode cX10_line 277 = .ok (.return_, 1) := dec_of (decode cX10_line) da_235 4 rfl
theorem dX10_line_278 : decode cX10_line 278 = .ok (.aload_n 0, 1) := dec_of (decode cX10_line) da_235 5 rfl
theorem dX10_line_279 : decode cX10_line 279 = .ok (.bipush 59, 2) := dec_of (decode cX10_line) da_235 6 rfl
theorem dX10_line_281 : decode cX10_line 281 = .ok (.invokevirtual 251, 3) := dec_of (decode cX10_line) da_235 7 rfl
theorem dX10_line_284 : decode cX10_line 284 = .ok (.ifCond .ne 11, 3) := dec_of (decode cX10_line) da_235 8 rfl
theorem dX10_line_287 : decode cX10_line 287 = .ok (.aload_n 0, 1) := dec_of (decode cX10_line) da_235 9 rfl
theorem dX10_line_288 : decode cX10_line 288 = .ok (.iconst 1, 1) := dec_of (decode cX10_line) da_235 10 rfl
theorem dX10_line_289 : decode cX10_line 289 = .ok (.invokevirtual 217, 3) := dec_of (decode cX10_line) da_235 11 rfl
theorem dX10_line_292 : decode cX10_line 292 = .ok (.goto 7, 3) := dec_of (decode cX10_line) da_235 12 rfl
theorem dX10_line_295 : decode cX10_line 295 = .ok (.aload_n 0, 1) := dec_of (decode cX10_line) da_235 13 rfl
theorem dX10_line_296 : decode cX10_line 296 = .ok (.invokevirtual 214, 3) := dec_of (decode cX10_line) da_235 14 rfl
theorem dX10_line_299 : decode cX10_line 299 = .ok (.aload_n 0, 1) := dec_of (decode cX10_line) da_235 15 rfl
theorem dX10_line_300 : decode cX10_line 300 = .ok (.dup, 1) := dec_of (decode cX10_line) da_235 16 rfl
theorem dX10_line_301 : decode cX10_line 301 = .ok (.getfield 254, 3) := dec_of (decode cX10_line) da_235 17 rfl
theorem dX10_line_304 : decode cX10_line 304 = .ok (.iconst 1, 1) := dec_of (decode cX10_line) da_235 18 rfl
theorem dX10_line_305 : decode cX10_line 305 = .ok (.iadd, 1) := dec_of (decode cX10_line) da_235 19 rfl
theorem dX10_line_306 : decode cX10_line 306 = .ok (.putfield 254, 3) := dec_of (decode cX10_line) da_235 20 rfl
theorem dX10_line_309 : decode cX10_line 309 = .ok (.return_, 1) := dec_of (decode cX10_line) da_235 21 rfl
abbrev dl_236 : List (Nat × Except DecodeError (Instr × Nat)) := [(0, .ok (.aload_n 0, 1)), (1, .ok (.getfield 16, 3)), (4, .ok (.iload_n 1, 1)), (5, .ok (.aload_n 0, 1)), (6, .ok (.aload_n 0, 1)), (7, .ok (.getfield 16, 3)), (10, .ok (.bipush 8, 2)), (12, .ok (.aload_n 0, 1)), (13, .ok (.iconst 0, 1)), (14, .ok (.invokevirtual 224, 3)), (17, .ok (.invokevirtual 257, 3)), (20, .ok (.iastore, 1)), (21, .ok (.aload_n 0, 1)), (22, .ok (.getfield 19, 3)), (25, .ok (.iload_n 1, 1)), (26, .ok (.aload_n 0, 1)), (27, .ok (.iconst 1, 1)), (28, .ok (.bipush 99, 2)), (30, .ok (.invokevirtual 240, 3)), (33, .ok (.iastore, 1)), (34, .ok (.aload_n 0, 1)), (35, .ok (.getfield 22, 3)), (38, .ok (.iload_n 1, 1)), (39, .ok (.aload_n 0, 1)), (40, .ok (.iconst 0, 1)), (41, .ok (.bipush 9, 2)), (43, .ok (.invokevirtual 240, 3)), (46, .ok (.iastore, 1)), (47, .ok (.aload_n 0, 1)), (48, .ok (.getfield 25, 3)), (51, .ok (.iload_n 1, 1)), (52, .ok (.aload_n 0, 1)), (53, .ok (.iconst 1, 1)), (54, .ok (.bipush 99, 2)), (56, .ok (.invokevirtual 240, 3)), (59, .ok (.iastore, 1)), (60, .ok (.aload_n 0, 1)), (61, .ok (.getfield 28, 3)), (64, .ok (.iload_n 1, 1)), (65, .ok (.aload_n 0, 1))]
theorem da_236 : dl_236.all (fun q => decide (decode cX10_manLine q.1 = q.2)) = true := by decide +kernel
theorem dX10_manLine_0 : decode cX10_manLine 0 = .ok (.aload_n 0, 1) := dec_of (decode cX10_manLine) da_236 0 rfl
theorem dX10_manLine_1 : decode cX10_manLine 1 = .ok (.getfield 16, 3) := dec_of (decode cX10_manLine) da_236 1 rfl
theorem dX10_manLine_4 : decode cX10_manLine 4 = .ok (.iload_n 1, 1) := dec_of (decode cX10_manLine) da_236 2 rfl
theorem dX10_manLine_5 : decode cX10_manLine 5 = .ok (.aload_n 0, 1) := dec_of (decode cX10_manLine) da_236 3 rfl
theorem dX10_manLine_6 : decode cX10_manLine 6 = .ok (.aload_n 0, 1) := dec_of (decode cX10_manLine) da_236 4 rfl
theorem dX10_manLine_7 : decode cX10_manLine 7 = .ok (.getfield 16, 3) := dec_of (decode cX10_manLine) da_236 5 rfl
theorem dX10_manLine_10 : decode cX10_manLine 10 = .ok (.bipush 8, 2) := dec_of (decode cX10_manLine) da_236 6 rfl
theorem dX10_manLine_12 : decode cX10_manLine 12 = .ok (.aload_n 0, 1) := dec_of (decode cX10_manLine) da_236 7 rfl
theorem dX10_manLine_13 : decode cX10_manLine 13 = .ok (.iconst 0, 1) := dec_of (decode cX10_manLine) da_236 8 rfl
theorem dX10_manLine_14 : decode cX10_manLine 14 = .ok (.invokevirtual 224, 3) := dec_of (decode cX10_manLine) da_236 9 rfl
theorem dX10_manLine_17 : decode cX10_manLine 17 = .ok (.invokevirtual 257, 3) := dec_of (decode cX10_manLine) da_236 10 rfl
theorem dX10_manLine_20 : decode cX10_manLine 20 = .ok (.iastore, 1) := dec_of (decode cX10_manLine) da_236 11 rfl
theorem dX10_manLine_21 : decode cX10_manLine 21 = .ok (.aload_n 0, 1) := dec_of (decode cX10_manLine) da_236 12 rfl
theorem dX10_manLine_22 : decode cX10_manLine 22 = .ok (.getfield 19, 3) := dec_of (decode cX10_manLine) da_236 13 rfl
theorem dX10_manLine_25 : decode cX10_manLine 25 = .ok (.iload_n 1, 1) := dec_of (decode cX10_manLine) da_236 14 rfl
theorem dX10_manLine_26 : decode cX10_manLine 26 = .ok (.aload_n 0, 1) := dec_of (decode cX10_manLine) da_236 15 rfl
theorem dX10_manLine_27 : decode cX10_manLine 27 = .ok (.iconst 1, 1) := dec_of (decode cX10_manLine) da_236 16 rfl
theorem dX10_manLine_28 : decode cX10_manLine 28 = .ok (.bipush 99, 2) := dec_of (decode cX10_manLine) da_236 17 rfl
theorem dX10_manLine_30 : decode cX10_manLine 30 = .ok (.invokevirtual 240, 3) := dec_of (decode cX10_manLine) da_236 18 rfl
theorem dX10_manLine_33 : decode cX10_manLine 33 = .ok (.iastore, 1) := dec_of (decode cX10_manLine) da_236 19 rfl
theorem dX10_manLine_34 : decode cX10_manLine 34 = .ok (.aload_n 0, 1) := dec_of (decode cX10_manLine) da_236 20 rfl
theorem dX10_manLine_35 : decode cX10_manLine 35 = .ok (.getfield 22, 3) := dec_of (decode cX10_manLine) da_236 21 rfl
theorem dX10_manLine_38 : decode cX10_manLine 38 = .ok (.iload_n 1, 1) := dec_of (decode cX10_manLine) da_236 22 rfl
theorem dX10_manLine_39 : decode cX10_manLine 39 = .ok (.aload_n 0, 1) := dec_of (decode cX10_manLine) da_236 23 rfl
theorem dX10_manLine_40 : decode cX10_manLine 40 = .ok (.iconst 0, 1) := dec_of (decode cX10_manLine) da_236 24 rfl
theorem dX10_manLine_41 : decode cX10_manLine 41 = .ok (.bipush 9, 2) := dec_of (decode cX10_manLine) da_236 25 rfl
theorem dX10_manLine_43 : decode cX10_manLine 43 = .ok (.invokevirtual 240, 3) := dec_of (decode cX10_manLine) da_236 26 rfl
theorem dX10_manLine_46 : decode cX10_manLine 46 = .ok (.iastore, 1) := dec_of (decode cX10_manLine) da_236 27 rfl
theorem dX10_manLine_47 : decode cX10_manLine 47 = .ok (.aload_n 0, 1) := dec_of (decode cX10_manLine) da_236 28 rfl
theorem dX10_manLine_48 : decode cX10_manLine 48 = .ok (.getfield 25, 3) := dec_of (decode cX10_manLine) da_236 29 rfl
theorem dX10_manLine_51 : decode cX10_manLine 51 = .ok (.iload_n 1, 1) := dec_of (decode cX10_manLine) da_236 30 rfl
theorem dX10_manLine_52 : decode cX10_manLine 52 = .ok (.aload_n 0, 1) := dec_of (decode cX10_manLine) da_236 31 rfl
theorem dX10_manLine_53 : decode cX10_manLine 53 = .ok (.iconst 1, 1) := dec_of (decode cX10_manLine) da_236 32 rfl
theorem dX10_manLine_54 : decode cX10_manLine 54 = .ok (.bipush 99, 2) := dec_of (decode cX10_manLine) da_236 33 rfl
theorem dX10_manLine_56 : decode cX10_manLine 56 = .ok (.invokevirtual 240, 3) := dec_of (decode cX10_manLine) da_236 34 rfl
theorem dX10_manLine_59 : decode cX10_manLine 59 = .ok (.iastore, 1) := dec_of (decode cX10_manLine) da_236 35 rfl
theorem dX10_manLine_60 : decode cX10_manLine 60 = .ok (.aload_n 0, 1) := dec_of (decode cX10_manLine) da_236 36 rfl
theorem dX10_manLine_61 : decode cX10_manLine 61 = .ok (.getfield 28, 3) := dec_of (decode cX10_manLine) da_236 37 rfl
theorem dX10_manLine_64 : decode cX10_manLine 64 = .ok (.iload_n 1, 1) := dec_of (decode cX10_manLine) da_236 38 rfl
theorem dX10_manLine_65 : decode cX10_manLine 65 = .ok (.aload_n 0, 1) := dec_of (decode cX10_manLine) da_236 39 rfl
abbrev dl_237 : List (Nat × Except DecodeError (Instr × Nat)) := [(66, .ok (.iconst 1, 1)), (67, .ok (.bipush 30, 2)), (69, .ok (.invokevirtual 240, 3)), (72, .ok (.iastore, 1)), (73, .ok (.aload_n 0, 1)), (74, .ok (.getfield 31, 3)), (77, .ok (.iload_n 1, 1)), (78, .ok (.aload_n 0, 1)), (79, .ok (.iconst 0, 1)), (80, .ok (.bipush 99, 2)), (82, .ok (.invokevirtual 240, 3)), (85, .ok (.iastore, 1)), (86, .ok (.aload_n 0, 1)), (87, .ok (.getfield 34, 3)), (90, .ok (.iload_n 1, 1)), (91, .ok (.aload_n 0, 1)), (92, .ok (.iconst 0, 1)), (93, .ok (.bipush 99, 2)), (95, .ok (.invokevirtual 240, 3)), (98, .ok (.iastore, 1)), (99, .ok (.aload_n 0, 1)), (100, .ok (.getfield 37, 3)), (103, .ok (.iload_n 1, 1)), (104, .ok (.aload_n 0, 1)), (105, .ok (.iconst 0, 1)), (106, .ok (.bipush 59, 2)), (108, .ok (.invokevirtual 240, 3)), (111, .ok (.iastore, 1)), (112, .ok (.aload_n 0, 1)), (113, .ok (.getfield 43, 3)), (116, .ok (.iload_n 1, 1)), (117, .ok (.iconst 0, 1)), (118, .ok (.iastore, 1)), (119, .ok (.aload_n 0, 1)), (120, .ok (.getfield 40, 3)), (123, .ok (.iload_n 1, 1)), (124, .ok (.aload_n 0, 1)), (125, .ok (.bipush 9, 2)), (127, .ok (.invokevirtual 261, 3)), (130, .ok (.ifCond .eq 7, 3))]
theorem da_237 : dl_237.all (fun q => decide (decode cX10_manLine q.1 = q.2)) = true := by decide +kernel
theorem dX10_manLine_66 : decode cX10_manLine 66 = .ok (.iconst 1, 1) := dec_of (decode cX10_manLine) da_237 0 rfl
theorem dX10_manLine_67 : decode cX10_manLine 67 = .ok (.bipush 30, 2) := dec_of (decode cX10_manLine) da_237 1 rfl
theorem dX10_manLine_69 : decode cX10_manLine 69 = .ok (.invokevirtual 240, 3) := dec_of (decode cX10_manLine) da_237 2 rfl
theorem dX10_manLine_72 : decode cX10_manLine 72 = .ok (.iastore, 1) := dec_of (decode cX10_manLine) da_237 3 rfl
theorem dX10_manLine_73 : decode cX10_manLine 73 = .ok (.aload_n 0, 1) := dec_of (decode cX10_manLine) da_237 4 rfl
theorem dX10_manLine_74 : decode cX10_manLine 74 = .ok (.getfield 31, 3) := dec_of (decode cX10_manLine) da_237 5 rfl
theorem dX10_manLine_77 : decode cX10_manLine 77 = .ok (.iload_n 1, 1) := dec_of (decode cX10_manLine) da_237 6 rfl
theorem dX10_manLine_78 : decode cX10_manLine 78 = .ok (.aload_n 0, 1) := dec_of (decode cX10_manLine) da_237 7 rfl
theorem dX10_manLine_79 : decode cX10_manLine 79 = .ok (.iconst 0, 1) := dec_of (decode cX10_manLine) da_237 8 rfl
theorem dX10_manLine_80 : decode cX10_manLine 80 = .ok (.bipush 99, 2) := dec_of (decode cX10_manLine) da_237 9 rfl
theorem dX10_manLine_82 : decode cX10_manLine 82 = .ok (.invokevirtual 240, 3) := dec_of (decode cX10_manLine) da_237 10 rfl
theorem dX10_manLine_85 : decode cX10_manLine 85 = .ok (.iastore, 1) := dec_of (decode cX10_manLine) da_237 11 rfl
theorem dX10_manLine_86 : decode cX10_manLine 86 = .ok (.aload_n 0, 1) := dec_of (decode cX10_manLine) da_237 12 rfl
theorem dX10_manLine_87 : decode cX10_manLine 87 = .ok (.getfield 34, 3) := dec_of (decode cX10_manLine) da_237 13 rfl
theorem dX10_manLine_90 : decode cX10_manLine 90 = .ok (.iload_n 1, 1) := dec_of (decode cX10_manLine) da_237 14 rfl
theorem dX10_manLine_91 : decode cX10_manLine 91 = .ok (.aload_n 0, 1) := dec_of (decode cX10_manLine) da_237 15 rfl
theorem dX10_manLine_92 : decode cX10_manLine 92 = .ok (.iconst 0, 1) := dec_of (decode cX10_manLine) da_237 16 rfl
theorem dX10_manLine_93 : decode cX10_manLine 93 = .ok (.bipush 99, 2) := dec_of (decode cX10_manLine) da_237 17 rfl
theorem dX10_manLine_95 : decode cX10_manLine 95 = .ok (.invokevirtual 240, 3) := dec_of (decode cX10_manLine) da_237 18 rfl
theorem dX10_manLine_98 : decode cX10_manLine 98 = .ok (.iastore, 1) := dec_of (decode cX10_manLine) da_237 19 rfl
theorem dX10_manLine_99 : decode cX10_manLine 99 = .ok (.aload_n 0, 1) := dec_of (decode cX10_manLine) da_237 20 rfl
theorem dX10_manLine_100 : decode cX10_manLine 100 = .ok (.getfield 37, 3) := dec_of (decode cX10_manLine) da_237 21 rfl
theorem dX10_manLine_103 : decode cX10_manLine 103 = .ok (.iload_n 1, 1) := dec_of (decode cX10_manLine) da_237 22 rfl
theorem dX10_manLine_104 : decode cX10_manLine 104 = .ok (.aload_n 0, 1) := dec_of (decode cX10_manLine) da_237 23 rfl
theorem dX10_manLine_105 : decode cX10_manLine 105 = .ok (.iconst 0, 1) := dec_of (decode cX10_manLine) da_237 24 rfl
theorem dX10_manLine_106 : decode cX10_manLine 106 = .ok (.bipush 59, 2) := dec_of (decode cX10_manLine) da_237 25 rfl
theorem dX10_manLine_108 : decode cX10_manLine 108 = .ok (.invokevirtual 240, 3) := dec_of (decode cX10_manLine) da_237 26 rfl
theorem dX10_manLine_111 : decode cX10_manLine 111 = .ok (.iastore, 1) := dec_of (decode cX10_manLine) da_237 27 rfl
theorem dX10_manLine_112 : decode cX10_manLine 112 = .ok (.aload_n 0, 1) := dec_of (decode cX10_manLine) da_237 28 rfl
theorem dX10_manLine_113 : decode cX10_manLine 113 = .ok (.getfield 43, 3) := dec_of (decode cX10_manLine) da_237 29 rfl
theorem dX10_manLine_116 : decode cX10_manLine 116 = .ok (.iload_n 1, 1) := dec_of (decode cX10_manLine) da_237 30 rfl
theorem dX10_manLine_117 : decode cX10_manLine 117 = .ok (.iconst 0, 1) := dec_of (decode cX10_manLine) da_237 31 rfl
theorem dX10_manLine_118 : decode cX10_manLine 118 = .ok (.iastore, 1) := dec_of (decode cX10_manLine) da_237 32 rfl
theorem dX10_manLine_119 : decode cX10_manLine 119 = .ok (.aload_n 0, 1) := dec_of (decode cX10_manLine) da_237 33 rfl
theorem dX10_manLine_120 : decode cX10_manLine 120 = .ok (.getfield 40, 3) := dec_of (decode cX10_manLine) da_237 34 rfl
theorem dX10_manLine_123 : decode cX10_manLine 123 = .ok (.iload_n 1, 1) := dec_of (decode cX10_manLine) da_237 35 rfl
theorem dX10_manLine_124 : decode cX10_manLine 124 = .ok (.aload_n 0, 1) := dec_of (decode cX10_manLine) da_237 36 rfl
theorem dX10_manLine_125 : decode cX10_manLine 125 = .ok (.bipush 9, 2) := dec_of (decode cX10_manLine) da_237 37 rfl
theorem dX10_manLine_127 : decode cX10_manLine 127 = .ok (.invokevirtual 261, 3) := dec_of (decode cX10_manLine) da_237 38 rfl
theorem dX10_manLine_130 : decode cX10_manLine 130 = .ok (.ifCond .eq 7, 3) := dec_of (decode cX10_manLine) da_237 39 rfl
abbrev dl_238 : List (Nat × Except DecodeError (Instr × Nat)) := [(133, .ok (.iconst 1, 1)), (134, .ok (.goto 4, 3)), (137, .ok (.iconst 0, 1)), (138, .ok (.iastore, 1)), (139, .ok (.aload_n 0, 1)), (140, .ok (.getfield 40, 3)), (143, .ok (.iload_n 1, 1)), (144, .ok (.iaload, 1)), (145, .ok (.iconst 1, 1)), (146, .ok (.if_icmp .ne 7, 3)), (149, .ok (.aload_n 0, 1)), (150, .ok (.invokevirtual 214, 3)), (153, .ok (.aload_n 0, 1)), (154, .ok (.iconst 0, 1)), (155, .ok (.aload_n 0, 1)), (156, .ok (.iconst 0, 1)), (157, .ok (.invokevirtual 224, 3)), (160, .ok (.iconst 1, 1)), (161, .ok (.iadd, 1)), (162, .ok (.invokevirtual 244, 3)), (165, .ok (.return_, 1))]
theorem da_238 : dl_238.all (fun q => decide (decode cX10_manLine q.1 = q.2)) = true := by decide +kernel
theorem dX10_manLine_133 : decode cX10_manLine 133 = .ok (.iconst 1, 1) := dec_of (decode cX10_manLine) da_238 0 rfl
theorem dX10_manLine_134 : decode cX10_manLine 134 = .ok (.goto 4, 3) := dec_of (decode cX10_manLine) da_238 1 rfl
theorem dX10_manLine_137 : decode cX10_manLine 137 = .ok (.iconst 0, 1) := dec_of (decode cX10_manLine) da_238 2 rfl
theorem dX10_manLine_138 : decode cX10_manLine 138 = .ok (.iastore, 1) := dec_of (decode cX10_manLine) da_238 3 rfl
theorem dX10_manLine_139 : decode cX10_manLine 139 = .ok (.aload_n 0, 1) := dec_of (decode cX10_manLine) da_238 4 rfl
theorem dX10_manLine_140 : decode cX10_manLine 140 = .ok (.getfield 40, 3) := dec_of (decode cX10_manLine) da_238 5 rfl
theorem dX10_manLine_143 : decode cX10_manLine 143 = .ok (.iload_n 1, 1) := dec_of (decode cX10_manLine) da_238 6 rfl
theorem dX10_manLine_144 : decode cX10_manLine 144 = .ok (.iaload, 1) := dec_of (decode cX10_manLine) da_238 7 rfl
theorem dX10_manLine_145 : decode cX10_manLine 145 = .ok (.iconst 1, 1) := dec_of (decode cX10_manLine) da_238 8 rfl
theorem dX10_manLine_146 : decode cX10_manLine 146 = .ok (.if_icmp .ne 7, 3) := dec_of (decode cX10_manLine) da_238 9 rfl
theorem dX10_manLine_149 : decode cX10_manLine 149 = .ok (.aload_n 0, 1) := dec_of (decode cX10_manLine) da_238 10 rfl
theorem dX10_manLine_150 : decode cX10_manLine 150 = .ok (.invokevirtual 214, 3) := dec_of (decode cX10_manLine) da_238 11 rfl
theorem dX10_manLine_153 : decode cX10_manLine 153 = .ok (.aload_n 0, 1) := dec_of (decode cX10_manLine) da_238 12 rfl
theorem dX10_manLine_154 : decode cX10_manLine 154 = .ok (.iconst 0, 1) := dec_of (decode cX10_manLine) da_238 13 rfl
theorem dX10_manLine_155 : decode cX10_manLine 155 = .ok (.aload_n 0, 1) := dec_of (decode cX10_manLine) da_238 14 rfl
theorem dX10_manLine_156 : decode cX10_manLine 156 = .ok (.iconst 0, 1) := dec_of (decode cX10_manLine) da_238 15 rfl
theorem dX10_manLine_157 : decode cX10_manLine 157 = .ok (.invokevirtual 224, 3) := dec_of (decode cX10_manLine) da_238 16 rfl
theorem dX10_manLine_160 : decode cX10_manLine 160 = .ok (.iconst 1, 1) := dec_of (decode cX10_manLine) da_238 17 rfl
theorem dX10_manLine_161 : decode cX10_manLine 161 = .ok (.iadd, 1) := dec_of (decode cX10_manLine) da_238 18 rfl
theorem dX10_manLine_162 : decode cX10_manLine 162 = .ok (.invokevirtual 244, 3) := dec_of (decode cX10_manLine) da_238 19 rfl
theorem dX10_manLine_165 : decode cX10_manLine 165 = .ok (.return_, 1) := dec_of (decode cX10_manLine) da_238 20 rfl
abbrev dl_239 : List (Nat × Except DecodeError (Instr × Nat)) := [(0, .ok (.aload_n 0, 1)), (1, .ok (.getfield 208, 3)), (4, .ok (.ifCond .eq 5, 3)), (7, .ok (.iconst 0, 1)), (8, .ok (.ireturn, 1)), (9, .ok (.aload_n 0, 1)), (10, .ok (.getfield 173, 3)), (13, .ok (.iconst 1, 1)), (14, .ok (.if_icmp .eq 11, 3)), (17, .ok (.aload_n 0, 1)), (18, .ok (.iconst 1, 1)), (19, .ok (.invokevirtual 217, 3)), (22, .ok (.goto 30, 3)), (25, .ok (.aload_n 0, 1)), (26, .ok (.getfield 16, 3)), (29, .ok (.bipush 8, 2)), (31, .ok (.aload_n 0, 1)), (32, .ok (.iconst 0, 1)), (33, .ok (.invokevirtual 224, 3)), (36, .ok (.aload_n 0, 1)), (37, .ok (.getfield 183, 3)), (40, .ok (.invokestatic 220, 3)), (43, .ok (.iconst (-1), 1)), (44, .ok (.if_icmp .ne 8, 3)), (47, .ok (.aload_n 0, 1)), (48, .ok (.iconst 4, 1)), (49, .ok (.invokevirtual 217, 3)), (52, .ok (.aload_n 0, 1)), (53, .ok (.getfield 208, 3)), (56, .ok (.ifCond .eq 7, 3)), (59, .ok (.iconst 0, 1)), (60, .ok (.goto 21, 3)), (63, .ok (.aload_n 0, 1)), (64, .ok (.getfield 16, 3)), (67, .ok (.bipush 8, 2)), (69, .ok (.aload_n 0, 1)), (70, .ok (.iconst 0, 1)), (71, .ok (.invokevirtual 224, 3)), (74, .ok (.aload_n 0, 1)), (75, .ok (.getfield 183, 3))]
theorem da_239 : dl_239.all (fun q => decide (decode cX10_manAtHand q.1 = q.2)) = true := by decide +kernel
theorem dX10_manAtHand_0 : decode cX10_manAtHand 0 = .ok (.aload_n 0, 1) := dec_of (decode cX10_manAtHand) da_239 0 rfl
theorem dX10_manAtHand_1 : decode cX10_manAtHand 1 = .ok (.getfield 208, 3) := dec_of (decode cX10_manAtHand) da_239 1 rfl
theorem dX10_manAtHand_4 : decode cX10_manAtHand 4 = .ok (.ifCond .eq 5, 3) := dec_of (decode cX10_manAtHand) da_239 2 rfl
theorem dX10_manAtHand_7 : decode cX10_manAtHand 7 = .ok (.iconst 0, 1) := dec_of (decode cX10_manAtHand) da_239 3 rfl
theorem dX10_manAtHand_8 : decode cX10_manAtHand 8 = .ok (.ireturn, 1) := dec_of (decode cX10_manAtHand) da_239 4 rfl
theorem dX10_manAtHand_9 : decode cX10_manAtHand 9 = .ok (.aload_n 0, 1) := dec_of (decode cX10_manAtHand) da_239 5 rfl
theorem dX10_manAtHand_10 : decode cX10_manAtHand 10 = .ok (.getfield 173, 3) := dec_of (decode cX10_manAtHand) da_239 6 rfl
theorem dX10_manAtHand_13 : decode cX10_manAtHand 13 = .ok (.iconst 1, 1) := dec_of (decode cX10_manAtHand) da_239 7 rfl
theorem dX10_manAtHand_14 : decode cX10_manAtHand 14 = .ok (.if_icmp .eq 11, 3) := dec_of (decode cX10_manAtHand) da_239 8 rfl
theorem dX10_manAtHand_17 : decode cX10_manAtHand 17 = .ok (.aload_n 0, 1) := dec_of (decode cX10_manAtHand) da_239 9 rfl
theorem dX10_manAtHand_18 : decode cX10_manAtHand 18 = .ok (.iconst 1, 1) := dec_of (decode cX10_manAtHand) da_239 10 rfl
theorem dX10_manAtHand_19 : decode cX10_manAtHand 19 = .ok (.invokevirtual 217, 3) := dec_of (decode cX10_manAtHand) da_239 11 rfl
theorem dX10_manAtHand_22 : decode cX10_manAtHand 22 = .ok (.goto 30, 3) := dec_of (decode cX10_manAtHand) da_239 12 rfl
theorem dX10_manAtHand_25 : decode cX10_manAtHand 25 = .ok (.aload_n 0, 1) := dec_of (decode cX10_manAtHand) da_239 13 rfl
theorem dX10_manAtHand_26 : decode cX10_manAtHand 26 = .ok (.getfield 16, 3) := dec_of (decode cX10_manAtHand) da_239 14 rfl
theorem dX10_manAtHand_29 : decode cX10_manAtHand 29 = .ok (.bipush 8, 2) := dec_of (decode cX10_manAtHand) da_239 15 rfl
theorem dX10_manAtHand_31 : decode cX10_manAtHand 31 = .ok (.aload_n 0, 1) := dec_of (decode cX10_manAtHand) da_239 16 rfl
theorem dX10_manAtHand_32 : decode cX10_manAtHand 32 = .ok (.iconst 0, 1) := dec_of (decode cX10_manAtHand) da_239 17 rfl
theorem dX10_manAtHand_33 : decode cX10_manAtHand 33 = .ok (.invokevirtual 224, 3) := dec_of (decode cX10_manAtHand) da_239 18 rfl
theorem dX10_manAtHand_36 : decode cX10_manAtHand 36 = .ok (.aload_n 0, 1) := dec_of (decode cX10_manAtHand) da_239 19 rfl
theorem dX10_manAtHand_37 : decode cX10_manAtHand 37 = .ok (.getfield 183, 3) := dec_of (decode cX10_manAtHand) da_239 20 rfl
theorem dX10_manAtHand_40 : decode cX10_manAtHand 40 = .ok (.invokestatic 220, 3) := dec_of (decode cX10_manAtHand) da_239 21 rfl
theorem dX10_manAtHand_43 : decode cX10_manAtHand 43 = .ok (.iconst (-1), 1) := dec_of (decode cX10_manAtHand) da_239 22 rfl
theorem dX10_manAtHand_44 : decode cX10_manAtHand 44 = .ok (.if_icmp .ne 8, 3) := dec_of (decode cX10_manAtHand) da_239 23 rfl
theorem dX10_manAtHand_47 : decode cX10_manAtHand 47 = .ok (.aload_n 0, 1) := dec_of (decode cX10_manAtHand) da_239 24 rfl
theorem dX10_manAtHand_48 : decode cX10_manAtHand 48 = .ok (.iconst 4, 1) := dec_of (decode cX10_manAtHand) da_239 25 rfl
theorem dX10_manAtHand_49 : decode cX10_manAtHand 49 = .ok (.invokevirtual 217, 3) := dec_of (decode cX10_manAtHand) da_239 26 rfl
theorem dX10_manAtHand_52 : decode cX10_manAtHand 52 = .ok (.aload_n 0, 1) := dec_of (decode cX10_manAtHand) da_239 27 rfl
theorem dX10_manAtHand_53 : decode cX10_manAtHand 53 = .ok (.getfield 208, 3) := dec_of (decode cX10_manAtHand) da_239 28 rfl
theorem dX10_manAtHand_56 : decode cX10_manAtHand 56 = .ok (.ifCond .eq 7, 3) := dec_of (decode cX10_manAtHand) da_239 29 rfl
theorem dX10_manAtHand_59 : decode cX10_manAtHand 59 = .ok (.iconst 0, 1) := dec_of (decode cX10_manAtHand) da_239 30 rfl
theorem dX10_manAtHand_60 : decode cX10_manAtHand 60 = .ok (.goto 21, 3) := dec_of (decode cX10_manAtHand) da_239 31 rfl
theorem dX10_manAtHand_63 : decode cX10_manAtHand 63 = .ok (.aload_n 0, 1) := dec_of (decode cX10_manAtHand) da_239 32 rfl
theorem dX10_manAtHand_64 : decode cX10_manAtHand 64 = .ok (.getfield 16, 3) := dec_of (decode cX10_manAtHand) da_239 33 rfl
theorem dX10_manAtHand_67 : decode cX10_manAtHand 67 = .ok (.bipush 8, 2) := dec_of (decode cX10_manAtHand) da_239 34 rfl
theorem dX10_manAtHand_69 : decode cX10_manAtHand 69 = .ok (.aload_n 0, 1) := dec_of (decode cX10_manAtHand) da_239 35 rfl
theorem dX10_manAtHand_70 : decode cX10_manAtHand 70 = .ok (.iconst 0, 1) := dec_of (decode cX10_manAtHand) da_239 36 rfl
theorem dX10_manAtHand_71 : decode cX10_manAtHand 71 = .ok (.invokevirtual 224, 3) := dec_of (decode cX10_manAtHand) da_239 37 rfl
theorem dX10_manAtHand_74 : decode cX10_manAtHand 74 = .ok (.aload_n 0, 1) := dec_of (decode cX10_manAtHand) da_239 38 rfl
theorem dX10_manAtHand_75 : decode cX10_manAtHand 75 = .ok (.getfield 183, 3) := dec_of (decode cX10_manAtHand) da_239 39 rfl
abbrev dl_240 : List (Nat × Except DecodeError (Instr × Nat)) := [(78, .ok (.invokestatic 220, 3)), (81, .ok (.ireturn, 1))]
theorem da_240 : dl_240.all (fun q => decide (decode cX10_manAtHand q.1 = q.2)) = true := by decide +kernel
theorem dX10_manAtHand_78 : decode cX10_manAtHand 78 = .ok (.invokestatic 220, 3) := dec_of (decode cX10_manAtHand) da_240 0 rfl
theorem dX10_manAtHand_81 : decode cX10_manAtHand 81 = .ok (.ireturn, 1) := dec_of (decode cX10_manAtHand) da_240 1 rfl
abbrev dl_241 : List (Nat × Except DecodeError (Instr × Nat)) := [(0, .ok (.aload_n 0, 1)), (1, .ok (.invokevirtual 264, 3)), (4, .ok (.istore_n 1, 1)), (5, .ok (.aload_n 0, 1)), (6, .ok (.getfield 208, 3)), (9, .ok (.ifCond .ne 20, 3)), (12, .ok (.aload_n 0, 1)), (13, .ok (.getfield 43, 3)), (16, .ok (.bipush 8, 2)), (18, .ok (.iload_n 1, 1)), (19, .ok (.iadd, 1)), (20, .ok (.iaload, 1)), (21, .ok (.ifCond .le 8, 3)), (24, .ok (.aload_n 0, 1)), (25, .ok (.iconst 3, 1)), (26, .ok (.invokevirtual 217, 3)), (29, .ok (.aload_n 0, 1)), (30, .ok (.invokevirtual 267, 3)), (33, .ok (.aload_n 0, 1)), (34, .ok (.invokevirtual 264, 3)), (37, .ok (.istore_n 2, 1)), (38, .ok (.aload_n 0, 1)), (39, .ok (.getfield 208, 3)), (42, .ok (.ifCond .ne 13, 3)), (45, .ok (.iload_n 1, 1)), (46, .ok (.iload_n 2, 1)), (47, .ok (.if_icmp .ne 8, 3)), (50, .ok (.aload_n 0, 1)), (51, .ok (.iconst 5, 1)), (52, .ok (.invokevirtual 217, 3)), (55, .ok (.aload_n 0, 1)), (56, .ok (.getfield 208, 3)), (59, .ok (.ifCond .eq 4, 3)), (62, .ok (.return_, 1)), (63, .ok (.aload_n 0, 1)), (64, .ok (.getfield 43, 3)), (67, .ok (.bipush 8, 2)), (69, .ok (.iload_n 1, 1)), (70, .ok (.iadd, 1)), (71, .ok (.iload_n 2, 1))]
theorem da_241 : dl_241.all (fun q => decide (decode cX10_guardLine q.1 = q.2)) = true := by decide +kernel
theorem dX10_guardLine_0 : decode cX10_guardLine 0 = .ok (.aload_n 0, 1) := dec_of (decode cX10_guardLine) da_241 0 rfl
theorem dX10_guardLine_1 : decode cX10_guardLine 1 = .ok (.invokevirtual 264, 3) := dec_of (decode cX10_guardLine) da_241 1 rfl
theorem dX10_guardLine_4 : decode cX10_guardLine 4 = .ok (.istore_n 1, 1) := dec_of (decode cX10_guardLine) da_241 2 rfl
theorem dX10_guardLine_5 : decode cX10_guardLine 5 = .ok (.aload_n 0, 1) := dec_of (decode cX10_guardLine) da_241 3 rfl
theorem dX10_guardLine_6 : decode cX10_guardLine 6 = .ok (.getfield 208, 3) := dec_of (decode cX10_guardLine) da_241 4 rfl
theorem dX10_guardLine_9 : decode cX10_guardLine 9 = .ok (.ifCond .ne 20, 3) := dec_of (decode cX10_guardLine) da_241 5 rfl
theorem dX10_guardLine_12 : decode cX10_guardLine 12 = .ok (.aload_n 0, 1) := dec_of (decode cX10_guardLine) da_241 6 rfl
theorem dX10_guardLine_13 : decode cX10_guardLine 13 = .ok (.getfield 43, 3) := dec_of (decode cX10_guardLine) da_241 7 rfl
theorem dX10_guardLine_16 : decode cX10_guardLine 16 = .ok (.bipush 8, 2) := dec_of (decode cX10_guardLine) da_241 8 rfl
theorem dX10_guardLine_18 : decode cX10_guardLine 18 = .ok (.iload_n 1, 1) := dec_of (decode cX10_guardLine) da_241 9 rfl
theorem dX10_guardLine_19 : decode cX10_guardLine 19 = .ok (.iadd, 1) := dec_of (decode cX10_guardLine) da_241 10 rfl
theorem dX10_guardLine_20 : decode cX10_guardLine 20 = .ok (.iaload, 1) := dec_of (decode cX10_guardLine) da_241 11 rfl
theorem dX10_guardLine_21 : decode cX10_guardLine 21 = .ok (.ifCond .le 8, 3) := dec_of (decode cX10_guardLine) da_241 12 rfl
theorem dX10_guardLine_24 : decode cX10_guardLine 24 = .ok (.aload_n 0, 1) := dec_of (decode cX10_guardLine) da_241 13 rfl
theorem dX10_guardLine_25 : decode cX10_guardLine 25 = .ok (.iconst 3, 1) := dec_of (decode cX10_guardLine) da_241 14 rfl
theorem dX10_guardLine_26 : decode cX10_guardLine 26 = .ok (.invokevirtual 217, 3) := dec_of (decode cX10_guardLine) da_241 15 rfl
theorem dX10_guardLine_29 : decode cX10_guardLine 29 = .ok (.aload_n 0, 1) := dec_of (decode cX10_guardLine) da_241 16 rfl
theorem dX10_guardLine_30 : decode cX10_guardLine 30 = .ok (.invokevirtual 267, 3) := dec_of (decode cX10_guardLine) da_241 17 rfl
theorem dX10_guardLine_33 : decode cX10_guardLine 33 = .ok (.aload_n 0, 1) := dec_of (decode cX10_guardLine) da_241 18 rfl
theorem dX10_guardLine_34 : decode cX10_guardLine 34 = .ok (.invokevirtual 264, 3) := dec_of (decode cX10_guardLine) da_241 19 rfl
theorem dX10_guardLine_37 : decode cX10_guardLine 37 = .ok (.istore_n 2, 1) := dec_of (decode cX10_guardLine) da_241 20 rfl
theorem dX10_guardLine_38 : decode cX10_guardLine 38 = .ok (.aload_n 0, 1) := dec_of (decode cX10_guardLine) da_241 21 rfl
theorem dX10_guardLine_39 : decode cX10_guardLine 39 = .ok (.getfield 208, 3) := dec_of (decode cX10_guardLine) da_241 22 rfl
theorem dX10_guardLine_42 : decode cX10_guardLine 42 = .ok (.ifCond .ne 13, 3) := dec_of (decode cX10_guardLine) da_241 23 rfl
theorem dX10_guardLine_45 : decode cX10_guardLine 45 = .ok (.iload_n 1, 1) := dec_of (decode cX10_guardLine) da_241 24 rfl
theorem dX10_guardLine_46 : decode cX10_guardLine 46 = .ok (.iload_n 2, 1) := dec_of (decode cX10_guardLine) da_241 25 rfl
theorem dX10_guardLine_47 : decode cX10_guardLine 47 = .ok (.if_icmp .ne 8, 3) := dec_of (decode cX10_guardLine) da_241 26 rfl
theorem dX10_guardLine_50 : decode cX10_guardLine 50 = .ok (.aload_n 0, 1) := dec_of (decode cX10_guardLine) da_241 27 rfl
theorem dX10_guardLine_51 : decode cX10_guardLine 51 = .ok (.iconst 5, 1) := dec_of (decode cX10_guardLine) da_241 28 rfl
theorem dX10_guardLine_52 : decode cX10_guardLine 52 = .ok (.invokevirtual 217, 3) := dec_of (decode cX10_guardLine) da_241 29 rfl
theorem dX10_guardLine_55 : decode cX10_guardLine 55 = .ok (.aload_n 0, 1) := dec_of (decode cX10_guardLine) da_241 30 rfl
theorem dX10_guardLine_56 : decode cX10_guardLine 56 = .ok (.getfield 208, 3) := dec_of (decode cX10_guardLine) da_241 31 rfl
theorem dX10_guardLine_59 : decode cX10_guardLine 59 = .ok (.ifCond .eq 4, 3) := dec_of (decode cX10_guardLine) da_241 32 rfl
theorem dX10_guardLine_62 : decode cX10_guardLine 62 = .ok (.return_, 1) := dec_of (decode cX10_guardLine) da_241 33 rfl
theorem dX10_guardLine_63 : decode cX10_guardLine 63 = .ok (.aload_n 0, 1) := dec_of (decode cX10_guardLine) da_241 34 rfl
theorem dX10_guardLine_64 : decode cX10_guardLine 64 = .ok (.getfield 43, 3) := dec_of (decode cX10_guardLine) da_241 35 rfl
theorem dX10_guardLine_67 : decode cX10_guardLine 67 = .ok (.bipush 8, 2) := dec_of (decode cX10_guardLine) da_241 36 rfl
theorem dX10_guardLine_69 : decode cX10_guardLine 69 = .ok (.iload_n 1, 1) := dec_of (decode cX10_guardLine) da_241 37 rfl
theorem dX10_guardLine_70 : decode cX10_guardLine 70 = .ok (.iadd, 1) := dec_of (decode cX10_guardLine) da_241 38 rfl
theorem dX10_guardLine_71 : decode cX10_guardLine 71 = .ok (.iload_n 2, 1) := dec_of (decode cX10_guardLine) da_241 39 rfl
abbrev dl_242 : List (Nat × Except DecodeError (Instr × Nat)) := [(72, .ok (.iconst 1, 1)), (73, .ok (.iadd, 1)), (74, .ok (.iastore, 1)), (75, .ok (.aload_n 0, 1)), (76, .ok (.invokevirtual 214, 3)), (79, .ok (.return_, 1))]
theorem da_242 : dl_242.all (fun q => decide (decode cX10_guardLine q.1 = q.2)) = true := by decide +kernel
theorem dX10_guardLine_72 : decode cX10_guardLine 72 = .ok (.iconst 1, 1) := dec_of (decode cX10_guardLine) da_242 0 rfl
theorem dX10_guardLine_73 : decode cX10_guardLine 73 = .ok (.iadd, 1) := dec_of (decode cX10_guardLine) da_242 1 rfl
theorem dX10_guardLine_74 : decode cX10_guardLine 74 = .ok (.iastore, 1) := dec_of (decode cX10_guardLine) da_242 2 rfl
theorem dX10_guardLine_75 : decode cX10_guardLine 75 = .ok (.aload_n 0, 1) := dec_of (decode cX10_guardLine) da_242 3 rfl
theorem dX10_guardLine_76 : decode cX10_guardLine 76 = .ok (.invokevirtual 214, 3) := dec_of (decode cX10_guardLine) da_242 4 rfl
theorem dX10_guardLine_79 : decode cX10_guardLine 79 = .ok (.return_, 1) := dec_of (decode cX10_guardLine) da_242 5 rfl
abbrev dl_243 : List (Nat × Except DecodeError (Instr × Nat)) := [(0, .ok (.aload_n 0, 1)), (1, .ok (.getfield 173, 3)), (4, .ok (.ifCond .ne 21, 3)), (7, .ok (.aload_n 0, 1)), (8, .ok (.getfield 183, 3)), (11, .ok (.bipush 10, 2)), (13, .ok (.if_icmp .lt 12, 3)), (16, .ok (.aload_n 0, 1)), (17, .ok (.getfield 183, 3)), (20, .ok (.bipush 12, 2)), (22, .ok (.if_icmp .le 8, 3)), (25, .ok (.aload_n 0, 1)), (26, .ok (.iconst 1, 1)), (27, .ok (.invokevirtual 217, 3)), (30, .ok (.aload_n 0, 1)), (31, .ok (.getfield 183, 3)), (34, .ok (.bipush 10, 2)), (36, .ok (.isub, 1)), (37, .ok (.istore_n 1, 1)), (38, .ok (.aload_n 0, 1)), (39, .ok (.getfield 208, 3)), (42, .ok (.ifCond .ne 23, 3)), (45, .ok (.aload_n 0, 1)), (46, .ok (.getfield 228, 3)), (49, .ok (.bipush 12, 2)), (51, .ok (.iload_n 1, 1)), (52, .ok (.iadd, 1)), (53, .ok (.ishr, 1)), (54, .ok (.iconst 1, 1)), (55, .ok (.iand, 1)), (56, .ok (.iconst 1, 1)), (57, .ok (.if_icmp .ne 8, 3)), (60, .ok (.aload_n 0, 1)), (61, .ok (.iconst 3, 1)), (62, .ok (.invokevirtual 217, 3)), (65, .ok (.aload_n 0, 1)), (66, .ok (.getfield 208, 3)), (69, .ok (.ifCond .eq 4, 3)), (72, .ok (.return_, 1)), (73, .ok (.aload_n 0, 1))]
theorem da_243 : dl_243.all (fun q => decide (decode cX10_powerLine q.1 = q.2)) = true := by decide +kernel
theorem dX10_powerLine_0 : decode cX10_powerLine 0 = .ok (.aload_n 0, 1) := dec_of (decode cX10_powerLine) da_243 0 rfl
theorem dX10_powerLine_1 : decode cX10_powerLine 1 = .ok (.getfield 173, 3) := dec_of (decode cX10_powerLine) da_243 1 rfl
theorem dX10_powerLine_4 : decode cX10_powerLine 4 = .ok (.ifCond .ne 21, 3) := dec_of (decode cX10_powerLine) da_243 2 rfl
theorem dX10_powerLine_7 : decode cX10_powerLine 7 = .ok (.aload_n 0, 1) := dec_of (decode cX10_powerLine) da_243 3 rfl
theorem dX10_powerLine_8 : decode cX10_powerLine 8 = .ok (.getfield 183, 3) := dec_of (decode cX10_powerLine) da_243 4 rfl
theorem dX10_powerLine_11 : decode cX10_powerLine 11 = .ok (.bipush 10, 2) := dec_of (decode cX10_powerLine) da_243 5 rfl
theorem dX10_powerLine_13 : decode cX10_powerLine 13 = .ok (.if_icmp .lt 12, 3) := dec_of (decode cX10_powerLine) da_243 6 rfl
theorem dX10_powerLine_16 : decode cX10_powerLine 16 = .ok (.aload_n 0, 1) := dec_of (decode cX10_powerLine) da_243 7 rfl
theorem dX10_powerLine_17 : decode cX10_powerLine 17 = .ok (.getfield 183, 3) := dec_of (decode cX10_powerLine) da_243 8 rfl
theorem dX10_powerLine_20 : decode cX10_powerLine 20 = .ok (.bipush 12, 2) := dec_of (decode cX10_powerLine) da_243 9 rfl
theorem dX10_powerLine_22 : decode cX10_powerLine 22 = .ok (.if_icmp .le 8, 3) := dec_of (decode cX10_powerLine) da_243 10 rfl
theorem dX10_powerLine_25 : decode cX10_powerLine 25 = .ok (.aload_n 0, 1) := dec_of (decode cX10_powerLine) da_243 11 rfl
theorem dX10_powerLine_26 : decode cX10_powerLine 26 = .ok (.iconst 1, 1) := dec_of (decode cX10_powerLine) da_243 12 rfl
theorem dX10_powerLine_27 : decode cX10_powerLine 27 = .ok (.invokevirtual 217, 3) := dec_of (decode cX10_powerLine) da_243 13 rfl
theorem dX10_powerLine_30 : decode cX10_powerLine 30 = .ok (.aload_n 0, 1) := dec_of (decode cX10_powerLine) da_243 14 rfl
theorem dX10_powerLine_31 : decode cX10_powerLine 31 = .ok (.getfield 183, 3) := dec_of (decode cX10_powerLine) da_243 15 rfl
theorem dX10_powerLine_34 : decode cX10_powerLine 34 = .ok (.bipush 10, 2) := dec_of (decode cX10_powerLine) da_243 16 rfl
theorem dX10_powerLine_36 : decode cX10_powerLine 36 = .ok (.isub, 1) := dec_of (decode cX10_powerLine) da_243 17 rfl
theorem dX10_powerLine_37 : decode cX10_powerLine 37 = .ok (.istore_n 1, 1) := dec_of (decode cX10_powerLine) da_243 18 rfl
theorem dX10_powerLine_38 : decode cX10_powerLine 38 = .ok (.aload_n 0, 1) := dec_of (decode cX10_powerLine) da_243 19 rfl
theorem dX10_powerLine_39 : decode cX10_powerLine 39 = .ok (.getfield 208, 3) := dec_of (decode cX10_powerLine) da_243 20 rfl
theorem dX10_powerLine_42 : decode cX10_powerLine 42 = .ok (.ifCond .ne 23, 3) := dec_of (decode cX10_powerLine) da_243 21 rfl
theorem dX10_powerLine_45 : decode cX10_powerLine 45 = .ok (.aload_n 0, 1) := dec_of (decode cX10_powerLine) da_243 22 rfl
theorem dX10_powerLine_46 : decode cX10_powerLine 46 = .ok (.getfield 228, 3) := dec_of (decode cX10_powerLine) da_243 23 rfl
theorem dX10_powerLine_49 : decode cX10_powerLine 49 = .ok (.bipush 12, 2) := dec_of (decode cX10_powerLine) da_243 24 rfl
theorem dX10_powerLine_51 : decode cX10_powerLine 51 = .ok (.iload_n 1, 1) := dec_of (decode cX10_powerLine) da_243 25 rfl
theorem dX10_powerLine_52 : decode cX10_powerLine 52 = .ok (.iadd, 1) := dec_of (decode cX10_powerLine) da_243 26 rfl
theorem dX10_powerLine_53 : decode cX10_powerLine 53 = .ok (.ishr, 1) := dec_of (decode cX10_powerLine) da_243 27 rfl
theorem dX10_powerLine_54 : decode cX10_powerLine 54 = .ok (.iconst 1, 1) := dec_of (decode cX10_powerLine) da_243 28 rfl
theorem dX10_powerLine_55 : decode cX10_powerLine 55 = .ok (.iand, 1) := dec_of (decode cX10_powerLine) da_243 29 rfl
theorem dX10_powerLine_56 : decode cX10_powerLine 56 = .ok (.iconst 1, 1) := dec_of (decode cX10_powerLine) da_243 30 rfl
theorem dX10_powerLine_57 : decode cX10_powerLine 57 = .ok (.if_icmp .ne 8, 3) := dec_of (decode cX10_powerLine) da_243 31 rfl
theorem dX10_powerLine_60 : decode cX10_powerLine 60 = .ok (.aload_n 0, 1) := dec_of (decode cX10_powerLine) da_243 32 rfl
theorem dX10_powerLine_61 : decode cX10_powerLine 61 = .ok (.iconst 3, 1) := dec_of (decode cX10_powerLine) da_243 33 rfl
theorem dX10_powerLine_62 : decode cX10_powerLine 62 = .ok (.invokevirtual 217, 3) := dec_of (decode cX10_powerLine) da_243 34 rfl
theorem dX10_powerLine_65 : decode cX10_powerLine 65 = .ok (.aload_n 0, 1) := dec_of (decode cX10_powerLine) da_243 35 rfl
theorem dX10_powerLine_66 : decode cX10_powerLine 66 = .ok (.getfield 208, 3) := dec_of (decode cX10_powerLine) da_243 36 rfl
theorem dX10_powerLine_69 : decode cX10_powerLine 69 = .ok (.ifCond .eq 4, 3) := dec_of (decode cX10_powerLine) da_243 37 rfl
theorem dX10_powerLine_72 : decode cX10_powerLine 72 = .ok (.return_, 1) := dec_of (decode cX10_powerLine) da_243 38 rfl
theorem dX10_powerLine_73 : decode cX10_powerLine 73 = .ok (.aload_n 0, 1) := dec_of (decode cX10_powerLine) da_243 39 rfl
abbrev dl_244 : List (Nat × Except DecodeError (Instr × Nat)) := [(74, .ok (.dup, 1)), (75, .ok (.getfield 228, 3)), (78, .ok (.iconst 1, 1)), (79, .ok (.bipush 12, 2)), (81, .ok (.iload_n 1, 1)), (82, .ok (.iadd, 1)), (83, .ok (.ishl, 1)), (84, .ok (.ior, 1)), (85, .ok (.putfield 228, 3)), (88, .ok (.aload_n 0, 1)), (89, .ok (.invokevirtual 214, 3)), (92, .ok (.aload_n 0, 1)), (93, .ok (.bipush 8, 2)), (95, .ok (.iload_n 1, 1)), (96, .ok (.iadd, 1)), (97, .ok (.aload_n 0, 1)), (98, .ok (.iconst 0, 1)), (99, .ok (.bipush 7, 2)), (101, .ok (.invokevirtual 240, 3)), (104, .ok (.invokevirtual 244, 3)), (107, .ok (.return_, 1))]
theorem da_244 : dl_244.all (fun q => decide (decode cX10_powerLine q.1 = q.2)) = true := by decide +kernel
theorem dX10_powerLine_74 : decode cX10_powerLine 74 = .ok (.dup, 1) := dec_of (decode cX10_powerLine) da_244 0 rfl
theorem dX10_powerLine_75 : decode cX10_powerLine 75 = .ok (.getfield 228, 3) := dec_of (decode cX10_powerLine) da_244 1 rfl
theorem dX10_powerLine_78 : decode cX10_powerLine 78 = .ok (.iconst 1, 1) := dec_of (decode cX10_powerLine) da_244 2 rfl
theorem dX10_powerLine_79 : decode cX10_powerLine 79 = .ok (.bipush 12, 2) := dec_of (decode cX10_powerLine) da_244 3 rfl
theorem dX10_powerLine_81 : decode cX10_powerLine 81 = .ok (.iload_n 1, 1) := dec_of (decode cX10_powerLine) da_244 4 rfl
theorem dX10_powerLine_82 : decode cX10_powerLine 82 = .ok (.iadd, 1) := dec_of (decode cX10_powerLine) da_244 5 rfl
theorem dX10_powerLine_83 : decode cX10_powerLine 83 = .ok (.ishl, 1) := dec_of (decode cX10_powerLine) da_244 6 rfl
theorem dX10_powerLine_84 : decode cX10_powerLine 84 = .ok (.ior, 1) := dec_of (decode cX10_powerLine) da_244 7 rfl
theorem dX10_powerLine_85 : decode cX10_powerLine 85 = .ok (.putfield 228, 3) := dec_of (decode cX10_powerLine) da_244 8 rfl
theorem dX10_powerLine_88 : decode cX10_powerLine 88 = .ok (.aload_n 0, 1) := dec_of (decode cX10_powerLine) da_244 9 rfl
theorem dX10_powerLine_89 : decode cX10_powerLine 89 = .ok (.invokevirtual 214, 3) := dec_of (decode cX10_powerLine) da_244 10 rfl
theorem dX10_powerLine_92 : decode cX10_powerLine 92 = .ok (.aload_n 0, 1) := dec_of (decode cX10_powerLine) da_244 11 rfl
theorem dX10_powerLine_93 : decode cX10_powerLine 93 = .ok (.bipush 8, 2) := dec_of (decode cX10_powerLine) da_244 12 rfl
theorem dX10_powerLine_95 : decode cX10_powerLine 95 = .ok (.iload_n 1, 1) := dec_of (decode cX10_powerLine) da_244 13 rfl
theorem dX10_powerLine_96 : decode cX10_powerLine 96 = .ok (.iadd, 1) := dec_of (decode cX10_powerLine) da_244 14 rfl
theorem dX10_powerLine_97 : decode cX10_powerLine 97 = .ok (.aload_n 0, 1) := dec_of (decode cX10_powerLine) da_244 15 rfl
theorem dX10_powerLine_98 : decode cX10_powerLine 98 = .ok (.iconst 0, 1) := dec_of (decode cX10_powerLine) da_244 16 rfl
theorem dX10_powerLine_99 : decode cX10_powerLine 99 = .ok (.bipush 7, 2) := dec_of (decode cX10_powerLine) da_244 17 rfl
theorem dX10_powerLine_101 : decode cX10_powerLine 101 = .ok (.invokevirtual 240, 3) := dec_of (decode cX10_powerLine) da_244 18 rfl
theorem dX10_powerLine_104 : decode cX10_powerLine 104 = .ok (.invokevirtual 244, 3) := dec_of (decode cX10_powerLine) da_244 19 rfl
theorem dX10_powerLine_107 : decode cX10_powerLine 107 = .ok (.return_, 1) := dec_of (decode cX10_powerLine) da_244 20 rfl
abbrev dl_245 : List (Nat × Except DecodeError (Instr × Nat)) := [(0, .ok (.aload_n 0, 1)), (1, .ok (.getfield 173, 3)), (4, .ok (.ifCond .ne 21, 3)), (7, .ok (.aload_n 0, 1)), (8, .ok (.getfield 183, 3)), (11, .ok (.bipush 13, 2)), (13, .ok (.if_icmp .lt 12, 3)), (16, .ok (.aload_n 0, 1)), (17, .ok (.getfield 183, 3)), (20, .ok (.bipush 15, 2)), (22, .ok (.if_icmp .le 8, 3)), (25, .ok (.aload_n 0, 1)), (26, .ok (.iconst 1, 1)), (27, .ok (.invokevirtual 217, 3)), (30, .ok (.aload_n 0, 1)), (31, .ok (.getfield 183, 3)), (34, .ok (.bipush 13, 2)), (36, .ok (.isub, 1)), (37, .ok (.istore_n 1, 1)), (38, .ok (.aload_n 0, 1)), (39, .ok (.getfield 208, 3)), (42, .ok (.ifCond .ne 23, 3)), (45, .ok (.aload_n 0, 1)), (46, .ok (.getfield 228, 3)), (49, .ok (.bipush 16, 2)), (51, .ok (.iload_n 1, 1)), (52, .ok (.iadd, 1)), (53, .ok (.ishr, 1)), (54, .ok (.iconst 1, 1)), (55, .ok (.iand, 1)), (56, .ok (.iconst 1, 1)), (57, .ok (.if_icmp .ne 8, 3)), (60, .ok (.aload_n 0, 1)), (61, .ok (.iconst 3, 1)), (62, .ok (.invokevirtual 217, 3)), (65, .ok (.aload_n 0, 1)), (66, .ok (.getfield 208, 3)), (69, .ok (.ifCond .eq 4, 3)), (72, .ok (.return_, 1)), (73, .ok (.aload_n 0, 1))]
theorem da_245 : dl_245.all (fun q => decide (decode cX10_lawLine q.1 = q.2)) = true := by decide +kernel
theorem dX10_lawLine_0 : decode cX10_lawLine 0 = .ok (.aload_n 0, 1) := dec_of (decode cX10_lawLine) da_245 0 rfl
theorem dX10_lawLine_1 : decode cX10_lawLine 1 = .ok (.getfield 173, 3) := dec_of (decode cX10_lawLine) da_245 1 rfl
theorem dX10_lawLine_4 : decode cX10_lawLine 4 = .ok (.ifCond .ne 21, 3) := dec_of (decode cX10_lawLine) da_245 2 rfl
theorem dX10_lawLine_7 : decode cX10_lawLine 7 = .ok (.aload_n 0, 1) := dec_of (decode cX10_lawLine) da_245 3 rfl
theorem dX10_lawLine_8 : decode cX10_lawLine 8 = .ok (.getfield 183, 3) := dec_of (decode cX10_lawLine) da_245 4 rfl
theorem dX10_lawLine_11 : decode cX10_lawLine 11 = .ok (.bipush 13, 2) := dec_of (decode cX10_lawLine) da_245 5 rfl
theorem dX10_lawLine_13 : decode cX10_lawLine 13 = .ok (.if_icmp .lt 12, 3) := dec_of (decode cX10_lawLine) da_245 6 rfl
theorem dX10_lawLine_16 : decode cX10_lawLine 16 = .ok (.aload_n 0, 1) := dec_of (decode cX10_lawLine) da_245 7 rfl
theorem dX10_lawLine_17 : decode cX10_lawLine 17 = .ok (.getfield 183, 3) := dec_of (decode cX10_lawLine) da_245 8 rfl
theorem dX10_lawLine_20 : decode cX10_lawLine 20 = .ok (.bipush 15, 2) := dec_of (decode cX10_lawLine) da_245 9 rfl
theorem dX10_lawLine_22 : decode cX10_lawLine 22 = .ok (.if_icmp .le 8, 3) := dec_of (decode cX10_lawLine) da_245 10 rfl
theorem dX10_lawLine_25 : decode cX10_lawLine 25 = .ok (.aload_n 0, 1) := dec_of (decode cX10_lawLine) da_245 11 rfl
theorem dX10_lawLine_26 : decode cX10_lawLine 26 = .ok (.iconst 1, 1) := dec_of (decode cX10_lawLine) da_245 12 rfl
theorem dX10_lawLine_27 : decode cX10_lawLine 27 = .ok (.invokevirtual 217, 3) := dec_of (decode cX10_lawLine) da_245 13 rfl
theorem dX10_lawLine_30 : decode cX10_lawLine 30 = .ok (.aload_n 0, 1) := dec_of (decode cX10_lawLine) da_245 14 rfl
theorem dX10_lawLine_31 : decode cX10_lawLine 31 = .ok (.getfield 183, 3) := dec_of (decode cX10_lawLine) da_245 15 rfl
theorem dX10_lawLine_34 : decode cX10_lawLine 34 = .ok (.bipush 13, 2) := dec_of (decode cX10_lawLine) da_245 16 rfl
theorem dX10_lawLine_36 : decode cX10_lawLine 36 = .ok (.isub, 1) := dec_of (decode cX10_lawLine) da_245 17 rfl
theorem dX10_lawLine_37 : decode cX10_lawLine 37 = .ok (.istore_n 1, 1) := dec_of (decode cX10_lawLine) da_245 18 rfl
theorem dX10_lawLine_38 : decode cX10_lawLine 38 = .ok (.aload_n 0, 1) := dec_of (decode cX10_lawLine) da_245 19 rfl
theorem dX10_lawLine_39 : decode cX10_lawLine 39 = .ok (.getfield 208, 3) := dec_of (decode cX10_lawLine) da_245 20 rfl
theorem dX10_lawLine_42 : decode cX10_lawLine 42 = .ok (.ifCond .ne 23, 3) := dec_of (decode cX10_lawLine) da_245 21 rfl
theorem dX10_lawLine_45 : decode cX10_lawLine 45 = .ok (.aload_n 0, 1) := dec_of (decode cX10_lawLine) da_245 22 rfl
theorem dX10_lawLine_46 : decode cX10_lawLine 46 = .ok (.getfield 228, 3) := dec_of (decode cX10_lawLine) da_245 23 rfl
theorem dX10_lawLine_49 : decode cX10_lawLine 49 = .ok (.bipush 16, 2) := dec_of (decode cX10_lawLine) da_245 24 rfl
theorem dX10_lawLine_51 : decode cX10_lawLine 51 = .ok (.iload_n 1, 1) := dec_of (decode cX10_lawLine) da_245 25 rfl
theorem dX10_lawLine_52 : decode cX10_lawLine 52 = .ok (.iadd, 1) := dec_of (decode cX10_lawLine) da_245 26 rfl
theorem dX10_lawLine_53 : decode cX10_lawLine 53 = .ok (.ishr, 1) := dec_of (decode cX10_lawLine) da_245 27 rfl
theorem dX10_lawLine_54 : decode cX10_lawLine 54 = .ok (.iconst 1, 1) := dec_of (decode cX10_lawLine) da_245 28 rfl
theorem dX10_lawLine_55 : decode cX10_lawLine 55 = .ok (.iand, 1) := dec_of (decode cX10_lawLine) da_245 29 rfl
theorem dX10_lawLine_56 : decode cX10_lawLine 56 = .ok (.iconst 1, 1) := dec_of (decode cX10_lawLine) da_245 30 rfl
theorem dX10_lawLine_57 : decode cX10_lawLine 57 = .ok (.if_icmp .ne 8, 3) := dec_of (decode cX10_lawLine) da_245 31 rfl
theorem dX10_lawLine_60 : decode cX10_lawLine 60 = .ok (.aload_n 0, 1) := dec_of (decode cX10_lawLine) da_245 32 rfl
theorem dX10_lawLine_61 : decode cX10_lawLine 61 = .ok (.iconst 3, 1) := dec_of (decode cX10_lawLine) da_245 33 rfl
theorem dX10_lawLine_62 : decode cX10_lawLine 62 = .ok (.invokevirtual 217, 3) := dec_of (decode cX10_lawLine) da_245 34 rfl
theorem dX10_lawLine_65 : decode cX10_lawLine 65 = .ok (.aload_n 0, 1) := dec_of (decode cX10_lawLine) da_245 35 rfl
theorem dX10_lawLine_66 : decode cX10_lawLine 66 = .ok (.getfield 208, 3) := dec_of (decode cX10_lawLine) da_245 36 rfl
theorem dX10_lawLine_69 : decode cX10_lawLine 69 = .ok (.ifCond .eq 4, 3) := dec_of (decode cX10_lawLine) da_245 37 rfl
theorem dX10_lawLine_72 : decode cX10_lawLine 72 = .ok (.return_, 1) := dec_of (decode cX10_lawLine) da_245 38 rfl
theorem dX10_lawLine_73 : decode cX10_lawLine 73 = .ok (.aload_n 0, 1) := dec_of (decode cX10_lawLine) da_245 39 rfl
abbrev dl_246 : List (Nat × Except DecodeError (Instr × Nat)) := [(74, .ok (.dup, 1)), (75, .ok (.getfield 228, 3)), (78, .ok (.iconst 1, 1)), (79, .ok (.bipush 16, 2)), (81, .ok (.iload_n 1, 1)), (82, .ok (.iadd, 1)), (83, .ok (.ishl, 1)), (84, .ok (.ior, 1)), (85, .ok (.putfield 228, 3)), (88, .ok (.aload_n 0, 1)), (89, .ok (.invokevirtual 214, 3)), (92, .ok (.aload_n 0, 1)), (93, .ok (.getfield 46, 3)), (96, .ok (.iconst 3, 1)), (97, .ok (.iload_n 1, 1)), (98, .ok (.iadd, 1)), (99, .ok (.aload_n 0, 1)), (100, .ok (.bipush 7, 2)), (102, .ok (.invokevirtual 224, 3)), (105, .ok (.iastore, 1)), (106, .ok (.aload_n 0, 1)), (107, .ok (.invokevirtual 270, 3)), (110, .ok (.aload_n 0, 1)), (111, .ok (.getfield 49, 3)), (114, .ok (.iconst 3, 1)), (115, .ok (.iload_n 1, 1)), (116, .ok (.iadd, 1)), (117, .ok (.aload_n 0, 1)), (118, .ok (.bipush 7, 2)), (120, .ok (.invokevirtual 224, 3)), (123, .ok (.iastore, 1)), (124, .ok (.return_, 1))]
theorem da_246 : dl_246.all (fun q => decide (decode cX10_lawLine q.1 = q.2)) = true := by decide +kernel
theorem dX10_lawLine_74 : decode cX10_lawLine 74 = .ok (.dup, 1) := dec_of (decode cX10_lawLine) da_246 0 rfl
theorem dX10_lawLine_75 : decode cX10_lawLine 75 = .ok (.getfield 228, 3) := dec_of (decode cX10_lawLine) da_246 1 rfl
theorem dX10_lawLine_78 : decode cX10_lawLine 78 = .ok (.iconst 1, 1) := dec_of (decode cX10_lawLine) da_246 2 rfl
theorem dX10_lawLine_79 : decode cX10_lawLine 79 = .ok (.bipush 16, 2) := dec_of (decode cX10_lawLine) da_246 3 rfl
theorem dX10_lawLine_81 : decode cX10_lawLine 81 = .ok (.iload_n 1, 1) := dec_of (decode cX10_lawLine) da_246 4 rfl
theorem dX10_lawLine_82 : decode cX10_lawLine 82 = .ok (.iadd, 1) := dec_of (decode cX10_lawLine) da_246 5 rfl
theorem dX10_lawLine_83 : decode cX10_lawLine 83 = .ok (.ishl, 1) := dec_of (decode cX10_lawLine) da_246 6 rfl
theorem dX10_lawLine_84 : decode cX10_lawLine 84 = .ok (.ior, 1) := dec_of (decode cX10_lawLine) da_246 7 rfl
theorem dX10_lawLine_85 : decode cX10_lawLine 85 = .ok (.putfield 228, 3) := dec_of (decode cX10_lawLine) da_246 8 rfl
theorem dX10_lawLine_88 : decode cX10_lawLine 88 = .ok (.aload_n 0, 1) := dec_of (decode cX10_lawLine) da_246 9 rfl
theorem dX10_lawLine_89 : decode cX10_lawLine 89 = .ok (.invokevirtual 214, 3) := dec_of (decode cX10_lawLine) da_246 10 rfl
theorem dX10_lawLine_92 : decode cX10_lawLine 92 = .ok (.aload_n 0, 1) := dec_of (decode cX10_lawLine) da_246 11 rfl
theorem dX10_lawLine_93 : decode cX10_lawLine 93 = .ok (.getfield 46, 3) := dec_of (decode cX10_lawLine) da_246 12 rfl
theorem dX10_lawLine_96 : decode cX10_lawLine 96 = .ok (.iconst 3, 1) := dec_of (decode cX10_lawLine) da_246 13 rfl
theorem dX10_lawLine_97 : decode cX10_lawLine 97 = .ok (.iload_n 1, 1) := dec_of (decode cX10_lawLine) da_246 14 rfl
theorem dX10_lawLine_98 : decode cX10_lawLine 98 = .ok (.iadd, 1) := dec_of (decode cX10_lawLine) da_246 15 rfl
theorem dX10_lawLine_99 : decode cX10_lawLine 99 = .ok (.aload_n 0, 1) := dec_of (decode cX10_lawLine) da_246 16 rfl
theorem dX10_lawLine_100 : decode cX10_lawLine 100 = .ok (.bipush 7, 2) := dec_of (decode cX10_lawLine) da_246 17 rfl
theorem dX10_lawLine_102 : decode cX10_lawLine 102 = .ok (.invokevirtual 224, 3) := dec_of (decode cX10_lawLine) da_246 18 rfl
theorem dX10_lawLine_105 : decode cX10_lawLine 105 = .ok (.iastore, 1) := dec_of (decode cX10_lawLine) da_246 19 rfl
theorem dX10_lawLine_106 : decode cX10_lawLine 106 = .ok (.aload_n 0, 1) := dec_of (decode cX10_lawLine) da_246 20 rfl
theorem dX10_lawLine_107 : decode cX10_lawLine 107 = .ok (.invokevirtual 270, 3) := dec_of (decode cX10_lawLine) da_246 21 rfl
theorem dX10_lawLine_110 : decode cX10_lawLine 110 = .ok (.aload_n 0, 1) := dec_of (decode cX10_lawLine) da_246 22 rfl
theorem dX10_lawLine_111 : decode cX10_lawLine 111 = .ok (.getfield 49, 3) := dec_of (decode cX10_lawLine) da_246 23 rfl
theorem dX10_lawLine_114 : decode cX10_lawLine 114 = .ok (.iconst 3, 1) := dec_of (decode cX10_lawLine) da_246 24 rfl
theorem dX10_lawLine_115 : decode cX10_lawLine 115 = .ok (.iload_n 1, 1) := dec_of (decode cX10_lawLine) da_246 25 rfl
theorem dX10_lawLine_116 : decode cX10_lawLine 116 = .ok (.iadd, 1) := dec_of (decode cX10_lawLine) da_246 26 rfl
theorem dX10_lawLine_117 : decode cX10_lawLine 117 = .ok (.aload_n 0, 1) := dec_of (decode cX10_lawLine) da_246 27 rfl
theorem dX10_lawLine_118 : decode cX10_lawLine 118 = .ok (.bipush 7, 2) := dec_of (decode cX10_lawLine) da_246 28 rfl
theorem dX10_lawLine_120 : decode cX10_lawLine 120 = .ok (.invokevirtual 224, 3) := dec_of (decode cX10_lawLine) da_246 29 rfl
theorem dX10_lawLine_123 : decode cX10_lawLine 123 = .ok (.iastore, 1) := dec_of (decode cX10_lawLine) da_246 30 rfl
theorem dX10_lawLine_124 : decode cX10_lawLine 124 = .ok (.return_, 1) := dec_of (decode cX10_lawLine) da_246 31 rfl
abbrev dl_247 : List (Nat × Except DecodeError (Instr × Nat)) := [(0, .ok (.aload_n 0, 1)), (1, .ok (.getfield 208, 3)), (4, .ok (.ifCond .eq 4, 3)), (7, .ok (.return_, 1)), (8, .ok (.aload_n 0, 1)), (9, .ok (.getfield 52, 3)), (12, .ok (.bipush 64, 2)), (14, .ok (.aload_n 0, 1)), (15, .ok (.bipush 7, 2)), (17, .ok (.invokevirtual 224, 3)), (20, .ok (.iadd, 1)), (21, .ok (.iload_n 1, 1)), (22, .ok (.iastore, 1)), (23, .ok (.aload_n 0, 1)), (24, .ok (.getfield 55, 3)), (27, .ok (.bipush 64, 2)), (29, .ok (.aload_n 0, 1)), (30, .ok (.bipush 7, 2)), (32, .ok (.invokevirtual 224, 3)), (35, .ok (.iadd, 1)), (36, .ok (.iload_n 2, 1)), (37, .ok (.iastore, 1)), (38, .ok (.aload_n 0, 1)), (39, .ok (.bipush 7, 2)), (41, .ok (.aload_n 0, 1)), (42, .ok (.bipush 7, 2)), (44, .ok (.invokevirtual 224, 3)), (47, .ok (.iconst 1, 1)), (48, .ok (.iadd, 1)), (49, .ok (.invokevirtual 244, 3)), (52, .ok (.return_, 1))]
theorem da_247 : dl_247.all (fun q => decide (decode cX10_puts q.1 = q.2)) = true := by decide +kernel
theorem dX10_puts_0 : decode cX10_puts 0 = .ok (.aload_n 0, 1) := dec_of (decode cX10_puts) da_247 0 rfl
theorem dX10_puts_1 : decode cX10_puts 1 = .ok (.getfield 208, 3) := dec_of (decode cX10_puts) da_247 1 rfl
theorem dX10_puts_4 : decode cX10_puts 4 = .ok (.ifCond .eq 4, 3) := dec_of (decode cX10_puts) da_247 2 rfl
theorem dX10_puts_7 : decode cX10_puts 7 = .ok (.return_, 1) := dec_of (decode cX10_puts) da_247 3 rfl
theorem dX10_puts_8 : decode cX10_puts 8 = .ok (.aload_n 0, 1) := dec_of (decode cX10_puts) da_247 4 rfl
theorem dX10_puts_9 : decode cX10_puts 9 = .ok (.getfield 52, 3) := dec_of (decode cX10_puts) da_247 5 rfl
theorem dX10_puts_12 : decode cX10_puts 12 = .ok (.bipush 64, 2) := dec_of (decode cX10_puts) da_247 6 rfl
theorem dX10_puts_14 : decode cX10_puts 14 = .ok (.aload_n 0, 1) := dec_of (decode cX10_puts) da_247 7 rfl
theorem dX10_puts_15 : decode cX10_puts 15 = .ok (.bipush 7, 2) := dec_of (decode cX10_puts) da_247 8 rfl
theorem dX10_puts_17 : decode cX10_puts 17 = .ok (.invokevirtual 224, 3) := dec_of (decode cX10_puts) da_247 9 rfl
theorem dX10_puts_20 : decode cX10_puts 20 = .ok (.iadd, 1) := dec_of (decode cX10_puts) da_247 10 rfl
theorem dX10_puts_21 : decode cX10_puts 21 = .ok (.iload_n 1, 1) := dec_of (decode cX10_puts) da_247 11 rfl
theorem dX10_puts_22 : decode cX10_puts 22 = .ok (.iastore, 1) := dec_of (decode cX10_puts) da_247 12 rfl
theorem dX10_puts_23 : decode cX10_puts 23 = .ok (.aload_n 0, 1) := dec_of (decode cX10_puts) da_247 13 rfl
theorem dX10_puts_24 : decode cX10_puts 24 = .ok (.getfield 55, 3) := dec_of (decode cX10_puts) da_247 14 rfl
theorem dX10_puts_27 : decode cX10_puts 27 = .ok (.bipush 64, 2) := dec_of (decode cX10_puts) da_247 15 rfl
theorem dX10_puts_29 : decode cX10_puts 29 = .ok (.aload_n 0, 1) := dec_of (decode cX10_puts) da_247 16 rfl
theorem dX10_puts_30 : decode cX10_puts 30 = .ok (.bipush 7, 2) := dec_of (decode cX10_puts) da_247 17 rfl
theorem dX10_puts_32 : decode cX10_puts 32 = .ok (.invokevirtual 224, 3) := dec_of (decode cX10_puts) da_247 18 rfl
theorem dX10_puts_35 : decode cX10_puts 35 = .ok (.iadd, 1) := dec_of (decode cX10_puts) da_247 19 rfl
theorem dX10_puts_36 : decode cX10_puts 36 = .ok (.iload_n 2, 1) := dec_of (decode cX10_puts) da_247 20 rfl
theorem dX10_puts_37 : decode cX10_puts 37 = .ok (.iastore, 1) := dec_of (decode cX10_puts) da_247 21 rfl
theorem dX10_puts_38 : decode cX10_puts 38 = .ok (.aload_n 0, 1) := dec_of (decode cX10_puts) da_247 22 rfl
theorem dX10_puts_39 : decode cX10_puts 39 = .ok (.bipush 7, 2) := dec_of (decode cX10_puts) da_247 23 rfl
theorem dX10_puts_41 : decode cX10_puts 41 = .ok (.aload_n 0, 1) := dec_of (decode cX10_puts) da_247 24 rfl
theorem dX10_puts_42 : decode cX10_puts 42 = .ok (.bipush 7, 2) := dec_of (decode cX10_puts) da_247 25 rfl
theorem dX10_puts_44 : decode cX10_puts 44 = .ok (.invokevirtual 224, 3) := dec_of (decode cX10_puts) da_247 26 rfl
theorem dX10_puts_47 : decode cX10_puts 47 = .ok (.iconst 1, 1) := dec_of (decode cX10_puts) da_247 27 rfl
theorem dX10_puts_48 : decode cX10_puts 48 = .ok (.iadd, 1) := dec_of (decode cX10_puts) da_247 28 rfl
theorem dX10_puts_49 : decode cX10_puts 49 = .ok (.invokevirtual 244, 3) := dec_of (decode cX10_puts) da_247 29 rfl
theorem dX10_puts_52 : decode cX10_puts 52 = .ok (.return_, 1) := dec_of (decode cX10_puts) da_247 30 rfl
abbrev dl_248 : List (Nat × Except DecodeError (Instr × Nat)) := [(0, .ok (.aload_n 0, 1)), (1, .ok (.getfield 208, 3)), (4, .ok (.ifCond .eq 4, 3)), (7, .ok (.return_, 1)), (8, .ok (.aload_n 0, 1)), (9, .ok (.getfield 273, 3)), (12, .ok (.bipush 64, 2)), (14, .ok (.if_icmp .ne 11, 3)), (17, .ok (.aload_n 0, 1)), (18, .ok (.iconst 2, 1)), (19, .ok (.invokevirtual 217, 3)), (22, .ok (.goto 13, 3)), (25, .ok (.aload_n 0, 1)), (26, .ok (.dup, 1)), (27, .ok (.getfield 273, 3)), (30, .ok (.iconst 1, 1)), (31, .ok (.iadd, 1)), (32, .ok (.putfield 273, 3)), (35, .ok (.return_, 1))]
theorem da_248 : dl_248.all (fun q => decide (decode cX10_knot q.1 = q.2)) = true := by decide +kernel
theorem dX10_knot_0 : decode cX10_knot 0 = .ok (.aload_n 0, 1) := dec_of (decode cX10_knot) da_248 0 rfl
theorem dX10_knot_1 : decode cX10_knot 1 = .ok (.getfield 208, 3) := dec_of (decode cX10_knot) da_248 1 rfl
theorem dX10_knot_4 : decode cX10_knot 4 = .ok (.ifCond .eq 4, 3) := dec_of (decode cX10_knot) da_248 2 rfl
theorem dX10_knot_7 : decode cX10_knot 7 = .ok (.return_, 1) := dec_of (decode cX10_knot) da_248 3 rfl
theorem dX10_knot_8 : decode cX10_knot 8 = .ok (.aload_n 0, 1) := dec_of (decode cX10_knot) da_248 4 rfl
theorem dX10_knot_9 : decode cX10_knot 9 = .ok (.getfield 273, 3) := dec_of (decode cX10_knot) da_248 5 rfl
theorem dX10_knot_12 : decode cX10_knot 12 = .ok (.bipush 64, 2) := dec_of (decode cX10_knot) da_248 6 rfl
theorem dX10_knot_14 : decode cX10_knot 14 = .ok (.if_icmp .ne 11, 3) := dec_of (decode cX10_knot) da_248 7 rfl
theorem dX10_knot_17 : decode cX10_knot 17 = .ok (.aload_n 0, 1) := dec_of (decode cX10_knot) da_248 8 rfl
theorem dX10_knot_18 : decode cX10_knot 18 = .ok (.iconst 2, 1) := dec_of (decode cX10_knot) da_248 9 rfl
theorem dX10_knot_19 : decode cX10_knot 19 = .ok (.invokevirtual 217, 3) := dec_of (decode cX10_knot) da_248 10 rfl
theorem dX10_knot_22 : decode cX10_knot 22 = .ok (.goto 13, 3) := dec_of (decode cX10_knot) da_248 11 rfl
theorem dX10_knot_25 : decode cX10_knot 25 = .ok (.aload_n 0, 1) := dec_of (decode cX10_knot) da_248 12 rfl
theorem dX10_knot_26 : decode cX10_knot 26 = .ok (.dup, 1) := dec_of (decode cX10_knot) da_248 13 rfl
theorem dX10_knot_27 : decode cX10_knot 27 = .ok (.getfield 273, 3) := dec_of (decode cX10_knot) da_248 14 rfl
theorem dX10_knot_30 : decode cX10_knot 30 = .ok (.iconst 1, 1) := dec_of (decode cX10_knot) da_248 15 rfl
theorem dX10_knot_31 : decode cX10_knot 31 = .ok (.iadd, 1) := dec_of (decode cX10_knot) da_248 16 rfl
theorem dX10_knot_32 : decode cX10_knot 32 = .ok (.putfield 273, 3) := dec_of (decode cX10_knot) da_248 17 rfl
theorem dX10_knot_35 : decode cX10_knot 35 = .ok (.return_, 1) := dec_of (decode cX10_knot) da_248 18 rfl
abbrev dl_249 : List (Nat × Except DecodeError (Instr × Nat)) := [(0, .ok (.aload_n 0, 1)), (1, .ok (.invokevirtual 276, 3)), (4, .ok (.aload_n 0, 1)), (5, .ok (.bipush 16, 2)), (7, .ok (.invokevirtual 261, 3)), (10, .ok (.ifCond .eq 26, 3)), (13, .ok (.aload_n 0, 1)), (14, .ok (.invokevirtual 279, 3)), (17, .ok (.aload_n 0, 1)), (18, .ok (.invokevirtual 267, 3)), (21, .ok (.aload_n 0, 1)), (22, .ok (.invokevirtual 276, 3)), (25, .ok (.aload_n 0, 1)), (26, .ok (.iconst 2, 1)), (27, .ok (.sipush 262, 3)), (30, .ok (.invokevirtual 282, 3)), (33, .ok (.goto (-29), 3)), (36, .ok (.return_, 1))]
theorem da_249 : dl_249.all (fun q => decide (decode cX10_expression q.1 = q.2)) = true := by decide +kernel
theorem dX10_expression_0 : decode cX10_expression 0 = .ok (.aload_n 0, 1) := dec_of (decode cX10_expression) da_249 0 rfl
theorem dX10_expression_1 : decode cX10_expression 1 = .ok (.invokevirtual 276, 3) := dec_of (decode cX10_expression) da_249 1 rfl
theorem dX10_expression_4 : decode cX10_expression 4 = .ok (.aload_n 0, 1) := dec_of (decode cX10_expression) da_249 2 rfl
theorem dX10_expression_5 : decode cX10_expression 5 = .ok (.bipush 16, 2) := dec_of (decode cX10_expression) da_249 3 rfl
theorem dX10_expression_7 : decode cX10_expression 7 = .ok (.invokevirtual 261, 3) := dec_of (decode cX10_expression) da_249 4 rfl
theorem dX10_expression_10 : decode cX10_expression 10 = .ok (.ifCond .eq 26, 3) := dec_of (decode cX10_expression) da_249 5 rfl
theorem dX10_expression_13 : decode cX10_expression 13 = .ok (.aload_n 0, 1) := dec_of (decode cX10_expression) da_249 6 rfl
theorem dX10_expression_14 : decode cX10_expression 14 = .ok (.invokevirtual 279, 3) := dec_of (decode cX10_expression) da_249 7 rfl
theorem dX10_expression_17 : decode cX10_expression 17 = .ok (.aload_n 0, 1) := dec_of (decode cX10_expression) da_249 8 rfl
theorem dX10_expression_18 : decode cX10_expression 18 = .ok (.invokevirtual 267, 3) := dec_of (decode cX10_expression) da_249 9 rfl
theorem dX10_expression_21 : decode cX10_expression 21 = .ok (.aload_n 0, 1) := dec_of (decode cX10_expression) da_249 10 rfl
theorem dX10_expression_22 : decode cX10_expression 22 = .ok (.invokevirtual 276, 3) := dec_of (decode cX10_expression) da_249 11 rfl
theorem dX10_expression_25 : decode cX10_expression 25 = .ok (.aload_n 0, 1) := dec_of (decode cX10_expression) da_249 12 rfl
theorem dX10_expression_26 : decode cX10_expression 26 = .ok (.iconst 2, 1) := dec_of (decode cX10_expression) da_249 13 rfl
theorem dX10_expression_27 : decode cX10_expression 27 = .ok (.sipush 262, 3) := dec_of (decode cX10_expression) da_249 14 rfl
theorem dX10_expression_30 : decode cX10_expression 30 = .ok (.invokevirtual 282, 3) := dec_of (decode cX10_expression) da_249 15 rfl
theorem dX10_expression_33 : decode cX10_expression 33 = .ok (.goto (-29), 3) := dec_of (decode cX10_expression) da_249 16 rfl
theorem dX10_expression_36 : decode cX10_expression 36 = .ok (.return_, 1) := dec_of (decode cX10_expression) da_249 17 rfl
abbrev dl_250 : List (Nat × Except DecodeError (Instr × Nat)) := [(0, .ok (.aload_n 0, 1)), (1, .ok (.invokevirtual 285, 3)), (4, .ok (.aload_n 0, 1)), (5, .ok (.bipush 17, 2)), (7, .ok (.invokevirtual 261, 3)), (10, .ok (.ifCond .eq 26, 3)), (13, .ok (.aload_n 0, 1)), (14, .ok (.invokevirtual 279, 3)), (17, .ok (.aload_n 0, 1)), (18, .ok (.invokevirtual 267, 3)), (21, .ok (.aload_n 0, 1)), (22, .ok (.invokevirtual 285, 3)), (25, .ok (.aload_n 0, 1)), (26, .ok (.iconst 2, 1)), (27, .ok (.sipush 261, 3)), (30, .ok (.invokevirtual 282, 3)), (33, .ok (.goto (-29), 3)), (36, .ok (.return_, 1))]
theorem da_250 : dl_250.all (fun q => decide (decode cX10_conjunction q.1 = q.2)) = true := by decide +kernel
theorem dX10_conjunction_0 : decode cX10_conjunction 0 = .ok (.aload_n 0, 1) := dec_of (decode cX10_conjunction) da_250 0 rfl
theorem dX10_conjunction_1 : decode cX10_conjunction 1 = .ok (.invokevirtual 285, 3) := dec_of (decode cX10_conjunction) da_250 1 rfl
theorem dX10_conjunction_4 : decode cX10_conjunction 4 = .ok (.aload_n 0, 1) := dec_of (decode cX10_conjunction) da_250 2 rfl
theorem dX10_conjunction_5 : decode cX10_conjunction 5 = .ok (.bipush 17, 2) := dec_of (decode cX10_conjunction) da_250 3 rfl
theorem dX10_conjunction_7 : decode cX10_conjunction 7 = .ok (.invokevirtual 261, 3) := dec_of (decode cX10_conjunction) da_250 4 rfl
theorem dX10_conjunction_10 : decode cX10_conjunction 10 = .ok (.ifCond .eq 26, 3) := dec_of (decode cX10_conjunction) da_250 5 rfl
theorem dX10_conjunction_13 : decode cX10_conjunction 13 = .ok (.aload_n 0, 1) := dec_of (decode cX10_conjunction) da_250 6 rfl
theorem dX10_conjunction_14 : decode cX10_conjunction 14 = .ok (.invokevirtual 279, 3) := dec_of (decode cX10_conjunction) da_250 7 rfl
theorem dX10_conjunction_17 : decode cX10_conjunction 17 = .ok (.aload_n 0, 1) := dec_of (decode cX10_conjunction) da_250 8 rfl
theorem dX10_conjunction_18 : decode cX10_conjunction 18 = .ok (.invokevirtual 267, 3) := dec_of (decode cX10_conjunction) da_250 9 rfl
theorem dX10_conjunction_21 : decode cX10_conjunction 21 = .ok (.aload_n 0, 1) := dec_of (decode cX10_conjunction) da_250 10 rfl
theorem dX10_conjunction_22 : decode cX10_conjunction 22 = .ok (.invokevirtual 285, 3) := dec_of (decode cX10_conjunction) da_250 11 rfl
theorem dX10_conjunction_25 : decode cX10_conjunction 25 = .ok (.aload_n 0, 1) := dec_of (decode cX10_conjunction) da_250 12 rfl
theorem dX10_conjunction_26 : decode cX10_conjunction 26 = .ok (.iconst 2, 1) := dec_of (decode cX10_conjunction) da_250 13 rfl
theorem dX10_conjunction_27 : decode cX10_conjunction 27 = .ok (.sipush 261, 3) := dec_of (decode cX10_conjunction) da_250 14 rfl
theorem dX10_conjunction_30 : decode cX10_conjunction 30 = .ok (.invokevirtual 282, 3) := dec_of (decode cX10_conjunction) da_250 15 rfl
theorem dX10_conjunction_33 : decode cX10_conjunction 33 = .ok (.goto (-29), 3) := dec_of (decode cX10_conjunction) da_250 16 rfl
theorem dX10_conjunction_36 : decode cX10_conjunction 36 = .ok (.return_, 1) := dec_of (decode cX10_conjunction) da_250 17 rfl
abbrev dl_251 : List (Nat × Except DecodeError (Instr × Nat)) := [(0, .ok (.aload_n 0, 1)), (1, .ok (.bipush 18, 2)), (3, .ok (.invokevirtual 261, 3)), (6, .ok (.ifCond .eq 24, 3)), (9, .ok (.aload_n 0, 1)), (10, .ok (.invokevirtual 279, 3)), (13, .ok (.aload_n 0, 1)), (14, .ok (.invokevirtual 267, 3)), (17, .ok (.aload_n 0, 1)), (18, .ok (.invokevirtual 285, 3)), (21, .ok (.aload_n 0, 1)), (22, .ok (.iconst 2, 1)), (23, .ok (.sipush 260, 3)), (26, .ok (.invokevirtual 282, 3)), (29, .ok (.return_, 1)), (30, .ok (.aload_n 0, 1)), (31, .ok (.invokevirtual 288, 3)), (34, .ok (.aload_n 0, 1)), (35, .ok (.getfield 208, 3)), (38, .ok (.ifCond .ne 48, 3)), (41, .ok (.aload_n 0, 1)), (42, .ok (.getfield 173, 3)), (45, .ok (.iconst 3, 1)), (46, .ok (.if_icmp .ne 40, 3)), (49, .ok (.aload_n 0, 1)), (50, .ok (.getfield 183, 3)), (53, .ok (.bipush 60, 2)), (55, .ok (.if_icmp .eq 32, 3)), (58, .ok (.aload_n 0, 1)), (59, .ok (.getfield 183, 3)), (62, .ok (.bipush 62, 2)), (64, .ok (.if_icmp .eq 23, 3)), (67, .ok (.aload_n 0, 1)), (68, .ok (.getfield 183, 3)), (71, .ok (.bipush 61, 2)), (73, .ok (.if_icmp .eq 14, 3)), (76, .ok (.aload_n 0, 1)), (77, .ok (.getfield 183, 3)), (80, .ok (.sipush 256, 3)), (83, .ok (.if_icmp .ge 4, 3))]
theorem da_251 : dl_251.all (fun q => decide (decode cX10_negation q.1 = q.2)) = true := by decide +kernel
theorem dX10_negation_0 : decode cX10_negation 0 = .ok (.aload_n 0, 1) := dec_of (decode cX10_negation) da_251 0 rfl
theorem dX10_negation_1 : decode cX10_negation 1 = .ok (.bipush 18, 2) := dec_of (decode cX10_negation) da_251 1 rfl
theorem dX10_negation_3 : decode cX10_negation 3 = .ok (.invokevirtual 261, 3) := dec_of (decode cX10_negation) da_251 2 rfl
theorem dX10_negation_6 : decode cX10_negation 6 = .ok (.ifCond .eq 24, 3) := dec_of (decode cX10_negation) da_251 3 rfl
theorem dX10_negation_9 : decode cX10_negation 9 = .ok (.aload_n 0, 1) := dec_of (decode cX10_negation) da_251 4 rfl
theorem dX10_negation_10 : decode cX10_negation 10 = .ok (.invokevirtual 279, 3) := dec_of (decode cX10_negation) da_251 5 rfl
theorem dX10_negation_13 : decode cX10_negation 13 = .ok (.aload_n 0, 1) := dec_of (decode cX10_negation) da_251 6 rfl
theorem dX10_negation_14 : decode cX10_negation 14 = .ok (.invokevirtual 267, 3) := dec_of (decode cX10_negation) da_251 7 rfl
theorem dX10_negation_17 : decode cX10_negation 17 = .ok (.aload_n 0, 1) := dec_of (decode cX10_negation) da_251 8 rfl
theorem dX10_negation_18 : decode cX10_negation 18 = .ok (.invokevirtual 285, 3) := dec_of (decode cX10_negation) da_251 9 rfl
theorem dX10_negation_21 : decode cX10_negation 21 = .ok (.aload_n 0, 1) := dec_of (decode cX10_negation) da_251 10 rfl
theorem dX10_negation_22 : decode cX10_negation 22 = .ok (.iconst 2, 1) := dec_of (decode cX10_negation) da_251 11 rfl
theorem dX10_negation_23 : decode cX10_negation 23 = .ok (.sipush 260, 3) := dec_of (decode cX10_negation) da_251 12 rfl
theorem dX10_negation_26 : decode cX10_negation 26 = .ok (.invokevirtual 282, 3) := dec_of (decode cX10_negation) da_251 13 rfl
theorem dX10_negation_29 : decode cX10_negation 29 = .ok (.return_, 1) := dec_of (decode cX10_negation) da_251 14 rfl
theorem dX10_negation_30 : decode cX10_negation 30 = .ok (.aload_n 0, 1) := dec_of (decode cX10_negation) da_251 15 rfl
theorem dX10_negation_31 : decode cX10_negation 31 = .ok (.invokevirtual 288, 3) := dec_of (decode cX10_negation) da_251 16 rfl
theorem dX10_negation_34 : decode cX10_negation 34 = .ok (.aload_n 0, 1) := dec_of (decode cX10_negation) da_251 17 rfl
theorem dX10_negation_35 : decode cX10_negation 35 = .ok (.getfield 208, 3) := dec_of (decode cX10_negation) da_251 18 rfl
theorem dX10_negation_38 : decode cX10_negation 38 = .ok (.ifCond .ne 48, 3) := dec_of (decode cX10_negation) da_251 19 rfl
theorem dX10_negation_41 : decode cX10_negation 41 = .ok (.aload_n 0, 1) := dec_of (decode cX10_negation) da_251 20 rfl
theorem dX10_negation_42 : decode cX10_negation 42 = .ok (.getfield 173, 3) := dec_of (decode cX10_negation) da_251 21 rfl
theorem dX10_negation_45 : decode cX10_negation 45 = .ok (.iconst 3, 1) := dec_of (decode cX10_negation) da_251 22 rfl
theorem dX10_negation_46 : decode cX10_negation 46 = .ok (.if_icmp .ne 40, 3) := dec_of (decode cX10_negation) da_251 23 rfl
theorem dX10_negation_49 : decode cX10_negation 49 = .ok (.aload_n 0, 1) := dec_of (decode cX10_negation) da_251 24 rfl
theorem dX10_negation_50 : decode cX10_negation 50 = .ok (.getfield 183, 3) := dec_of (decode cX10_negation) da_251 25 rfl
theorem dX10_negation_53 : decode cX10_negation 53 = .ok (.bipush 60, 2) := dec_of (decode cX10_negation) da_251 26 rfl
theorem dX10_negation_55 : decode cX10_negation 55 = .ok (.if_icmp .eq 32, 3) := dec_of (decode cX10_negation) da_251 27 rfl
theorem dX10_negation_58 : decode cX10_negation 58 = .ok (.aload_n 0, 1) := dec_of (decode cX10_negation) da_251 28 rfl
theorem dX10_negation_59 : decode cX10_negation 59 = .ok (.getfield 183, 3) := dec_of (decode cX10_negation) da_251 29 rfl
theorem dX10_negation_62 : decode cX10_negation 62 = .ok (.bipush 62, 2) := dec_of (decode cX10_negation) da_251 30 rfl
theorem dX10_negation_64 : decode cX10_negation 64 = .ok (.if_icmp .eq 23, 3) := dec_of (decode cX10_negation) da_251 31 rfl
theorem dX10_negation_67 : decode cX10_negation 67 = .ok (.aload_n 0, 1) := dec_of (decode cX10_negation) da_251 32 rfl
theorem dX10_negation_68 : decode cX10_negation 68 = .ok (.getfield 183, 3) := dec_of (decode cX10_negation) da_251 33 rfl
theorem dX10_negation_71 : decode cX10_negation 71 = .ok (.bipush 61, 2) := dec_of (decode cX10_negation) da_251 34 rfl
theorem dX10_negation_73 : decode cX10_negation 73 = .ok (.if_icmp .eq 14, 3) := dec_of (decode cX10_negation) da_251 35 rfl
theorem dX10_negation_76 : decode cX10_negation 76 = .ok (.aload_n 0, 1) := dec_of (decode cX10_negation) da_251 36 rfl
theorem dX10_negation_77 : decode cX10_negation 77 = .ok (.getfield 183, 3) := dec_of (decode cX10_negation) da_251 37 rfl
theorem dX10_negation_80 : decode cX10_negation 80 = .ok (.sipush 256, 3) := dec_of (decode cX10_negation) da_251 38 rfl
theorem dX10_negation_83 : decode cX10_negation 83 = .ok (.if_icmp .ge 4, 3) := dec_of (decode cX10_negation) da_251 39 rfl
abbrev dl_252 : List (Nat × Except DecodeError (Instr × Nat)) := [(86, .ok (.return_, 1)), (87, .ok (.aload_n 0, 1)), (88, .ok (.getfield 183, 3)), (91, .ok (.istore_n 1, 1)), (92, .ok (.aload_n 0, 1)), (93, .ok (.invokevirtual 279, 3)), (96, .ok (.aload_n 0, 1)), (97, .ok (.invokevirtual 267, 3)), (100, .ok (.aload_n 0, 1)), (101, .ok (.invokevirtual 288, 3)), (104, .ok (.aload_n 0, 1)), (105, .ok (.iconst 2, 1)), (106, .ok (.iload_n 1, 1)), (107, .ok (.invokevirtual 282, 3)), (110, .ok (.return_, 1))]
theorem da_252 : dl_252.all (fun q => decide (decode cX10_negation q.1 = q.2)) = true := by decide +kernel
theorem dX10_negation_86 : decode cX10_negation 86 = .ok (.return_, 1) := dec_of (decode cX10_negation) da_252 0 rfl
theorem dX10_negation_87 : decode cX10_negation 87 = .ok (.aload_n 0, 1) := dec_of (decode cX10_negation) da_252 1 rfl
theorem dX10_negation_88 : decode cX10_negation 88 = .ok (.getfield 183, 3) := dec_of (decode cX10_negation) da_252 2 rfl
theorem dX10_negation_91 : decode cX10_negation 91 = .ok (.istore_n 1, 1) := dec_of (decode cX10_negation) da_252 3 rfl
theorem dX10_negation_92 : decode cX10_negation 92 = .ok (.aload_n 0, 1) := dec_of (decode cX10_negation) da_252 4 rfl
theorem dX10_negation_93 : decode cX10_negation 93 = .ok (.invokevirtual 279, 3) := dec_of (decode cX10_negation) da_252 5 rfl
theorem dX10_negation_96 : decode cX10_negation 96 = .ok (.aload_n 0, 1) := dec_of (decode cX10_negation) da_252 6 rfl
theorem dX10_negation_97 : decode cX10_negation 97 = .ok (.invokevirtual 267, 3) := dec_of (decode cX10_negation) da_252 7 rfl
theorem dX10_negation_100 : decode cX10_negation 100 = .ok (.aload_n 0, 1) := dec_of (decode cX10_negation) da_252 8 rfl
theorem dX10_negation_101 : decode cX10_negation 101 = .ok (.invokevirtual 288, 3) := dec_of (decode cX10_negation) da_252 9 rfl
theorem dX10_negation_104 : decode cX10_negation 104 = .ok (.aload_n 0, 1) := dec_of (decode cX10_negation) da_252 10 rfl
theorem dX10_negation_105 : decode cX10_negation 105 = .ok (.iconst 2, 1) := dec_of (decode cX10_negation) da_252 11 rfl
theorem dX10_negation_106 : decode cX10_negation 106 = .ok (.iload_n 1, 1) := dec_of (decode cX10_negation) da_252 12 rfl
theorem dX10_negation_107 : decode cX10_negation 107 = .ok (.invokevirtual 282, 3) := dec_of (decode cX10_negation) da_252 13 rfl
theorem dX10_negation_110 : decode cX10_negation 110 = .ok (.return_, 1) := dec_of (decode cX10_negation) da_252 14 rfl
abbrev dl_253 : List (Nat × Except DecodeError (Instr × Nat)) := [(0, .ok (.aload_n 0, 1)), (1, .ok (.invokevirtual 291, 3)), (4, .ok (.aload_n 0, 1)), (5, .ok (.bipush 43, 2)), (7, .ok (.invokevirtual 251, 3)), (10, .ok (.ifCond .ne 12, 3)), (13, .ok (.aload_n 0, 1)), (14, .ok (.bipush 45, 2)), (16, .ok (.invokevirtual 251, 3)), (19, .ok (.ifCond .eq 29, 3)), (22, .ok (.aload_n 0, 1)), (23, .ok (.getfield 183, 3)), (26, .ok (.istore_n 1, 1)), (27, .ok (.aload_n 0, 1)), (28, .ok (.invokevirtual 279, 3)), (31, .ok (.aload_n 0, 1)), (32, .ok (.invokevirtual 267, 3)), (35, .ok (.aload_n 0, 1)), (36, .ok (.invokevirtual 291, 3)), (39, .ok (.aload_n 0, 1)), (40, .ok (.iconst 2, 1)), (41, .ok (.iload_n 1, 1)), (42, .ok (.invokevirtual 282, 3)), (45, .ok (.goto (-41), 3)), (48, .ok (.return_, 1))]
theorem da_253 : dl_253.all (fun q => decide (decode cX10_sum q.1 = q.2)) = true := by decide +kernel
theorem dX10_sum_0 : decode cX10_sum 0 = .ok (.aload_n 0, 1) := dec_of (decode cX10_sum) da_253 0 rfl
theorem dX10_sum_1 : decode cX10_sum 1 = .ok (.invokevirtual 291, 3) := dec_of (decode cX10_sum) da_253 1 rfl
theorem dX10_sum_4 : decode cX10_sum 4 = .ok (.aload_n 0, 1) := dec_of (decode cX10_sum) da_253 2 rfl
theorem dX10_sum_5 : decode cX10_sum 5 = .ok (.bipush 43, 2) := dec_of (decode cX10_sum) da_253 3 rfl
theorem dX10_sum_7 : decode cX10_sum 7 = .ok (.invokevirtual 251, 3) := dec_of (decode cX10_sum) da_253 4 rfl
theorem dX10_sum_10 : decode cX10_sum 10 = .ok (.ifCond .ne 12, 3) := dec_of (decode cX10_sum) da_253 5 rfl
theorem dX10_sum_13 : decode cX10_sum 13 = .ok (.aload_n 0, 1) := dec_of (decode cX10_sum) da_253 6 rfl
theorem dX10_sum_14 : decode cX10_sum 14 = .ok (.bipush 45, 2) := dec_of (decode cX10_sum) da_253 7 rfl
theorem dX10_sum_16 : decode cX10_sum 16 = .ok (.invokevirtual 251, 3) := dec_of (decode cX10_sum) da_253 8 rfl
theorem dX10_sum_19 : decode cX10_sum 19 = .ok (.ifCond .eq 29, 3) := dec_of (decode cX10_sum) da_253 9 rfl
theorem dX10_sum_22 : decode cX10_sum 22 = .ok (.aload_n 0, 1) := dec_of (decode cX10_sum) da_253 10 rfl
theorem dX10_sum_23 : decode cX10_sum 23 = .ok (.getfield 183, 3) := dec_of (decode cX10_sum) da_253 11 rfl
theorem dX10_sum_26 : decode cX10_sum 26 = .ok (.istore_n 1, 1) := dec_of (decode cX10_sum) da_253 12 rfl
theorem dX10_sum_27 : decode cX10_sum 27 = .ok (.aload_n 0, 1) := dec_of (decode cX10_sum) da_253 13 rfl
theorem dX10_sum_28 : decode cX10_sum 28 = .ok (.invokevirtual 279, 3) := dec_of (decode cX10_sum) da_253 14 rfl
theorem dX10_sum_31 : decode cX10_sum 31 = .ok (.aload_n 0, 1) := dec_of (decode cX10_sum) da_253 15 rfl
theorem dX10_sum_32 : decode cX10_sum 32 = .ok (.invokevirtual 267, 3) := dec_of (decode cX10_sum) da_253 16 rfl
theorem dX10_sum_35 : decode cX10_sum 35 = .ok (.aload_n 0, 1) := dec_of (decode cX10_sum) da_253 17 rfl
theorem dX10_sum_36 : decode cX10_sum 36 = .ok (.invokevirtual 291, 3) := dec_of (decode cX10_sum) da_253 18 rfl
theorem dX10_sum_39 : decode cX10_sum 39 = .ok (.aload_n 0, 1) := dec_of (decode cX10_sum) da_253 19 rfl
theorem dX10_sum_40 : decode cX10_sum 40 = .ok (.iconst 2, 1) := dec_of (decode cX10_sum) da_253 20 rfl
theorem dX10_sum_41 : decode cX10_sum 41 = .ok (.iload_n 1, 1) := dec_of (decode cX10_sum) da_253 21 rfl
theorem dX10_sum_42 : decode cX10_sum 42 = .ok (.invokevirtual 282, 3) := dec_of (decode cX10_sum) da_253 22 rfl
theorem dX10_sum_45 : decode cX10_sum 45 = .ok (.goto (-41), 3) := dec_of (decode cX10_sum) da_253 23 rfl
theorem dX10_sum_48 : decode cX10_sum 48 = .ok (.return_, 1) := dec_of (decode cX10_sum) da_253 24 rfl
abbrev dl_254 : List (Nat × Except DecodeError (Instr × Nat)) := [(0, .ok (.aload_n 0, 1)), (1, .ok (.invokevirtual 294, 3)), (4, .ok (.aload_n 0, 1)), (5, .ok (.bipush 42, 2)), (7, .ok (.invokevirtual 251, 3)), (10, .ok (.ifCond .ne 12, 3)), (13, .ok (.aload_n 0, 1)), (14, .ok (.bipush 47, 2)), (16, .ok (.invokevirtual 251, 3)), (19, .ok (.ifCond .eq 29, 3)), (22, .ok (.aload_n 0, 1)), (23, .ok (.getfield 183, 3)), (26, .ok (.istore_n 1, 1)), (27, .ok (.aload_n 0, 1)), (28, .ok (.invokevirtual 279, 3)), (31, .ok (.aload_n 0, 1)), (32, .ok (.invokevirtual 267, 3)), (35, .ok (.aload_n 0, 1)), (36, .ok (.invokevirtual 294, 3)), (39, .ok (.aload_n 0, 1)), (40, .ok (.iconst 2, 1)), (41, .ok (.iload_n 1, 1)), (42, .ok (.invokevirtual 282, 3)), (45, .ok (.goto (-41), 3)), (48, .ok (.return_, 1))]
theorem da_254 : dl_254.all (fun q => decide (decode cX10_product q.1 = q.2)) = true := by decide +kernel
theorem dX10_product_0 : decode cX10_product 0 = .ok (.aload_n 0, 1) := dec_of (decode cX10_product) da_254 0 rfl
theorem dX10_product_1 : decode cX10_product 1 = .ok (.invokevirtual 294, 3) := dec_of (decode cX10_product) da_254 1 rfl
theorem dX10_product_4 : decode cX10_product 4 = .ok (.aload_n 0, 1) := dec_of (decode cX10_product) da_254 2 rfl
theorem dX10_product_5 : decode cX10_product 5 = .ok (.bipush 42, 2) := dec_of (decode cX10_product) da_254 3 rfl
theorem dX10_product_7 : decode cX10_product 7 = .ok (.invokevirtual 251, 3) := dec_of (decode cX10_product) da_254 4 rfl
theorem dX10_product_10 : decode cX10_product 10 = .ok (.ifCond .ne 12, 3) := dec_of (decode cX10_product) da_254 5 rfl
theorem dX10_product_13 : decode cX10_product 13 = .ok (.aload_n 0, 1) := dec_of (decode cX10_product) da_254 6 rfl
theorem dX10_product_14 : decode cX10_product 14 = .ok (.bipush 47, 2) := dec_of (decode cX10_product) da_254 7 rfl
theorem dX10_product_16 : decode cX10_product 16 = .ok (.invokevirtual 251, 3) := dec_of (decode cX10_product) da_254 8 rfl
theorem dX10_product_19 : decode cX10_product 19 = .ok (.ifCond .eq 29, 3) := dec_of (decode cX10_product) da_254 9 rfl
theorem dX10_product_22 : decode cX10_product 22 = .ok (.aload_n 0, 1) := dec_of (decode cX10_product) da_254 10 rfl
theorem dX10_product_23 : decode cX10_product 23 = .ok (.getfield 183, 3) := dec_of (decode cX10_product) da_254 11 rfl
theorem dX10_product_26 : decode cX10_product 26 = .ok (.istore_n 1, 1) := dec_of (decode cX10_product) da_254 12 rfl
theorem dX10_product_27 : decode cX10_product 27 = .ok (.aload_n 0, 1) := dec_of (decode cX10_product) da_254 13 rfl
theorem dX10_product_28 : decode cX10_product 28 = .ok (.invokevirtual 279, 3) := dec_of (decode cX10_product) da_254 14 rfl
theorem dX10_product_31 : decode cX10_product 31 = .ok (.aload_n 0, 1) := dec_of (decode cX10_product) da_254 15 rfl
theorem dX10_product_32 : decode cX10_product 32 = .ok (.invokevirtual 267, 3) := dec_of (decode cX10_product) da_254 16 rfl
theorem dX10_product_35 : decode cX10_product 35 = .ok (.aload_n 0, 1) := dec_of (decode cX10_product) da_254 17 rfl
theorem dX10_product_36 : decode cX10_product 36 = .ok (.invokevirtual 294, 3) := dec_of (decode cX10_product) da_254 18 rfl
theorem dX10_product_39 : decode cX10_product 39 = .ok (.aload_n 0, 1) := dec_of (decode cX10_product) da_254 19 rfl
theorem dX10_product_40 : decode cX10_product 40 = .ok (.iconst 2, 1) := dec_of (decode cX10_product) da_254 20 rfl
theorem dX10_product_41 : decode cX10_product 41 = .ok (.iload_n 1, 1) := dec_of (decode cX10_product) da_254 21 rfl
theorem dX10_product_42 : decode cX10_product 42 = .ok (.invokevirtual 282, 3) := dec_of (decode cX10_product) da_254 22 rfl
theorem dX10_product_45 : decode cX10_product 45 = .ok (.goto (-41), 3) := dec_of (decode cX10_product) da_254 23 rfl
theorem dX10_product_48 : decode cX10_product 48 = .ok (.return_, 1) := dec_of (decode cX10_product) da_254 24 rfl
abbrev dl_255 : List (Nat × Except DecodeError (Instr × Nat)) := [(0, .ok (.aload_n 0, 1)), (1, .ok (.getfield 208, 3)), (4, .ok (.ifCond .eq 4, 3)), (7, .ok (.return_, 1)), (8, .ok (.aload_n 0, 1)), (9, .ok (.bipush 40, 2)), (11, .ok (.invokevirtual 251, 3)), (14, .ok (.ifCond .eq 87, 3)), (17, .ok (.aload_n 0, 1)), (18, .ok (.getfield 297, 3)), (21, .ok (.bipush 8, 2)), (23, .ok (.if_icmp .ne 8, 3)), (26, .ok (.aload_n 0, 1)), (27, .ok (.iconst 2, 1)), (28, .ok (.invokevirtual 217, 3)), (31, .ok (.aload_n 0, 1)), (32, .ok (.getfield 208, 3)), (35, .ok (.ifCond .eq 4, 3)), (38, .ok (.return_, 1)), (39, .ok (.aload_n 0, 1)), (40, .ok (.dup, 1)), (41, .ok (.getfield 297, 3)), (44, .ok (.iconst 1, 1)), (45, .ok (.iadd, 1)), (46, .ok (.putfield 297, 3)), (49, .ok (.aload_n 0, 1)), (50, .ok (.invokevirtual 214, 3)), (53, .ok (.aload_n 0, 1)), (54, .ok (.invokevirtual 270, 3)), (57, .ok (.aload_n 0, 1)), (58, .ok (.getfield 208, 3)), (61, .ok (.ifCond .ne 17, 3)), (64, .ok (.aload_n 0, 1)), (65, .ok (.bipush 41, 2)), (67, .ok (.invokevirtual 251, 3)), (70, .ok (.ifCond .ne 8, 3)), (73, .ok (.aload_n 0, 1)), (74, .ok (.iconst 1, 1)), (75, .ok (.invokevirtual 217, 3)), (78, .ok (.aload_n 0, 1))]
theorem da_255 : dl_255.all (fun q => decide (decode cX10_primary q.1 = q.2)) = true := by decide +kernel
theorem dX10_primary_0 : decode cX10_primary 0 = .ok (.aload_n 0, 1) := dec_of (decode cX10_primary) da_255 0 rfl
theorem dX10_primary_1 : decode cX10_primary 1 = .ok (.getfield 208, 3) := dec_of (decode cX10_primary) da_255 1 rfl
theorem dX10_primary_4 : decode cX10_primary 4 = .ok (.ifCond .eq 4, 3) := dec_of (decode cX10_primary) da_255 2 rfl
theorem dX10_primary_7 : decode cX10_primary 7 = .ok (.return_, 1) := dec_of (decode cX10_primary) da_255 3 rfl
theorem dX10_primary_8 : decode cX10_primary 8 = .ok (.aload_n 0, 1) := dec_of (decode cX10_primary) da_255 4 rfl
theorem dX10_primary_9 : decode cX10_primary 9 = .ok (.bipush 40, 2) := dec_of (decode cX10_primary) da_255 5 rfl
theorem dX10_primary_11 : decode cX10_primary 11 = .ok (.invokevirtual 251, 3) := dec_of (decode cX10_primary) da_255 6 rfl
theorem dX10_primary_14 : decode cX10_primary 14 = .ok (.ifCond .eq 87, 3) := dec_of (decode cX10_primary) da_255 7 rfl
theorem dX10_primary_17 : decode cX10_primary 17 = .ok (.aload_n 0, 1) := dec_of (decode cX10_primary) da_255 8 rfl
theorem dX10_primary_18 : decode cX10_primary 18 = .ok (.getfield 297, 3) := dec_of (decode cX10_primary) da_255 9 rfl
theorem dX10_primary_21 : decode cX10_primary 21 = .ok (.bipush 8, 2) := dec_of (decode cX10_primary) da_255 10 rfl
theorem dX10_primary_23 : decode cX10_primary 23 = .ok (.if_icmp .ne 8, 3) := dec_of (decode cX10_primary) da_255 11 rfl
theorem dX10_primary_26 : decode cX10_primary 26 = .ok (.aload_n 0, 1) := dec_of (decode cX10_primary) da_255 12 rfl
theorem dX10_primary_27 : decode cX10_primary 27 = .ok (.iconst 2, 1) := dec_of (decode cX10_primary) da_255 13 rfl
theorem dX10_primary_28 : decode cX10_primary 28 = .ok (.invokevirtual 217, 3) := dec_of (decode cX10_primary) da_255 14 rfl
theorem dX10_primary_31 : decode cX10_primary 31 = .ok (.aload_n 0, 1) := dec_of (decode cX10_primary) da_255 15 rfl
theorem dX10_primary_32 : decode cX10_primary 32 = .ok (.getfield 208, 3) := dec_of (decode cX10_primary) da_255 16 rfl
theorem dX10_primary_35 : decode cX10_primary 35 = .ok (.ifCond .eq 4, 3) := dec_of (decode cX10_primary) da_255 17 rfl
theorem dX10_primary_38 : decode cX10_primary 38 = .ok (.return_, 1) := dec_of (decode cX10_primary) da_255 18 rfl
theorem dX10_primary_39 : decode cX10_primary 39 = .ok (.aload_n 0, 1) := dec_of (decode cX10_primary) da_255 19 rfl
theorem dX10_primary_40 : decode cX10_primary 40 = .ok (.dup, 1) := dec_of (decode cX10_primary) da_255 20 rfl
theorem dX10_primary_41 : decode cX10_primary 41 = .ok (.getfield 297, 3) := dec_of (decode cX10_primary) da_255 21 rfl
theorem dX10_primary_44 : decode cX10_primary 44 = .ok (.iconst 1, 1) := dec_of (decode cX10_primary) da_255 22 rfl
theorem dX10_primary_45 : decode cX10_primary 45 = .ok (.iadd, 1) := dec_of (decode cX10_primary) da_255 23 rfl
theorem dX10_primary_46 : decode cX10_primary 46 = .ok (.putfield 297, 3) := dec_of (decode cX10_primary) da_255 24 rfl
theorem dX10_primary_49 : decode cX10_primary 49 = .ok (.aload_n 0, 1) := dec_of (decode cX10_primary) da_255 25 rfl
theorem dX10_primary_50 : decode cX10_primary 50 = .ok (.invokevirtual 214, 3) := dec_of (decode cX10_primary) da_255 26 rfl
theorem dX10_primary_53 : decode cX10_primary 53 = .ok (.aload_n 0, 1) := dec_of (decode cX10_primary) da_255 27 rfl
theorem dX10_primary_54 : decode cX10_primary 54 = .ok (.invokevirtual 270, 3) := dec_of (decode cX10_primary) da_255 28 rfl
theorem dX10_primary_57 : decode cX10_primary 57 = .ok (.aload_n 0, 1) := dec_of (decode cX10_primary) da_255 29 rfl
theorem dX10_primary_58 : decode cX10_primary 58 = .ok (.getfield 208, 3) := dec_of (decode cX10_primary) da_255 30 rfl
theorem dX10_primary_61 : decode cX10_primary 61 = .ok (.ifCond .ne 17, 3) := dec_of (decode cX10_primary) da_255 31 rfl
theorem dX10_primary_64 : decode cX10_primary 64 = .ok (.aload_n 0, 1) := dec_of (decode cX10_primary) da_255 32 rfl
theorem dX10_primary_65 : decode cX10_primary 65 = .ok (.bipush 41, 2) := dec_of (decode cX10_primary) da_255 33 rfl
theorem dX10_primary_67 : decode cX10_primary 67 = .ok (.invokevirtual 251, 3) := dec_of (decode cX10_primary) da_255 34 rfl
theorem dX10_primary_70 : decode cX10_primary 70 = .ok (.ifCond .ne 8, 3) := dec_of (decode cX10_primary) da_255 35 rfl
theorem dX10_primary_73 : decode cX10_primary 73 = .ok (.aload_n 0, 1) := dec_of (decode cX10_primary) da_255 36 rfl
theorem dX10_primary_74 : decode cX10_primary 74 = .ok (.iconst 1, 1) := dec_of (decode cX10_primary) da_255 37 rfl
theorem dX10_primary_75 : decode cX10_primary 75 = .ok (.invokevirtual 217, 3) := dec_of (decode cX10_primary) da_255 38 rfl
theorem dX10_primary_78 : decode cX10_primary 78 = .ok (.aload_n 0, 1) := dec_of (decode cX10_primary) da_255 39 rfl
abbrev dl_256 : List (Nat × Except DecodeError (Instr × Nat)) := [(79, .ok (.getfield 208, 3)), (82, .ok (.ifCond .eq 4, 3)), (85, .ok (.return_, 1)), (86, .ok (.aload_n 0, 1)), (87, .ok (.dup, 1)), (88, .ok (.getfield 297, 3)), (91, .ok (.iconst 1, 1)), (92, .ok (.isub, 1)), (93, .ok (.putfield 297, 3)), (96, .ok (.aload_n 0, 1)), (97, .ok (.invokevirtual 214, 3)), (100, .ok (.return_, 1)), (101, .ok (.aload_n 0, 1)), (102, .ok (.getfield 173, 3)), (105, .ok (.iconst 2, 1)), (106, .ok (.if_icmp .ne 7, 3)), (109, .ok (.iconst 1, 1)), (110, .ok (.goto 4, 3)), (113, .ok (.iconst 0, 1)), (114, .ok (.istore_n 1, 1)), (115, .ok (.iload_n 1, 1)), (116, .ok (.ifCond .eq 21, 3)), (119, .ok (.aload_n 0, 1)), (120, .ok (.getfield 183, 3)), (123, .ok (.sipush 9999, 3)), (126, .ok (.if_icmp .le 11, 3)), (129, .ok (.aload_n 0, 1)), (130, .ok (.iconst 2, 1)), (131, .ok (.invokevirtual 217, 3)), (134, .ok (.goto 28, 3)), (137, .ok (.iload_n 1, 1)), (138, .ok (.ifCond .ne 24, 3)), (141, .ok (.aload_n 0, 1)), (142, .ok (.getfield 173, 3)), (145, .ok (.ifCond .ne 12, 3)), (148, .ok (.aload_n 0, 1)), (149, .ok (.getfield 183, 3)), (152, .ok (.bipush 19, 2)), (154, .ok (.if_icmp .ge 8, 3)), (157, .ok (.aload_n 0, 1))]
theorem da_256 : dl_256.all (fun q => decide (decode cX10_primary q.1 = q.2)) = true := by decide +kernel
theorem dX10_primary_79 : decode cX10_primary 79 = .ok (.getfield 208, 3) := dec_of (decode cX10_primary) da_256 0 rfl
theorem dX10_primary_82 : decode cX10_primary 82 = .ok (.ifCond .eq 4, 3) := dec_of (decode cX10_primary) da_256 1 rfl
theorem dX10_primary_85 : decode cX10_primary 85 = .ok (.return_, 1) := dec_of (decode cX10_primary) da_256 2 rfl
theorem dX10_primary_86 : decode cX10_primary 86 = .ok (.aload_n 0, 1) := dec_of (decode cX10_primary) da_256 3 rfl
theorem dX10_primary_87 : decode cX10_primary 87 = .ok (.dup, 1) := dec_of (decode cX10_primary) da_256 4 rfl
theorem dX10_primary_88 : decode cX10_primary 88 = .ok (.getfield 297, 3) := dec_of (decode cX10_primary) da_256 5 rfl
theorem dX10_primary_91 : decode cX10_primary 91 = .ok (.iconst 1, 1) := dec_of (decode cX10_primary) da_256 6 rfl
theorem dX10_primary_92 : decode cX10_primary 92 = .ok (.isub, 1) := dec_of (decode cX10_primary) da_256 7 rfl
theorem dX10_primary_93 : decode cX10_primary 93 = .ok (.putfield 297, 3) := dec_of (decode cX10_primary) da_256 8 rfl
theorem dX10_primary_96 : decode cX10_primary 96 = .ok (.aload_n 0, 1) := dec_of (decode cX10_primary) da_256 9 rfl
theorem dX10_primary_97 : decode cX10_primary 97 = .ok (.invokevirtual 214, 3) := dec_of (decode cX10_primary) da_256 10 rfl
theorem dX10_primary_100 : decode cX10_primary 100 = .ok (.return_, 1) := dec_of (decode cX10_primary) da_256 11 rfl
theorem dX10_primary_101 : decode cX10_primary 101 = .ok (.aload_n 0, 1) := dec_of (decode cX10_primary) da_256 12 rfl
theorem dX10_primary_102 : decode cX10_primary 102 = .ok (.getfield 173, 3) := dec_of (decode cX10_primary) da_256 13 rfl
theorem dX10_primary_105 : decode cX10_primary 105 = .ok (.iconst 2, 1) := dec_of (decode cX10_primary) da_256 14 rfl
theorem dX10_primary_106 : decode cX10_primary 106 = .ok (.if_icmp .ne 7, 3) := dec_of (decode cX10_primary) da_256 15 rfl
theorem dX10_primary_109 : decode cX10_primary 109 = .ok (.iconst 1, 1) := dec_of (decode cX10_primary) da_256 16 rfl
theorem dX10_primary_110 : decode cX10_primary 110 = .ok (.goto 4, 3) := dec_of (decode cX10_primary) da_256 17 rfl
theorem dX10_primary_113 : decode cX10_primary 113 = .ok (.iconst 0, 1) := dec_of (decode cX10_primary) da_256 18 rfl
theorem dX10_primary_114 : decode cX10_primary 114 = .ok (.istore_n 1, 1) := dec_of (decode cX10_primary) da_256 19 rfl
theorem dX10_primary_115 : decode cX10_primary 115 = .ok (.iload_n 1, 1) := dec_of (decode cX10_primary) da_256 20 rfl
theorem dX10_primary_116 : decode cX10_primary 116 = .ok (.ifCond .eq 21, 3) := dec_of (decode cX10_primary) da_256 21 rfl
theorem dX10_primary_119 : decode cX10_primary 119 = .ok (.aload_n 0, 1) := dec_of (decode cX10_primary) da_256 22 rfl
theorem dX10_primary_120 : decode cX10_primary 120 = .ok (.getfield 183, 3) := dec_of (decode cX10_primary) da_256 23 rfl
theorem dX10_primary_123 : decode cX10_primary 123 = .ok (.sipush 9999, 3) := dec_of (decode cX10_primary) da_256 24 rfl
theorem dX10_primary_126 : decode cX10_primary 126 = .ok (.if_icmp .le 11, 3) := dec_of (decode cX10_primary) da_256 25 rfl
theorem dX10_primary_129 : decode cX10_primary 129 = .ok (.aload_n 0, 1) := dec_of (decode cX10_primary) da_256 26 rfl
theorem dX10_primary_130 : decode cX10_primary 130 = .ok (.iconst 2, 1) := dec_of (decode cX10_primary) da_256 27 rfl
theorem dX10_primary_131 : decode cX10_primary 131 = .ok (.invokevirtual 217, 3) := dec_of (decode cX10_primary) da_256 28 rfl
theorem dX10_primary_134 : decode cX10_primary 134 = .ok (.goto 28, 3) := dec_of (decode cX10_primary) da_256 29 rfl
theorem dX10_primary_137 : decode cX10_primary 137 = .ok (.iload_n 1, 1) := dec_of (decode cX10_primary) da_256 30 rfl
theorem dX10_primary_138 : decode cX10_primary 138 = .ok (.ifCond .ne 24, 3) := dec_of (decode cX10_primary) da_256 31 rfl
theorem dX10_primary_141 : decode cX10_primary 141 = .ok (.aload_n 0, 1) := dec_of (decode cX10_primary) da_256 32 rfl
theorem dX10_primary_142 : decode cX10_primary 142 = .ok (.getfield 173, 3) := dec_of (decode cX10_primary) da_256 33 rfl
theorem dX10_primary_145 : decode cX10_primary 145 = .ok (.ifCond .ne 12, 3) := dec_of (decode cX10_primary) da_256 34 rfl
theorem dX10_primary_148 : decode cX10_primary 148 = .ok (.aload_n 0, 1) := dec_of (decode cX10_primary) da_256 35 rfl
theorem dX10_primary_149 : decode cX10_primary 149 = .ok (.getfield 183, 3) := dec_of (decode cX10_primary) da_256 36 rfl
theorem dX10_primary_152 : decode cX10_primary 152 = .ok (.bipush 19, 2) := dec_of (decode cX10_primary) da_256 37 rfl
theorem dX10_primary_154 : decode cX10_primary 154 = .ok (.if_icmp .ge 8, 3) := dec_of (decode cX10_primary) da_256 38 rfl
theorem dX10_primary_157 : decode cX10_primary 157 = .ok (.aload_n 0, 1) := dec_of (decode cX10_primary) da_256 39 rfl
abbrev dl_257 : List (Nat × Except DecodeError (Instr × Nat)) := [(158, .ok (.iconst 1, 1)), (159, .ok (.invokevirtual 217, 3)), (162, .ok (.aload_n 0, 1)), (163, .ok (.invokevirtual 279, 3)), (166, .ok (.aload_n 0, 1)), (167, .ok (.iload_n 1, 1)), (168, .ok (.ifCond .eq 7, 3)), (171, .ok (.iconst 0, 1)), (172, .ok (.goto 4, 3)), (175, .ok (.iconst 1, 1)), (176, .ok (.iload_n 1, 1)), (177, .ok (.ifCond .eq 10, 3)), (180, .ok (.aload_n 0, 1)), (181, .ok (.getfield 183, 3)), (184, .ok (.goto 10, 3)), (187, .ok (.aload_n 0, 1)), (188, .ok (.getfield 183, 3)), (191, .ok (.bipush 19, 2)), (193, .ok (.isub, 1)), (194, .ok (.invokevirtual 282, 3)), (197, .ok (.aload_n 0, 1)), (198, .ok (.invokevirtual 267, 3)), (201, .ok (.return_, 1))]
theorem da_257 : dl_257.all (fun q => decide (decode cX10_primary q.1 = q.2)) = true := by decide +kernel
theorem dX10_primary_158 : decode cX10_primary 158 = .ok (.iconst 1, 1) := dec_of (decode cX10_primary) da_257 0 rfl
theorem dX10_primary_159 : decode cX10_primary 159 = .ok (.invokevirtual 217, 3) := dec_of (decode cX10_primary) da_257 1 rfl
theorem dX10_primary_162 : decode cX10_primary 162 = .ok (.aload_n 0, 1) := dec_of (decode cX10_primary) da_257 2 rfl
theorem dX10_primary_163 : decode cX10_primary 163 = .ok (.invokevirtual 279, 3) := dec_of (decode cX10_primary) da_257 3 rfl
theorem dX10_primary_166 : decode cX10_primary 166 = .ok (.aload_n 0, 1) := dec_of (decode cX10_primary) da_257 4 rfl
theorem dX10_primary_167 : decode cX10_primary 167 = .ok (.iload_n 1, 1) := dec_of (decode cX10_primary) da_257 5 rfl
theorem dX10_primary_168 : decode cX10_primary 168 = .ok (.ifCond .eq 7, 3) := dec_of (decode cX10_primary) da_257 6 rfl
theorem dX10_primary_171 : decode cX10_primary 171 = .ok (.iconst 0, 1) := dec_of (decode cX10_primary) da_257 7 rfl
theorem dX10_primary_172 : decode cX10_primary 172 = .ok (.goto 4, 3) := dec_of (decode cX10_primary) da_257 8 rfl
theorem dX10_primary_175 : decode cX10_primary 175 = .ok (.iconst 1, 1) := dec_of (decode cX10_primary) da_257 9 rfl
theorem dX10_primary_176 : decode cX10_primary 176 = .ok (.iload_n 1, 1) := dec_of (decode cX10_primary) da_257 10 rfl
theorem dX10_primary_177 : decode cX10_primary 177 = .ok (.ifCond .eq 10, 3) := dec_of (decode cX10_primary) da_257 11 rfl
theorem dX10_primary_180 : decode cX10_primary 180 = .ok (.aload_n 0, 1) := dec_of (decode cX10_primary) da_257 12 rfl
theorem dX10_primary_181 : decode cX10_primary 181 = .ok (.getfield 183, 3) := dec_of (decode cX10_primary) da_257 13 rfl
theorem dX10_primary_184 : decode cX10_primary 184 = .ok (.goto 10, 3) := dec_of (decode cX10_primary) da_257 14 rfl
theorem dX10_primary_187 : decode cX10_primary 187 = .ok (.aload_n 0, 1) := dec_of (decode cX10_primary) da_257 15 rfl
theorem dX10_primary_188 : decode cX10_primary 188 = .ok (.getfield 183, 3) := dec_of (decode cX10_primary) da_257 16 rfl
theorem dX10_primary_191 : decode cX10_primary 191 = .ok (.bipush 19, 2) := dec_of (decode cX10_primary) da_257 17 rfl
theorem dX10_primary_193 : decode cX10_primary 193 = .ok (.isub, 1) := dec_of (decode cX10_primary) da_257 18 rfl
theorem dX10_primary_194 : decode cX10_primary 194 = .ok (.invokevirtual 282, 3) := dec_of (decode cX10_primary) da_257 19 rfl
theorem dX10_primary_197 : decode cX10_primary 197 = .ok (.aload_n 0, 1) := dec_of (decode cX10_primary) da_257 20 rfl
theorem dX10_primary_198 : decode cX10_primary 198 = .ok (.invokevirtual 267, 3) := dec_of (decode cX10_primary) da_257 21 rfl
theorem dX10_primary_201 : decode cX10_primary 201 = .ok (.return_, 1) := dec_of (decode cX10_primary) da_257 22 rfl
abbrev dl_258 : List (Nat × Except DecodeError (Instr × Nat)) := [(0, .ok (.aload_n 0, 1)), (1, .ok (.arraylength, 1)), (2, .ok (.iconst 2, 1)), (3, .ok (.idiv, 1)), (4, .ok (.istore_n 1, 1)), (5, .ok (.iconst 0, 1)), (6, .ok (.istore_n 2, 1)), (7, .ok (.iload_n 2, 1)), (8, .ok (.iload_n 1, 1)), (9, .ok (.if_icmp .ge 17, 3)), (12, .ok (.aload_n 0, 1)), (13, .ok (.iload_n 2, 1)), (14, .ok (.aload_n 0, 1)), (15, .ok (.iload_n 1, 1)), (16, .ok (.iload_n 2, 1)), (17, .ok (.iadd, 1)), (18, .ok (.iaload, 1)), (19, .ok (.iastore, 1)), (20, .ok (.iinc 2 1, 3)), (23, .ok (.goto (-16), 3)), (26, .ok (.return_, 1))]
theorem da_258 : dl_258.all (fun q => decide (decode cX10_half q.1 = q.2)) = true := by decide +kernel
theorem dX10_half_0 : decode cX10_half 0 = .ok (.aload_n 0, 1) := dec_of (decode cX10_half) da_258 0 rfl
theorem dX10_half_1 : decode cX10_half 1 = .ok (.arraylength, 1) := dec_of (decode cX10_half) da_258 1 rfl
theorem dX10_half_2 : decode cX10_half 2 = .ok (.iconst 2, 1) := dec_of (decode cX10_half) da_258 2 rfl
theorem dX10_half_3 : decode cX10_half 3 = .ok (.idiv, 1) := dec_of (decode cX10_half) da_258 3 rfl
theorem dX10_half_4 : decode cX10_half 4 = .ok (.istore_n 1, 1) := dec_of (decode cX10_half) da_258 4 rfl
theorem dX10_half_5 : decode cX10_half 5 = .ok (.iconst 0, 1) := dec_of (decode cX10_half) da_258 5 rfl
theorem dX10_half_6 : decode cX10_half 6 = .ok (.istore_n 2, 1) := dec_of (decode cX10_half) da_258 6 rfl
theorem dX10_half_7 : decode cX10_half 7 = .ok (.iload_n 2, 1) := dec_of (decode cX10_half) da_258 7 rfl
theorem dX10_half_8 : decode cX10_half 8 = .ok (.iload_n 1, 1) := dec_of (decode cX10_half) da_258 8 rfl
theorem dX10_half_9 : decode cX10_half 9 = .ok (.if_icmp .ge 17, 3) := dec_of (decode cX10_half) da_258 9 rfl
theorem dX10_half_12 : decode cX10_half 12 = .ok (.aload_n 0, 1) := dec_of (decode cX10_half) da_258 10 rfl
theorem dX10_half_13 : decode cX10_half 13 = .ok (.iload_n 2, 1) := dec_of (decode cX10_half) da_258 11 rfl
theorem dX10_half_14 : decode cX10_half 14 = .ok (.aload_n 0, 1) := dec_of (decode cX10_half) da_258 12 rfl
theorem dX10_half_15 : decode cX10_half 15 = .ok (.iload_n 1, 1) := dec_of (decode cX10_half) da_258 13 rfl
theorem dX10_half_16 : decode cX10_half 16 = .ok (.iload_n 2, 1) := dec_of (decode cX10_half) da_258 14 rfl
theorem dX10_half_17 : decode cX10_half 17 = .ok (.iadd, 1) := dec_of (decode cX10_half) da_258 15 rfl
theorem dX10_half_18 : decode cX10_half 18 = .ok (.iaload, 1) := dec_of (decode cX10_half) da_258 16 rfl
theorem dX10_half_19 : decode cX10_half 19 = .ok (.iastore, 1) := dec_of (decode cX10_half) da_258 17 rfl
theorem dX10_half_20 : decode cX10_half 20 = .ok (.iinc 2 1, 3) := dec_of (decode cX10_half) da_258 18 rfl
theorem dX10_half_23 : decode cX10_half 23 = .ok (.goto (-16), 3) := dec_of (decode cX10_half) da_258 19 rfl
theorem dX10_half_26 : decode cX10_half 26 = .ok (.return_, 1) := dec_of (decode cX10_half) da_258 20 rfl
abbrev dl_259 : List (Nat × Except DecodeError (Instr × Nat)) := [(0, .ok (.aload_n 0, 1)), (1, .ok (.iconst 0, 1)), (2, .ok (.putfield 154, 3)), (5, .ok (.iload_n 1, 1)), (6, .ok (.ifCond .lt 11, 3)), (9, .ok (.iload_n 1, 1)), (10, .ok (.aload_n 0, 1)), (11, .ok (.getfield 157, 3)), (14, .ok (.if_icmp .le 6, 3)), (17, .ok (.bipush (-2), 2)), (19, .ok (.ireturn, 1)), (20, .ok (.aload_n 0, 1)), (21, .ok (.iload_n 1, 1)), (22, .ok (.putfield 163, 3)), (25, .ok (.aload_n 0, 1)), (26, .ok (.iconst 0, 1)), (27, .ok (.putfield 157, 3)), (30, .ok (.aload_n 0, 1)), (31, .ok (.iconst 0, 1)), (32, .ok (.putfield 160, 3)), (35, .ok (.aload_n 0, 1)), (36, .ok (.iconst 0, 1)), (37, .ok (.putfield 208, 3)), (40, .ok (.aload_n 0, 1)), (41, .ok (.iconst (-1), 1)), (42, .ok (.putfield 211, 3)), (45, .ok (.iconst 0, 1)), (46, .ok (.istore_n 2, 1)), (47, .ok (.iload_n 2, 1)), (48, .ok (.bipush 11, 2)), (50, .ok (.if_icmp .ge 70, 3)), (53, .ok (.aload_n 0, 1)), (54, .ok (.iload_n 2, 1)), (55, .ok (.iload_n 2, 1)), (56, .ok (.iconst 1, 1)), (57, .ok (.if_icmp .ne 9, 3)), (60, .ok (.sipush 200, 3)), (63, .ok (.goto 48, 3)), (66, .ok (.iload_n 2, 1)), (67, .ok (.iconst 2, 1))]
theorem da_259 : dl_259.all (fun q => decide (decode cX10_text q.1 = q.2)) = true := by decide +kernel
theorem dX10_text_0 : decode cX10_text 0 = .ok (.aload_n 0, 1) := dec_of (decode cX10_text) da_259 0 rfl
theorem dX10_text_1 : decode cX10_text 1 = .ok (.iconst 0, 1) := dec_of (decode cX10_text) da_259 1 rfl
theorem dX10_text_2 : decode cX10_text 2 = .ok (.putfield 154, 3) := dec_of (decode cX10_text) da_259 2 rfl
theorem dX10_text_5 : decode cX10_text 5 = .ok (.iload_n 1, 1) := dec_of (decode cX10_text) da_259 3 rfl
theorem dX10_text_6 : decode cX10_text 6 = .ok (.ifCond .lt 11, 3) := dec_of (decode cX10_text) da_259 4 rfl
theorem dX10_text_9 : decode cX10_text 9 = .ok (.iload_n 1, 1) := dec_of (decode cX10_text) da_259 5 rfl
theorem dX10_text_10 : decode cX10_text 10 = .ok (.aload_n 0, 1) := dec_of (decode cX10_text) da_259 6 rfl
theorem dX10_text_11 : decode cX10_text 11 = .ok (.getfield 157, 3) := dec_of (decode cX10_text) da_259 7 rfl
theorem dX10_text_14 : decode cX10_text 14 = .ok (.if_icmp .le 6, 3) := dec_of (decode cX10_text) da_259 8 rfl
theorem dX10_text_17 : decode cX10_text 17 = .ok (.bipush (-2), 2) := dec_of (decode cX10_text) da_259 9 rfl
theorem dX10_text_19 : decode cX10_text 19 = .ok (.ireturn, 1) := dec_of (decode cX10_text) da_259 10 rfl
theorem dX10_text_20 : decode cX10_text 20 = .ok (.aload_n 0, 1) := dec_of (decode cX10_text) da_259 11 rfl
theorem dX10_text_21 : decode cX10_text 21 = .ok (.iload_n 1, 1) := dec_of (decode cX10_text) da_259 12 rfl
theorem dX10_text_22 : decode cX10_text 22 = .ok (.putfield 163, 3) := dec_of (decode cX10_text) da_259 13 rfl
theorem dX10_text_25 : decode cX10_text 25 = .ok (.aload_n 0, 1) := dec_of (decode cX10_text) da_259 14 rfl
theorem dX10_text_26 : decode cX10_text 26 = .ok (.iconst 0, 1) := dec_of (decode cX10_text) da_259 15 rfl
theorem dX10_text_27 : decode cX10_text 27 = .ok (.putfield 157, 3) := dec_of (decode cX10_text) da_259 16 rfl
theorem dX10_text_30 : decode cX10_text 30 = .ok (.aload_n 0, 1) := dec_of (decode cX10_text) da_259 17 rfl
theorem dX10_text_31 : decode cX10_text 31 = .ok (.iconst 0, 1) := dec_of (decode cX10_text) da_259 18 rfl
theorem dX10_text_32 : decode cX10_text 32 = .ok (.putfield 160, 3) := dec_of (decode cX10_text) da_259 19 rfl
theorem dX10_text_35 : decode cX10_text 35 = .ok (.aload_n 0, 1) := dec_of (decode cX10_text) da_259 20 rfl
theorem dX10_text_36 : decode cX10_text 36 = .ok (.iconst 0, 1) := dec_of (decode cX10_text) da_259 21 rfl
theorem dX10_text_37 : decode cX10_text 37 = .ok (.putfield 208, 3) := dec_of (decode cX10_text) da_259 22 rfl
theorem dX10_text_40 : decode cX10_text 40 = .ok (.aload_n 0, 1) := dec_of (decode cX10_text) da_259 23 rfl
theorem dX10_text_41 : decode cX10_text 41 = .ok (.iconst (-1), 1) := dec_of (decode cX10_text) da_259 24 rfl
theorem dX10_text_42 : decode cX10_text 42 = .ok (.putfield 211, 3) := dec_of (decode cX10_text) da_259 25 rfl
theorem dX10_text_45 : decode cX10_text 45 = .ok (.iconst 0, 1) := dec_of (decode cX10_text) da_259 26 rfl
theorem dX10_text_46 : decode cX10_text 46 = .ok (.istore_n 2, 1) := dec_of (decode cX10_text) da_259 27 rfl
theorem dX10_text_47 : decode cX10_text 47 = .ok (.iload_n 2, 1) := dec_of (decode cX10_text) da_259 28 rfl
theorem dX10_text_48 : decode cX10_text 48 = .ok (.bipush 11, 2) := dec_of (decode cX10_text) da_259 29 rfl
theorem dX10_text_50 : decode cX10_text 50 = .ok (.if_icmp .ge 70, 3) := dec_of (decode cX10_text) da_259 30 rfl
theorem dX10_text_53 : decode cX10_text 53 = .ok (.aload_n 0, 1) := dec_of (decode cX10_text) da_259 31 rfl
theorem dX10_text_54 : decode cX10_text 54 = .ok (.iload_n 2, 1) := dec_of (decode cX10_text) da_259 32 rfl
theorem dX10_text_55 : decode cX10_text 55 = .ok (.iload_n 2, 1) := dec_of (decode cX10_text) da_259 33 rfl
theorem dX10_text_56 : decode cX10_text 56 = .ok (.iconst 1, 1) := dec_of (decode cX10_text) da_259 34 rfl
theorem dX10_text_57 : decode cX10_text 57 = .ok (.if_icmp .ne 9, 3) := dec_of (decode cX10_text) da_259 35 rfl
theorem dX10_text_60 : decode cX10_text 60 = .ok (.sipush 200, 3) := dec_of (decode cX10_text) da_259 36 rfl
theorem dX10_text_63 : decode cX10_text 63 = .ok (.goto 48, 3) := dec_of (decode cX10_text) da_259 37 rfl
theorem dX10_text_66 : decode cX10_text 66 = .ok (.iload_n 2, 1) := dec_of (decode cX10_text) da_259 38 rfl
theorem dX10_text_67 : decode cX10_text 67 = .ok (.iconst 2, 1) := dec_of (decode cX10_text) da_259 39 rfl
abbrev dl_260 : List (Nat × Except DecodeError (Instr × Nat)) := [(68, .ok (.if_icmp .eq 9, 3)), (71, .ok (.iload_n 2, 1)), (72, .ok (.bipush 10, 2)), (74, .ok (.if_icmp .ne 7, 3)), (77, .ok (.iconst 2, 1)), (78, .ok (.goto 33, 3)), (81, .ok (.iload_n 2, 1)), (82, .ok (.iconst 3, 1)), (83, .ok (.if_icmp .ne 8, 3)), (86, .ok (.bipush 10, 2)), (88, .ok (.goto 23, 3)), (91, .ok (.iload_n 2, 1)), (92, .ok (.iconst 4, 1)), (93, .ok (.if_icmp .ne 7, 3)), (96, .ok (.iconst 3, 1)), (97, .ok (.goto 14, 3)), (100, .ok (.iload_n 2, 1)), (101, .ok (.bipush 9, 2)), (103, .ok (.if_icmp .ne 7, 3)), (106, .ok (.iconst 1, 1)), (107, .ok (.goto 4, 3)), (110, .ok (.iconst 0, 1)), (111, .ok (.invokevirtual 244, 3)), (114, .ok (.iinc 2 1, 3)), (117, .ok (.goto (-70), 3)), (120, .ok (.iconst 3, 1)), (121, .ok (.istore_n 2, 1)), (122, .ok (.iload_n 2, 1)), (123, .ok (.bipush 6, 2)), (125, .ok (.if_icmp .ge 23, 3)), (128, .ok (.aload_n 0, 1)), (129, .ok (.getfield 46, 3)), (132, .ok (.iload_n 2, 1)), (133, .ok (.iconst 0, 1)), (134, .ok (.iastore, 1)), (135, .ok (.aload_n 0, 1)), (136, .ok (.getfield 49, 3)), (139, .ok (.iload_n 2, 1)), (140, .ok (.iconst 0, 1)), (141, .ok (.iastore, 1))]
theorem da_260 : dl_260.all (fun q => decide (decode cX10_text q.1 = q.2)) = true := by decide +kernel
theorem dX10_text_68 : decode cX10_text 68 = .ok (.if_icmp .eq 9, 3) := dec_of (decode cX10_text) da_260 0 rfl
theorem dX10_text_71 : decode cX10_text 71 = .ok (.iload_n 2, 1) := dec_of (decode cX10_text) da_260 1 rfl
theorem dX10_text_72 : decode cX10_text 72 = .ok (.bipush 10, 2) := dec_of (decode cX10_text) da_260 2 rfl
theorem dX10_text_74 : decode cX10_text 74 = .ok (.if_icmp .ne 7, 3) := dec_of (decode cX10_text) da_260 3 rfl
theorem dX10_text_77 : decode cX10_text 77 = .ok (.iconst 2, 1) := dec_of (decode cX10_text) da_260 4 rfl
theorem dX10_text_78 : decode cX10_text 78 = .ok (.goto 33, 3) := dec_of (decode cX10_text) da_260 5 rfl
theorem dX10_text_81 : decode cX10_text 81 = .ok (.iload_n 2, 1) := dec_of (decode cX10_text) da_260 6 rfl
theorem dX10_text_82 : decode cX10_text 82 = .ok (.iconst 3, 1) := dec_of (decode cX10_text) da_260 7 rfl
theorem dX10_text_83 : decode cX10_text 83 = .ok (.if_icmp .ne 8, 3) := dec_of (decode cX10_text) da_260 8 rfl
theorem dX10_text_86 : decode cX10_text 86 = .ok (.bipush 10, 2) := dec_of (decode cX10_text) da_260 9 rfl
theorem dX10_text_88 : decode cX10_text 88 = .ok (.goto 23, 3) := dec_of (decode cX10_text) da_260 10 rfl
theorem dX10_text_91 : decode cX10_text 91 = .ok (.iload_n 2, 1) := dec_of (decode cX10_text) da_260 11 rfl
theorem dX10_text_92 : decode cX10_text 92 = .ok (.iconst 4, 1) := dec_of (decode cX10_text) da_260 12 rfl
theorem dX10_text_93 : decode cX10_text 93 = .ok (.if_icmp .ne 7, 3) := dec_of (decode cX10_text) da_260 13 rfl
theorem dX10_text_96 : decode cX10_text 96 = .ok (.iconst 3, 1) := dec_of (decode cX10_text) da_260 14 rfl
theorem dX10_text_97 : decode cX10_text 97 = .ok (.goto 14, 3) := dec_of (decode cX10_text) da_260 15 rfl
theorem dX10_text_100 : decode cX10_text 100 = .ok (.iload_n 2, 1) := dec_of (decode cX10_text) da_260 16 rfl
theorem dX10_text_101 : decode cX10_text 101 = .ok (.bipush 9, 2) := dec_of (decode cX10_text) da_260 17 rfl
theorem dX10_text_103 : decode cX10_text 103 = .ok (.if_icmp .ne 7, 3) := dec_of (decode cX10_text) da_260 18 rfl
theorem dX10_text_106 : decode cX10_text 106 = .ok (.iconst 1, 1) := dec_of (decode cX10_text) da_260 19 rfl
theorem dX10_text_107 : decode cX10_text 107 = .ok (.goto 4, 3) := dec_of (decode cX10_text) da_260 20 rfl
theorem dX10_text_110 : decode cX10_text 110 = .ok (.iconst 0, 1) := dec_of (decode cX10_text) da_260 21 rfl
theorem dX10_text_111 : decode cX10_text 111 = .ok (.invokevirtual 244, 3) := dec_of (decode cX10_text) da_260 22 rfl
theorem dX10_text_114 : decode cX10_text 114 = .ok (.iinc 2 1, 3) := dec_of (decode cX10_text) da_260 23 rfl
theorem dX10_text_117 : decode cX10_text 117 = .ok (.goto (-70), 3) := dec_of (decode cX10_text) da_260 24 rfl
theorem dX10_text_120 : decode cX10_text 120 = .ok (.iconst 3, 1) := dec_of (decode cX10_text) da_260 25 rfl
theorem dX10_text_121 : decode cX10_text 121 = .ok (.istore_n 2, 1) := dec_of (decode cX10_text) da_260 26 rfl
theorem dX10_text_122 : decode cX10_text 122 = .ok (.iload_n 2, 1) := dec_of (decode cX10_text) da_260 27 rfl
theorem dX10_text_123 : decode cX10_text 123 = .ok (.bipush 6, 2) := dec_of (decode cX10_text) da_260 28 rfl
theorem dX10_text_125 : decode cX10_text 125 = .ok (.if_icmp .ge 23, 3) := dec_of (decode cX10_text) da_260 29 rfl
theorem dX10_text_128 : decode cX10_text 128 = .ok (.aload_n 0, 1) := dec_of (decode cX10_text) da_260 30 rfl
theorem dX10_text_129 : decode cX10_text 129 = .ok (.getfield 46, 3) := dec_of (decode cX10_text) da_260 31 rfl
theorem dX10_text_132 : decode cX10_text 132 = .ok (.iload_n 2, 1) := dec_of (decode cX10_text) da_260 32 rfl
theorem dX10_text_133 : decode cX10_text 133 = .ok (.iconst 0, 1) := dec_of (decode cX10_text) da_260 33 rfl
theorem dX10_text_134 : decode cX10_text 134 = .ok (.iastore, 1) := dec_of (decode cX10_text) da_260 34 rfl
theorem dX10_text_135 : decode cX10_text 135 = .ok (.aload_n 0, 1) := dec_of (decode cX10_text) da_260 35 rfl
theorem dX10_text_136 : decode cX10_text 136 = .ok (.getfield 49, 3) := dec_of (decode cX10_text) da_260 36 rfl
theorem dX10_text_139 : decode cX10_text 139 = .ok (.iload_n 2, 1) := dec_of (decode cX10_text) da_260 37 rfl
theorem dX10_text_140 : decode cX10_text 140 = .ok (.iconst 0, 1) := dec_of (decode cX10_text) da_260 38 rfl
theorem dX10_text_141 : decode cX10_text 141 = .ok (.iastore, 1) := dec_of (decode cX10_text) da_260 39 rfl
abbrev dl_261 : List (Nat × Except DecodeError (Instr × Nat)) := [(142, .ok (.iinc 2 1, 3)), (145, .ok (.goto (-23), 3)), (148, .ok (.aload_n 0, 1)), (149, .ok (.iconst 0, 1)), (150, .ok (.putfield 228, 3)), (153, .ok (.aload_n 0, 1)), (154, .ok (.iconst 0, 1)), (155, .ok (.putfield 254, 3)), (158, .ok (.aload_n 0, 1)), (159, .ok (.iconst 0, 1)), (160, .ok (.putfield 297, 3)), (163, .ok (.aload_n 0, 1)), (164, .ok (.iconst 0, 1)), (165, .ok (.putfield 273, 3)), (168, .ok (.aload_n 0, 1)), (169, .ok (.invokevirtual 214, 3)), (172, .ok (.aload_n 0, 1)), (173, .ok (.getfield 208, 3)), (176, .ok (.ifCond .ne 18, 3)), (179, .ok (.aload_n 0, 1)), (180, .ok (.getfield 173, 3)), (183, .ok (.iconst 4, 1)), (184, .ok (.if_icmp .eq 10, 3)), (187, .ok (.aload_n 0, 1)), (188, .ok (.invokevirtual 300, 3)), (191, .ok (.goto (-19), 3)), (194, .ok (.aload_n 0, 1)), (195, .ok (.aload_n 0, 1)), (196, .ok (.getfield 208, 3)), (199, .ok (.putfield 303, 3)), (202, .ok (.aload_n 0, 1)), (203, .ok (.aload_n 0, 1)), (204, .ok (.getfield 211, 3)), (207, .ok (.putfield 58, 3)), (210, .ok (.aload_n 0, 1)), (211, .ok (.getfield 208, 3)), (214, .ok (.ifCond .eq 5, 3)), (217, .ok (.iconst (-1), 1)), (218, .ok (.ireturn, 1)), (219, .ok (.aload_n 0, 1))]
theorem da_261 : dl_261.all (fun q => decide (decode cX10_text q.1 = q.2)) = true := by decide +kernel
theorem dX10_text_142 : decode cX10_text 142 = .ok (.iinc 2 1, 3) := dec_of (decode cX10_text) da_261 0 rfl
theorem dX10_text_145 : decode cX10_text 145 = .ok (.goto (-23), 3) := dec_of (decode cX10_text) da_261 1 rfl
theorem dX10_text_148 : decode cX10_text 148 = .ok (.aload_n 0, 1) := dec_of (decode cX10_text) da_261 2 rfl
theorem dX10_text_149 : decode cX10_text 149 = .ok (.iconst 0, 1) := dec_of (decode cX10_text) da_261 3 rfl
theorem dX10_text_150 : decode cX10_text 150 = .ok (.putfield 228, 3) := dec_of (decode cX10_text) da_261 4 rfl
theorem dX10_text_153 : decode cX10_text 153 = .ok (.aload_n 0, 1) := dec_of (decode cX10_text) da_261 5 rfl
theorem dX10_text_154 : decode cX10_text 154 = .ok (.iconst 0, 1) := dec_of (decode cX10_text) da_261 6 rfl
theorem dX10_text_155 : decode cX10_text 155 = .ok (.putfield 254, 3) := dec_of (decode cX10_text) da_261 7 rfl
theorem dX10_text_158 : decode cX10_text 158 = .ok (.aload_n 0, 1) := dec_of (decode cX10_text) da_261 8 rfl
theorem dX10_text_159 : decode cX10_text 159 = .ok (.iconst 0, 1) := dec_of (decode cX10_text) da_261 9 rfl
theorem dX10_text_160 : decode cX10_text 160 = .ok (.putfield 297, 3) := dec_of (decode cX10_text) da_261 10 rfl
theorem dX10_text_163 : decode cX10_text 163 = .ok (.aload_n 0, 1) := dec_of (decode cX10_text) da_261 11 rfl
theorem dX10_text_164 : decode cX10_text 164 = .ok (.iconst 0, 1) := dec_of (decode cX10_text) da_261 12 rfl
theorem dX10_text_165 : decode cX10_text 165 = .ok (.putfield 273, 3) := dec_of (decode cX10_text) da_261 13 rfl
theorem dX10_text_168 : decode cX10_text 168 = .ok (.aload_n 0, 1) := dec_of (decode cX10_text) da_261 14 rfl
theorem dX10_text_169 : decode cX10_text 169 = .ok (.invokevirtual 214, 3) := dec_of (decode cX10_text) da_261 15 rfl
theorem dX10_text_172 : decode cX10_text 172 = .ok (.aload_n 0, 1) := dec_of (decode cX10_text) da_261 16 rfl
theorem dX10_text_173 : decode cX10_text 173 = .ok (.getfield 208, 3) := dec_of (decode cX10_text) da_261 17 rfl
theorem dX10_text_176 : decode cX10_text 176 = .ok (.ifCond .ne 18, 3) := dec_of (decode cX10_text) da_261 18 rfl
theorem dX10_text_179 : decode cX10_text 179 = .ok (.aload_n 0, 1) := dec_of (decode cX10_text) da_261 19 rfl
theorem dX10_text_180 : decode cX10_text 180 = .ok (.getfield 173, 3) := dec_of (decode cX10_text) da_261 20 rfl
theorem dX10_text_183 : decode cX10_text 183 = .ok (.iconst 4, 1) := dec_of (decode cX10_text) da_261 21 rfl
theorem dX10_text_184 : decode cX10_text 184 = .ok (.if_icmp .eq 10, 3) := dec_of (decode cX10_text) da_261 22 rfl
theorem dX10_text_187 : decode cX10_text 187 = .ok (.aload_n 0, 1) := dec_of (decode cX10_text) da_261 23 rfl
theorem dX10_text_188 : decode cX10_text 188 = .ok (.invokevirtual 300, 3) := dec_of (decode cX10_text) da_261 24 rfl
theorem dX10_text_191 : decode cX10_text 191 = .ok (.goto (-19), 3) := dec_of (decode cX10_text) da_261 25 rfl
theorem dX10_text_194 : decode cX10_text 194 = .ok (.aload_n 0, 1) := dec_of (decode cX10_text) da_261 26 rfl
theorem dX10_text_195 : decode cX10_text 195 = .ok (.aload_n 0, 1) := dec_of (decode cX10_text) da_261 27 rfl
theorem dX10_text_196 : decode cX10_text 196 = .ok (.getfield 208, 3) := dec_of (decode cX10_text) da_261 28 rfl
theorem dX10_text_199 : decode cX10_text 199 = .ok (.putfield 303, 3) := dec_of (decode cX10_text) da_261 29 rfl
theorem dX10_text_202 : decode cX10_text 202 = .ok (.aload_n 0, 1) := dec_of (decode cX10_text) da_261 30 rfl
theorem dX10_text_203 : decode cX10_text 203 = .ok (.aload_n 0, 1) := dec_of (decode cX10_text) da_261 31 rfl
theorem dX10_text_204 : decode cX10_text 204 = .ok (.getfield 211, 3) := dec_of (decode cX10_text) da_261 32 rfl
theorem dX10_text_207 : decode cX10_text 207 = .ok (.putfield 58, 3) := dec_of (decode cX10_text) da_261 33 rfl
theorem dX10_text_210 : decode cX10_text 210 = .ok (.aload_n 0, 1) := dec_of (decode cX10_text) da_261 34 rfl
theorem dX10_text_211 : decode cX10_text 211 = .ok (.getfield 208, 3) := dec_of (decode cX10_text) da_261 35 rfl
theorem dX10_text_214 : decode cX10_text 214 = .ok (.ifCond .eq 5, 3) := dec_of (decode cX10_text) da_261 36 rfl
theorem dX10_text_217 : decode cX10_text 217 = .ok (.iconst (-1), 1) := dec_of (decode cX10_text) da_261 37 rfl
theorem dX10_text_218 : decode cX10_text 218 = .ok (.ireturn, 1) := dec_of (decode cX10_text) da_261 38 rfl
theorem dX10_text_219 : decode cX10_text 219 = .ok (.aload_n 0, 1) := dec_of (decode cX10_text) da_261 39 rfl
abbrev dl_262 : List (Nat × Except DecodeError (Instr × Nat)) := [(220, .ok (.getfield 13, 3)), (223, .ok (.invokestatic 306, 3)), (226, .ok (.aload_n 0, 1)), (227, .ok (.getfield 16, 3)), (230, .ok (.invokestatic 306, 3)), (233, .ok (.aload_n 0, 1)), (234, .ok (.getfield 19, 3)), (237, .ok (.invokestatic 306, 3)), (240, .ok (.aload_n 0, 1)), (241, .ok (.getfield 22, 3)), (244, .ok (.invokestatic 306, 3)), (247, .ok (.aload_n 0, 1)), (248, .ok (.getfield 25, 3)), (251, .ok (.invokestatic 306, 3)), (254, .ok (.aload_n 0, 1)), (255, .ok (.getfield 28, 3)), (258, .ok (.invokestatic 306, 3)), (261, .ok (.aload_n 0, 1)), (262, .ok (.getfield 31, 3)), (265, .ok (.invokestatic 306, 3)), (268, .ok (.aload_n 0, 1)), (269, .ok (.getfield 34, 3)), (272, .ok (.invokestatic 306, 3)), (275, .ok (.aload_n 0, 1)), (276, .ok (.getfield 37, 3)), (279, .ok (.invokestatic 306, 3)), (282, .ok (.aload_n 0, 1)), (283, .ok (.getfield 40, 3)), (286, .ok (.invokestatic 306, 3)), (289, .ok (.aload_n 0, 1)), (290, .ok (.getfield 43, 3)), (293, .ok (.invokestatic 306, 3)), (296, .ok (.aload_n 0, 1)), (297, .ok (.getfield 46, 3)), (300, .ok (.invokestatic 306, 3)), (303, .ok (.aload_n 0, 1)), (304, .ok (.getfield 49, 3)), (307, .ok (.invokestatic 306, 3)), (310, .ok (.aload_n 0, 1)), (311, .ok (.getfield 52, 3))]
theorem da_262 : dl_262.all (fun q => decide (decode cX10_text q.1 = q.2)) = true := by decide +kernel
theorem dX10_text_220 : decode cX10_text 220 = .ok (.getfield 13, 3) := dec_of (decode cX10_text) da_262 0 rfl
theorem dX10_text_223 : decode cX10_text 223 = .ok (.invokestatic 306, 3) := dec_of (decode cX10_text) da_262 1 rfl
theorem dX10_text_226 : decode cX10_text 226 = .ok (.aload_n 0, 1) := dec_of (decode cX10_text) da_262 2 rfl
theorem dX10_text_227 : decode cX10_text 227 = .ok (.getfield 16, 3) := dec_of (decode cX10_text) da_262 3 rfl
theorem dX10_text_230 : decode cX10_text 230 = .ok (.invokestatic 306, 3) := dec_of (decode cX10_text) da_262 4 rfl
theorem dX10_text_233 : decode cX10_text 233 = .ok (.aload_n 0, 1) := dec_of (decode cX10_text) da_262 5 rfl
theorem dX10_text_234 : decode cX10_text 234 = .ok (.getfield 19, 3) := dec_of (decode cX10_text) da_262 6 rfl
theorem dX10_text_237 : decode cX10_text 237 = .ok (.invokestatic 306, 3) := dec_of (decode cX10_text) da_262 7 rfl
theorem dX10_text_240 : decode cX10_text 240 = .ok (.aload_n 0, 1) := dec_of (decode cX10_text) da_262 8 rfl
theorem dX10_text_241 : decode cX10_text 241 = .ok (.getfield 22, 3) := dec_of (decode cX10_text) da_262 9 rfl
theorem dX10_text_244 : decode cX10_text 244 = .ok (.invokestatic 306, 3) := dec_of (decode cX10_text) da_262 10 rfl
theorem dX10_text_247 : decode cX10_text 247 = .ok (.aload_n 0, 1) := dec_of (decode cX10_text) da_262 11 rfl
theorem dX10_text_248 : decode cX10_text 248 = .ok (.getfield 25, 3) := dec_of (decode cX10_text) da_262 12 rfl
theorem dX10_text_251 : decode cX10_text 251 = .ok (.invokestatic 306, 3) := dec_of (decode cX10_text) da_262 13 rfl
theorem dX10_text_254 : decode cX10_text 254 = .ok (.aload_n 0, 1) := dec_of (decode cX10_text) da_262 14 rfl
theorem dX10_text_255 : decode cX10_text 255 = .ok (.getfield 28, 3) := dec_of (decode cX10_text) da_262 15 rfl
theorem dX10_text_258 : decode cX10_text 258 = .ok (.invokestatic 306, 3) := dec_of (decode cX10_text) da_262 16 rfl
theorem dX10_text_261 : decode cX10_text 261 = .ok (.aload_n 0, 1) := dec_of (decode cX10_text) da_262 17 rfl
theorem dX10_text_262 : decode cX10_text 262 = .ok (.getfield 31, 3) := dec_of (decode cX10_text) da_262 18 rfl
theorem dX10_text_265 : decode cX10_text 265 = .ok (.invokestatic 306, 3) := dec_of (decode cX10_text) da_262 19 rfl
theorem dX10_text_268 : decode cX10_text 268 = .ok (.aload_n 0, 1) := dec_of (decode cX10_text) da_262 20 rfl
theorem dX10_text_269 : decode cX10_text 269 = .ok (.getfield 34, 3) := dec_of (decode cX10_text) da_262 21 rfl
theorem dX10_text_272 : decode cX10_text 272 = .ok (.invokestatic 306, 3) := dec_of (decode cX10_text) da_262 22 rfl
theorem dX10_text_275 : decode cX10_text 275 = .ok (.aload_n 0, 1) := dec_of (decode cX10_text) da_262 23 rfl
theorem dX10_text_276 : decode cX10_text 276 = .ok (.getfield 37, 3) := dec_of (decode cX10_text) da_262 24 rfl
theorem dX10_text_279 : decode cX10_text 279 = .ok (.invokestatic 306, 3) := dec_of (decode cX10_text) da_262 25 rfl
theorem dX10_text_282 : decode cX10_text 282 = .ok (.aload_n 0, 1) := dec_of (decode cX10_text) da_262 26 rfl
theorem dX10_text_283 : decode cX10_text 283 = .ok (.getfield 40, 3) := dec_of (decode cX10_text) da_262 27 rfl
theorem dX10_text_286 : decode cX10_text 286 = .ok (.invokestatic 306, 3) := dec_of (decode cX10_text) da_262 28 rfl
theorem dX10_text_289 : decode cX10_text 289 = .ok (.aload_n 0, 1) := dec_of (decode cX10_text) da_262 29 rfl
theorem dX10_text_290 : decode cX10_text 290 = .ok (.getfield 43, 3) := dec_of (decode cX10_text) da_262 30 rfl
theorem dX10_text_293 : decode cX10_text 293 = .ok (.invokestatic 306, 3) := dec_of (decode cX10_text) da_262 31 rfl
theorem dX10_text_296 : decode cX10_text 296 = .ok (.aload_n 0, 1) := dec_of (decode cX10_text) da_262 32 rfl
theorem dX10_text_297 : decode cX10_text 297 = .ok (.getfield 46, 3) := dec_of (decode cX10_text) da_262 33 rfl
theorem dX10_text_300 : decode cX10_text 300 = .ok (.invokestatic 306, 3) := dec_of (decode cX10_text) da_262 34 rfl
theorem dX10_text_303 : decode cX10_text 303 = .ok (.aload_n 0, 1) := dec_of (decode cX10_text) da_262 35 rfl
theorem dX10_text_304 : decode cX10_text 304 = .ok (.getfield 49, 3) := dec_of (decode cX10_text) da_262 36 rfl
theorem dX10_text_307 : decode cX10_text 307 = .ok (.invokestatic 306, 3) := dec_of (decode cX10_text) da_262 37 rfl
theorem dX10_text_310 : decode cX10_text 310 = .ok (.aload_n 0, 1) := dec_of (decode cX10_text) da_262 38 rfl
theorem dX10_text_311 : decode cX10_text 311 = .ok (.getfield 52, 3) := dec_of (decode cX10_text) da_262 39 rfl
abbrev dl_263 : List (Nat × Except DecodeError (Instr × Nat)) := [(314, .ok (.invokestatic 306, 3)), (317, .ok (.aload_n 0, 1)), (318, .ok (.getfield 55, 3)), (321, .ok (.invokestatic 306, 3)), (324, .ok (.aload_n 0, 1)), (325, .ok (.iconst 0, 1)), (326, .ok (.putfield 310, 3)), (329, .ok (.aload_n 0, 1)), (330, .ok (.iconst (-1), 1)), (331, .ok (.putfield 132, 3)), (334, .ok (.aload_n 0, 1)), (335, .ok (.iconst 0, 1)), (336, .ok (.putfield 313, 3)), (339, .ok (.aload_n 0, 1)), (340, .ok (.iconst 0, 1)), (341, .ok (.putfield 317, 3)), (344, .ok (.aload_n 0, 1)), (345, .ok (.invokevirtual 151, 3)), (348, .ok (.aload_n 0, 1)), (349, .ok (.getfield 254, 3)), (352, .ok (.ireturn, 1))]
theorem da_263 : dl_263.all (fun q => decide (decode cX10_text q.1 = q.2)) = true := by decide +kernel
theorem dX10_text_314 : decode cX10_text 314 = .ok (.invokestatic 306, 3) := dec_of (decode cX10_text) da_263 0 rfl
theorem dX10_text_317 : decode cX10_text 317 = .ok (.aload_n 0, 1) := dec_of (decode cX10_text) da_263 1 rfl
theorem dX10_text_318 : decode cX10_text 318 = .ok (.getfield 55, 3) := dec_of (decode cX10_text) da_263 2 rfl
theorem dX10_text_321 : decode cX10_text 321 = .ok (.invokestatic 306, 3) := dec_of (decode cX10_text) da_263 3 rfl
theorem dX10_text_324 : decode cX10_text 324 = .ok (.aload_n 0, 1) := dec_of (decode cX10_text) da_263 4 rfl
theorem dX10_text_325 : decode cX10_text 325 = .ok (.iconst 0, 1) := dec_of (decode cX10_text) da_263 5 rfl
theorem dX10_text_326 : decode cX10_text 326 = .ok (.putfield 310, 3) := dec_of (decode cX10_text) da_263 6 rfl
theorem dX10_text_329 : decode cX10_text 329 = .ok (.aload_n 0, 1) := dec_of (decode cX10_text) da_263 7 rfl
theorem dX10_text_330 : decode cX10_text 330 = .ok (.iconst (-1), 1) := dec_of (decode cX10_text) da_263 8 rfl
theorem dX10_text_331 : decode cX10_text 331 = .ok (.putfield 132, 3) := dec_of (decode cX10_text) da_263 9 rfl
theorem dX10_text_334 : decode cX10_text 334 = .ok (.aload_n 0, 1) := dec_of (decode cX10_text) da_263 10 rfl
theorem dX10_text_335 : decode cX10_text 335 = .ok (.iconst 0, 1) := dec_of (decode cX10_text) da_263 11 rfl
theorem dX10_text_336 : decode cX10_text 336 = .ok (.putfield 313, 3) := dec_of (decode cX10_text) da_263 12 rfl
theorem dX10_text_339 : decode cX10_text 339 = .ok (.aload_n 0, 1) := dec_of (decode cX10_text) da_263 13 rfl
theorem dX10_text_340 : decode cX10_text 340 = .ok (.iconst 0, 1) := dec_of (decode cX10_text) da_263 14 rfl
theorem dX10_text_341 : decode cX10_text 341 = .ok (.putfield 317, 3) := dec_of (decode cX10_text) da_263 15 rfl
theorem dX10_text_344 : decode cX10_text 344 = .ok (.aload_n 0, 1) := dec_of (decode cX10_text) da_263 16 rfl
theorem dX10_text_345 : decode cX10_text 345 = .ok (.invokevirtual 151, 3) := dec_of (decode cX10_text) da_263 17 rfl
theorem dX10_text_348 : decode cX10_text 348 = .ok (.aload_n 0, 1) := dec_of (decode cX10_text) da_263 18 rfl
theorem dX10_text_349 : decode cX10_text 349 = .ok (.getfield 254, 3) := dec_of (decode cX10_text) da_263 19 rfl
theorem dX10_text_352 : decode cX10_text 352 = .ok (.ireturn, 1) := dec_of (decode cX10_text) da_263 20 rfl
abbrev dl_264 : List (Nat × Except DecodeError (Instr × Nat)) := [(0, .ok (.aload_n 0, 1)), (1, .ok (.iconst 0, 1)), (2, .ok (.putfield 154, 3)), (5, .ok (.iload_n 1, 1)), (6, .ok (.ifCond .ne 10, 3)), (9, .ok (.aload_n 0, 1)), (10, .ok (.getfield 303, 3)), (13, .ok (.goto 16, 3)), (16, .ok (.iload_n 1, 1)), (17, .ok (.iconst 1, 1)), (18, .ok (.if_icmp .ne 10, 3)), (21, .ok (.aload_n 0, 1)), (22, .ok (.getfield 58, 3)), (25, .ok (.goto 4, 3)), (28, .ok (.iconst (-1), 1)), (29, .ok (.ireturn, 1))]
theorem da_264 : dl_264.all (fun q => decide (decode cX10_fault q.1 = q.2)) = true := by decide +kernel
theorem dX10_fault_0 : decode cX10_fault 0 = .ok (.aload_n 0, 1) := dec_of (decode cX10_fault) da_264 0 rfl
theorem dX10_fault_1 : decode cX10_fault 1 = .ok (.iconst 0, 1) := dec_of (decode cX10_fault) da_264 1 rfl
theorem dX10_fault_2 : decode cX10_fault 2 = .ok (.putfield 154, 3) := dec_of (decode cX10_fault) da_264 2 rfl
theorem dX10_fault_5 : decode cX10_fault 5 = .ok (.iload_n 1, 1) := dec_of (decode cX10_fault) da_264 3 rfl
theorem dX10_fault_6 : decode cX10_fault 6 = .ok (.ifCond .ne 10, 3) := dec_of (decode cX10_fault) da_264 4 rfl
theorem dX10_fault_9 : decode cX10_fault 9 = .ok (.aload_n 0, 1) := dec_of (decode cX10_fault) da_264 5 rfl
theorem dX10_fault_10 : decode cX10_fault 10 = .ok (.getfield 303, 3) := dec_of (decode cX10_fault) da_264 6 rfl
theorem dX10_fault_13 : decode cX10_fault 13 = .ok (.goto 16, 3) := dec_of (decode cX10_fault) da_264 7 rfl
theorem dX10_fault_16 : decode cX10_fault 16 = .ok (.iload_n 1, 1) := dec_of (decode cX10_fault) da_264 8 rfl
theorem dX10_fault_17 : decode cX10_fault 17 = .ok (.iconst 1, 1) := dec_of (decode cX10_fault) da_264 9 rfl
theorem dX10_fault_18 : decode cX10_fault 18 = .ok (.if_icmp .ne 10, 3) := dec_of (decode cX10_fault) da_264 10 rfl
theorem dX10_fault_21 : decode cX10_fault 21 = .ok (.aload_n 0, 1) := dec_of (decode cX10_fault) da_264 11 rfl
theorem dX10_fault_22 : decode cX10_fault 22 = .ok (.getfield 58, 3) := dec_of (decode cX10_fault) da_264 12 rfl
theorem dX10_fault_25 : decode cX10_fault 25 = .ok (.goto 4, 3) := dec_of (decode cX10_fault) da_264 13 rfl
theorem dX10_fault_28 : decode cX10_fault 28 = .ok (.iconst (-1), 1) := dec_of (decode cX10_fault) da_264 14 rfl
theorem dX10_fault_29 : decode cX10_fault 29 = .ok (.ireturn, 1) := dec_of (decode cX10_fault) da_264 15 rfl
abbrev dl_265 : List (Nat × Except DecodeError (Instr × Nat)) := [(0, .ok (.aload_n 0, 1)), (1, .ok (.iconst 0, 1)), (2, .ok (.putfield 154, 3)), (5, .ok (.aload_n 0, 1)), (6, .ok (.getfield 16, 3)), (9, .ok (.iconst 0, 1)), (10, .ok (.aload_n 0, 1)), (11, .ok (.getfield 13, 3)), (14, .ok (.iconst 0, 1)), (15, .ok (.iaload, 1)), (16, .ok (.iload_n 1, 1)), (17, .ok (.invokestatic 220, 3)), (20, .ok (.ireturn, 1))]
theorem da_265 : dl_265.all (fun q => decide (decode cX10_named q.1 = q.2)) = true := by decide +kernel
theorem dX10_named_0 : decode cX10_named 0 = .ok (.aload_n 0, 1) := dec_of (decode cX10_named) da_265 0 rfl
theorem dX10_named_1 : decode cX10_named 1 = .ok (.iconst 0, 1) := dec_of (decode cX10_named) da_265 1 rfl
theorem dX10_named_2 : decode cX10_named 2 = .ok (.putfield 154, 3) := dec_of (decode cX10_named) da_265 2 rfl
theorem dX10_named_5 : decode cX10_named 5 = .ok (.aload_n 0, 1) := dec_of (decode cX10_named) da_265 3 rfl
theorem dX10_named_6 : decode cX10_named 6 = .ok (.getfield 16, 3) := dec_of (decode cX10_named) da_265 4 rfl
theorem dX10_named_9 : decode cX10_named 9 = .ok (.iconst 0, 1) := dec_of (decode cX10_named) da_265 5 rfl
theorem dX10_named_10 : decode cX10_named 10 = .ok (.aload_n 0, 1) := dec_of (decode cX10_named) da_265 6 rfl
theorem dX10_named_11 : decode cX10_named 11 = .ok (.getfield 13, 3) := dec_of (decode cX10_named) da_265 7 rfl
theorem dX10_named_14 : decode cX10_named 14 = .ok (.iconst 0, 1) := dec_of (decode cX10_named) da_265 8 rfl
theorem dX10_named_15 : decode cX10_named 15 = .ok (.iaload, 1) := dec_of (decode cX10_named) da_265 9 rfl
theorem dX10_named_16 : decode cX10_named 16 = .ok (.iload_n 1, 1) := dec_of (decode cX10_named) da_265 10 rfl
theorem dX10_named_17 : decode cX10_named 17 = .ok (.invokestatic 220, 3) := dec_of (decode cX10_named) da_265 11 rfl
theorem dX10_named_20 : decode cX10_named 20 = .ok (.ireturn, 1) := dec_of (decode cX10_named) da_265 12 rfl
abbrev dl_266 : List (Nat × Except DecodeError (Instr × Nat)) := [(0, .ok (.iload_n 0, 1)), (1, .ok (.ifCond .eq 7, 3)), (4, .ok (.lconst 1, 1)), (5, .ok (.goto 4, 3)), (8, .ok (.lconst 0, 1)), (9, .ok (.lreturn, 1))]
theorem da_266 : dl_266.all (fun q => decide (decode cX10_is q.1 = q.2)) = true := by decide +kernel
theorem dX10_is_0 : decode cX10_is 0 = .ok (.iload_n 0, 1) := dec_of (decode cX10_is) da_266 0 rfl
theorem dX10_is_1 : decode cX10_is 1 = .ok (.ifCond .eq 7, 3) := dec_of (decode cX10_is) da_266 1 rfl
theorem dX10_is_4 : decode cX10_is 4 = .ok (.lconst 1, 1) := dec_of (decode cX10_is) da_266 2 rfl
theorem dX10_is_5 : decode cX10_is 5 = .ok (.goto 4, 3) := dec_of (decode cX10_is) da_266 3 rfl
theorem dX10_is_8 : decode cX10_is 8 = .ok (.lconst 0, 1) := dec_of (decode cX10_is) da_266 4 rfl
theorem dX10_is_9 : decode cX10_is 9 = .ok (.lreturn, 1) := dec_of (decode cX10_is) da_266 5 rfl
abbrev dl_267 : List (Nat × Except DecodeError (Instr × Nat)) := [(0, .ok (.aload_n 0, 1)), (1, .ok (.getfield 66, 3)), (4, .ok (.aload_n 0, 1)), (5, .ok (.getfield 320, 3)), (8, .ok (.iconst 1, 1)), (9, .ok (.isub, 1)), (10, .ok (.laload, 1)), (11, .ok (.lstore_n 2, 1)), (12, .ok (.iload_n 1, 1)), (13, .ok (.sipush 260, 3)), (16, .ok (.if_icmp .ne 30, 3)), (19, .ok (.aload_n 0, 1)), (20, .ok (.getfield 66, 3)), (23, .ok (.aload_n 0, 1)), (24, .ok (.getfield 320, 3)), (27, .ok (.iconst 1, 1)), (28, .ok (.isub, 1)), (29, .ok (.lload_n 2, 1)), (30, .ok (.lconst 0, 1)), (31, .ok (.lcmp, 1)), (32, .ok (.ifCond .ne 7, 3)), (35, .ok (.iconst 1, 1)), (36, .ok (.goto 4, 3)), (39, .ok (.iconst 0, 1)), (40, .ok (.invokestatic 323, 3)), (43, .ok (.lastore, 1)), (44, .ok (.iconst 1, 1)), (45, .ok (.ireturn, 1)), (46, .ok (.aload_n 0, 1)), (47, .ok (.getfield 66, 3)), (50, .ok (.aload_n 0, 1)), (51, .ok (.getfield 320, 3)), (54, .ok (.iconst 2, 1)), (55, .ok (.isub, 1)), (56, .ok (.laload, 1)), (57, .ok (.lstore 4, 2)), (59, .ok (.aload_n 0, 1)), (60, .ok (.dup, 1)), (61, .ok (.getfield 320, 3)), (64, .ok (.iconst 1, 1))]
theorem da_267 : dl_267.all (fun q => decide (decode cX10_works q.1 = q.2)) = true := by decide +kernel
theorem dX10_works_0 : decode cX10_works 0 = .ok (.aload_n 0, 1) := dec_of (decode cX10_works) da_267 0 rfl
theorem dX10_works_1 : decode cX10_works 1 = .ok (.getfield 66, 3) := dec_of (decode cX10_works) da_267 1 rfl
theorem dX10_works_4 : decode cX10_works 4 = .ok (.aload_n 0, 1) := dec_of (decode cX10_works) da_267 2 rfl
theorem dX10_works_5 : decode cX10_works 5 = .ok (.getfield 320, 3) := dec_of (decode cX10_works) da_267 3 rfl
theorem dX10_works_8 : decode cX10_works 8 = .ok (.iconst 1, 1) := dec_of (decode cX10_works) da_267 4 rfl
theorem dX10_works_9 : decode cX10_works 9 = .ok (.isub, 1) := dec_of (decode cX10_works) da_267 5 rfl
theorem dX10_works_10 : decode cX10_works 10 = .ok (.laload, 1) := dec_of (decode cX10_works) da_267 6 rfl
theorem dX10_works_11 : decode cX10_works 11 = .ok (.lstore_n 2, 1) := dec_of (decode cX10_works) da_267 7 rfl
theorem dX10_works_12 : decode cX10_works 12 = .ok (.iload_n 1, 1) := dec_of (decode cX10_works) da_267 8 rfl
theorem dX10_works_13 : decode cX10_works 13 = .ok (.sipush 260, 3) := dec_of (decode cX10_works) da_267 9 rfl
theorem dX10_works_16 : decode cX10_works 16 = .ok (.if_icmp .ne 30, 3) := dec_of (decode cX10_works) da_267 10 rfl
theorem dX10_works_19 : decode cX10_works 19 = .ok (.aload_n 0, 1) := dec_of (decode cX10_works) da_267 11 rfl
theorem dX10_works_20 : decode cX10_works 20 = .ok (.getfield 66, 3) := dec_of (decode cX10_works) da_267 12 rfl
theorem dX10_works_23 : decode cX10_works 23 = .ok (.aload_n 0, 1) := dec_of (decode cX10_works) da_267 13 rfl
theorem dX10_works_24 : decode cX10_works 24 = .ok (.getfield 320, 3) := dec_of (decode cX10_works) da_267 14 rfl
theorem dX10_works_27 : decode cX10_works 27 = .ok (.iconst 1, 1) := dec_of (decode cX10_works) da_267 15 rfl
theorem dX10_works_28 : decode cX10_works 28 = .ok (.isub, 1) := dec_of (decode cX10_works) da_267 16 rfl
theorem dX10_works_29 : decode cX10_works 29 = .ok (.lload_n 2, 1) := dec_of (decode cX10_works) da_267 17 rfl
theorem dX10_works_30 : decode cX10_works 30 = .ok (.lconst 0, 1) := dec_of (decode cX10_works) da_267 18 rfl
theorem dX10_works_31 : decode cX10_works 31 = .ok (.lcmp, 1) := dec_of (decode cX10_works) da_267 19 rfl
theorem dX10_works_32 : decode cX10_works 32 = .ok (.ifCond .ne 7, 3) := dec_of (decode cX10_works) da_267 20 rfl
theorem dX10_works_35 : decode cX10_works 35 = .ok (.iconst 1, 1) := dec_of (decode cX10_works) da_267 21 rfl
theorem dX10_works_36 : decode cX10_works 36 = .ok (.goto 4, 3) := dec_of (decode cX10_works) da_267 22 rfl
theorem dX10_works_39 : decode cX10_works 39 = .ok (.iconst 0, 1) := dec_of (decode cX10_works) da_267 23 rfl
theorem dX10_works_40 : decode cX10_works 40 = .ok (.invokestatic 323, 3) := dec_of (decode cX10_works) da_267 24 rfl
theorem dX10_works_43 : decode cX10_works 43 = .ok (.lastore, 1) := dec_of (decode cX10_works) da_267 25 rfl
theorem dX10_works_44 : decode cX10_works 44 = .ok (.iconst 1, 1) := dec_of (decode cX10_works) da_267 26 rfl
theorem dX10_works_45 : decode cX10_works 45 = .ok (.ireturn, 1) := dec_of (decode cX10_works) da_267 27 rfl
theorem dX10_works_46 : decode cX10_works 46 = .ok (.aload_n 0, 1) := dec_of (decode cX10_works) da_267 28 rfl
theorem dX10_works_47 : decode cX10_works 47 = .ok (.getfield 66, 3) := dec_of (decode cX10_works) da_267 29 rfl
theorem dX10_works_50 : decode cX10_works 50 = .ok (.aload_n 0, 1) := dec_of (decode cX10_works) da_267 30 rfl
theorem dX10_works_51 : decode cX10_works 51 = .ok (.getfield 320, 3) := dec_of (decode cX10_works) da_267 31 rfl
theorem dX10_works_54 : decode cX10_works 54 = .ok (.iconst 2, 1) := dec_of (decode cX10_works) da_267 32 rfl
theorem dX10_works_55 : decode cX10_works 55 = .ok (.isub, 1) := dec_of (decode cX10_works) da_267 33 rfl
theorem dX10_works_56 : decode cX10_works 56 = .ok (.laload, 1) := dec_of (decode cX10_works) da_267 34 rfl
theorem dX10_works_57 : decode cX10_works 57 = .ok (.lstore 4, 2) := dec_of (decode cX10_works) da_267 35 rfl
theorem dX10_works_59 : decode cX10_works 59 = .ok (.aload_n 0, 1) := dec_of (decode cX10_works) da_267 36 rfl
theorem dX10_works_60 : decode cX10_works 60 = .ok (.dup, 1) := dec_of (decode cX10_works) da_267 37 rfl
theorem dX10_works_61 : decode cX10_works 61 = .ok (.getfield 320, 3) := dec_of (decode cX10_works) da_267 38 rfl
theorem dX10_works_64 : decode cX10_works 64 = .ok (.iconst 1, 1) := dec_of (decode cX10_works) da_267 39 rfl
abbrev dl_268 : List (Nat × Except DecodeError (Instr × Nat)) := [(65, .ok (.isub, 1)), (66, .ok (.putfield 320, 3)), (69, .ok (.iload_n 1, 1)), (70, .ok (.lookupswitch 314 #[(42, 116), (43, 98), (45, 107), (47, 151), (60, 168), (61, 208), (62, 188), (256, 228), (257, 268), (258, 248), (261, 288)], 98)), (168, .ok (.lload 4, 2)), (170, .ok (.lload_n 2, 1)), (171, .ok (.ladd, 1)), (172, .ok (.lstore 6, 2)), (174, .ok (.goto 233, 3)), (177, .ok (.lload 4, 2)), (179, .ok (.lload_n 2, 1)), (180, .ok (.lsub, 1)), (181, .ok (.lstore 6, 2)), (183, .ok (.goto 224, 3)), (186, .ok (.lload 4, 2)), (188, .ok (.lconst 0, 1)), (189, .ok (.lcmp, 1)), (190, .ok (.ifCond .eq 22, 3)), (193, .ok (.lload_n 2, 1)), (194, .ok (.invokestatic 327, 3)), (197, .ok (.ldc2_w 333, 3)), (200, .ok (.lload 4, 2)), (202, .ok (.invokestatic 327, 3)), (205, .ok (.ldiv, 1)), (206, .ok (.lcmp, 1)), (207, .ok (.ifCond .le 5, 3)), (210, .ok (.iconst 0, 1)), (211, .ok (.ireturn, 1)), (212, .ok (.lload 4, 2)), (214, .ok (.lload_n 2, 1)), (215, .ok (.lmul, 1)), (216, .ok (.lstore 6, 2)), (218, .ok (.goto 189, 3)), (221, .ok (.lload_n 2, 1)), (222, .ok (.lconst 0, 1)), (223, .ok (.lcmp, 1)), (224, .ok (.ifCond .ne 5, 3)), (227, .ok (.iconst 0, 1)), (228, .ok (.ireturn, 1)), (229, .ok (.lload 4, 2))]
theorem da_268 : dl_268.all (fun q => decide (decode cX10_works q.1 = q.2)) = true := by decide +kernel
theorem dX10_works_65 : decode cX10_works 65 = .ok (.isub, 1) := dec_of (decode cX10_works) da_268 0 rfl
theorem dX10_works_66 : decode cX10_works 66 = .ok (.putfield 320, 3) := dec_of (decode cX10_works) da_268 1 rfl
theorem dX10_works_69 : decode cX10_works 69 = .ok (.iload_n 1, 1) := dec_of (decode cX10_works) da_268 2 rfl
theorem dX10_works_70 : decode cX10_works 70 = .ok (.lookupswitch 314 #[(42, 116), (43, 98), (45, 107), (47, 151), (60, 168), (61, 208), (62, 188), (256, 228), (257, 268), (258, 248), (261, 288)], 98) := dec_of (decode cX10_works) da_268 3 rfl
theorem dX10_works_168 : decode cX10_works 168 = .ok (.lload 4, 2) := dec_of (decode cX10_works) da_268 4 rfl
theorem dX10_works_170 : decode cX10_works 170 = .ok (.lload_n 2, 1) := dec_of (decode cX10_works) da_268 5 rfl
theorem dX10_works_171 : decode cX10_works 171 = .ok (.ladd, 1) := dec_of (decode cX10_works) da_268 6 rfl
theorem dX10_works_172 : decode cX10_works 172 = .ok (.lstore 6, 2) := dec_of (decode cX10_works) da_268 7 rfl
theorem dX10_works_174 : decode cX10_works 174 = .ok (.goto 233, 3) := dec_of (decode cX10_works) da_268 8 rfl
theorem dX10_works_177 : decode cX10_works 177 = .ok (.lload 4, 2) := dec_of (decode cX10_works) da_268 9 rfl
theorem dX10_works_179 : decode cX10_works 179 = .ok (.lload_n 2, 1) := dec_of (decode cX10_works) da_268 10 rfl
theorem dX10_works_180 : decode cX10_works 180 = .ok (.lsub, 1) := dec_of (decode cX10_works) da_268 11 rfl
theorem dX10_works_181 : decode cX10_works 181 = .ok (.lstore 6, 2) := dec_of (decode cX10_works) da_268 12 rfl
theorem dX10_works_183 : decode cX10_works 183 = .ok (.goto 224, 3) := dec_of (decode cX10_works) da_268 13 rfl
theorem dX10_works_186 : decode cX10_works 186 = .ok (.lload 4, 2) := dec_of (decode cX10_works) da_268 14 rfl
theorem dX10_works_188 : decode cX10_works 188 = .ok (.lconst 0, 1) := dec_of (decode cX10_works) da_268 15 rfl
theorem dX10_works_189 : decode cX10_works 189 = .ok (.lcmp, 1) := dec_of (decode cX10_works) da_268 16 rfl
theorem dX10_works_190 : decode cX10_works 190 = .ok (.ifCond .eq 22, 3) := dec_of (decode cX10_works) da_268 17 rfl
theorem dX10_works_193 : decode cX10_works 193 = .ok (.lload_n 2, 1) := dec_of (decode cX10_works) da_268 18 rfl
theorem dX10_works_194 : decode cX10_works 194 = .ok (.invokestatic 327, 3) := dec_of (decode cX10_works) da_268 19 rfl
theorem dX10_works_197 : decode cX10_works 197 = .ok (.ldc2_w 333, 3) := dec_of (decode cX10_works) da_268 20 rfl
theorem dX10_works_200 : decode cX10_works 200 = .ok (.lload 4, 2) := dec_of (decode cX10_works) da_268 21 rfl
theorem dX10_works_202 : decode cX10_works 202 = .ok (.invokestatic 327, 3) := dec_of (decode cX10_works) da_268 22 rfl
theorem dX10_works_205 : decode cX10_works 205 = .ok (.ldiv, 1) := dec_of (decode cX10_works) da_268 23 rfl
theorem dX10_works_206 : decode cX10_works 206 = .ok (.lcmp, 1) := dec_of (decode cX10_works) da_268 24 rfl
theorem dX10_works_207 : decode cX10_works 207 = .ok (.ifCond .le 5, 3) := dec_of (decode cX10_works) da_268 25 rfl
theorem dX10_works_210 : decode cX10_works 210 = .ok (.iconst 0, 1) := dec_of (decode cX10_works) da_268 26 rfl
theorem dX10_works_211 : decode cX10_works 211 = .ok (.ireturn, 1) := dec_of (decode cX10_works) da_268 27 rfl
theorem dX10_works_212 : decode cX10_works 212 = .ok (.lload 4, 2) := dec_of (decode cX10_works) da_268 28 rfl
theorem dX10_works_214 : decode cX10_works 214 = .ok (.lload_n 2, 1) := dec_of (decode cX10_works) da_268 29 rfl
theorem dX10_works_215 : decode cX10_works 215 = .ok (.lmul, 1) := dec_of (decode cX10_works) da_268 30 rfl
theorem dX10_works_216 : decode cX10_works 216 = .ok (.lstore 6, 2) := dec_of (decode cX10_works) da_268 31 rfl
theorem dX10_works_218 : decode cX10_works 218 = .ok (.goto 189, 3) := dec_of (decode cX10_works) da_268 32 rfl
theorem dX10_works_221 : decode cX10_works 221 = .ok (.lload_n 2, 1) := dec_of (decode cX10_works) da_268 33 rfl
theorem dX10_works_222 : decode cX10_works 222 = .ok (.lconst 0, 1) := dec_of (decode cX10_works) da_268 34 rfl
theorem dX10_works_223 : decode cX10_works 223 = .ok (.lcmp, 1) := dec_of (decode cX10_works) da_268 35 rfl
theorem dX10_works_224 : decode cX10_works 224 = .ok (.ifCond .ne 5, 3) := dec_of (decode cX10_works) da_268 36 rfl
theorem dX10_works_227 : decode cX10_works 227 = .ok (.iconst 0, 1) := dec_of (decode cX10_works) da_268 37 rfl
theorem dX10_works_228 : decode cX10_works 228 = .ok (.ireturn, 1) := dec_of (decode cX10_works) da_268 38 rfl
theorem dX10_works_229 : decode cX10_works 229 = .ok (.lload 4, 2) := dec_of (decode cX10_works) da_268 39 rfl
abbrev dl_269 : List (Nat × Except DecodeError (Instr × Nat)) := [(231, .ok (.lload_n 2, 1)), (232, .ok (.ldiv, 1)), (233, .ok (.lstore 6, 2)), (235, .ok (.goto 172, 3)), (238, .ok (.lload 4, 2)), (240, .ok (.lload_n 2, 1)), (241, .ok (.lcmp, 1)), (242, .ok (.ifCond .ge 7, 3)), (245, .ok (.iconst 1, 1)), (246, .ok (.goto 4, 3)), (249, .ok (.iconst 0, 1)), (250, .ok (.invokestatic 323, 3)), (253, .ok (.lstore 6, 2)), (255, .ok (.goto 152, 3)), (258, .ok (.lload 4, 2)), (260, .ok (.lload_n 2, 1)), (261, .ok (.lcmp, 1)), (262, .ok (.ifCond .le 7, 3)), (265, .ok (.iconst 1, 1)), (266, .ok (.goto 4, 3)), (269, .ok (.iconst 0, 1)), (270, .ok (.invokestatic 323, 3)), (273, .ok (.lstore 6, 2)), (275, .ok (.goto 132, 3)), (278, .ok (.lload 4, 2)), (280, .ok (.lload_n 2, 1)), (281, .ok (.lcmp, 1)), (282, .ok (.ifCond .ne 7, 3)), (285, .ok (.iconst 1, 1)), (286, .ok (.goto 4, 3)), (289, .ok (.iconst 0, 1)), (290, .ok (.invokestatic 323, 3)), (293, .ok (.lstore 6, 2)), (295, .ok (.goto 112, 3)), (298, .ok (.lload 4, 2)), (300, .ok (.lload_n 2, 1)), (301, .ok (.lcmp, 1)), (302, .ok (.ifCond .gt 7, 3)), (305, .ok (.iconst 1, 1)), (306, .ok (.goto 4, 3))]
theorem da_269 : dl_269.all (fun q => decide (decode cX10_works q.1 = q.2)) = true := by decide +kernel
theorem dX10_works_231 : decode cX10_works 231 = .ok (.lload_n 2, 1) := dec_of (decode cX10_works) da_269 0 rfl
theorem dX10_works_232 : decode cX10_works 232 = .ok (.ldiv, 1) := dec_of (decode cX10_works) da_269 1 rfl
theorem dX10_works_233 : decode cX10_works 233 = .ok (.lstore 6, 2) := dec_of (decode cX10_works) da_269 2 rfl
theorem dX10_works_235 : decode cX10_works 235 = .ok (.goto 172, 3) := dec_of (decode cX10_works) da_269 3 rfl
theorem dX10_works_238 : decode cX10_works 238 = .ok (.lload 4, 2) := dec_of (decode cX10_works) da_269 4 rfl
theorem dX10_works_240 : decode cX10_works 240 = .ok (.lload_n 2, 1) := dec_of (decode cX10_works) da_269 5 rfl
theorem dX10_works_241 : decode cX10_works 241 = .ok (.lcmp, 1) := dec_of (decode cX10_works) da_269 6 rfl
theorem dX10_works_242 : decode cX10_works 242 = .ok (.ifCond .ge 7, 3) := dec_of (decode cX10_works) da_269 7 rfl
theorem dX10_works_245 : decode cX10_works 245 = .ok (.iconst 1, 1) := dec_of (decode cX10_works) da_269 8 rfl
theorem dX10_works_246 : decode cX10_works 246 = .ok (.goto 4, 3) := dec_of (decode cX10_works) da_269 9 rfl
theorem dX10_works_249 : decode cX10_works 249 = .ok (.iconst 0, 1) := dec_of (decode cX10_works) da_269 10 rfl
theorem dX10_works_250 : decode cX10_works 250 = .ok (.invokestatic 323, 3) := dec_of (decode cX10_works) da_269 11 rfl
theorem dX10_works_253 : decode cX10_works 253 = .ok (.lstore 6, 2) := dec_of (decode cX10_works) da_269 12 rfl
theorem dX10_works_255 : decode cX10_works 255 = .ok (.goto 152, 3) := dec_of (decode cX10_works) da_269 13 rfl
theorem dX10_works_258 : decode cX10_works 258 = .ok (.lload 4, 2) := dec_of (decode cX10_works) da_269 14 rfl
theorem dX10_works_260 : decode cX10_works 260 = .ok (.lload_n 2, 1) := dec_of (decode cX10_works) da_269 15 rfl
theorem dX10_works_261 : decode cX10_works 261 = .ok (.lcmp, 1) := dec_of (decode cX10_works) da_269 16 rfl
theorem dX10_works_262 : decode cX10_works 262 = .ok (.ifCond .le 7, 3) := dec_of (decode cX10_works) da_269 17 rfl
theorem dX10_works_265 : decode cX10_works 265 = .ok (.iconst 1, 1) := dec_of (decode cX10_works) da_269 18 rfl
theorem dX10_works_266 : decode cX10_works 266 = .ok (.goto 4, 3) := dec_of (decode cX10_works) da_269 19 rfl
theorem dX10_works_269 : decode cX10_works 269 = .ok (.iconst 0, 1) := dec_of (decode cX10_works) da_269 20 rfl
theorem dX10_works_270 : decode cX10_works 270 = .ok (.invokestatic 323, 3) := dec_of (decode cX10_works) da_269 21 rfl
theorem dX10_works_273 : decode cX10_works 273 = .ok (.lstore 6, 2) := dec_of (decode cX10_works) da_269 22 rfl
theorem dX10_works_275 : decode cX10_works 275 = .ok (.goto 132, 3) := dec_of (decode cX10_works) da_269 23 rfl
theorem dX10_works_278 : decode cX10_works 278 = .ok (.lload 4, 2) := dec_of (decode cX10_works) da_269 24 rfl
theorem dX10_works_280 : decode cX10_works 280 = .ok (.lload_n 2, 1) := dec_of (decode cX10_works) da_269 25 rfl
theorem dX10_works_281 : decode cX10_works 281 = .ok (.lcmp, 1) := dec_of (decode cX10_works) da_269 26 rfl
theorem dX10_works_282 : decode cX10_works 282 = .ok (.ifCond .ne 7, 3) := dec_of (decode cX10_works) da_269 27 rfl
theorem dX10_works_285 : decode cX10_works 285 = .ok (.iconst 1, 1) := dec_of (decode cX10_works) da_269 28 rfl
theorem dX10_works_286 : decode cX10_works 286 = .ok (.goto 4, 3) := dec_of (decode cX10_works) da_269 29 rfl
theorem dX10_works_289 : decode cX10_works 289 = .ok (.iconst 0, 1) := dec_of (decode cX10_works) da_269 30 rfl
theorem dX10_works_290 : decode cX10_works 290 = .ok (.invokestatic 323, 3) := dec_of (decode cX10_works) da_269 31 rfl
theorem dX10_works_293 : decode cX10_works 293 = .ok (.lstore 6, 2) := dec_of (decode cX10_works) da_269 32 rfl
theorem dX10_works_295 : decode cX10_works 295 = .ok (.goto 112, 3) := dec_of (decode cX10_works) da_269 33 rfl
theorem dX10_works_298 : decode cX10_works 298 = .ok (.lload 4, 2) := dec_of (decode cX10_works) da_269 34 rfl
theorem dX10_works_300 : decode cX10_works 300 = .ok (.lload_n 2, 1) := dec_of (decode cX10_works) da_269 35 rfl
theorem dX10_works_301 : decode cX10_works 301 = .ok (.lcmp, 1) := dec_of (decode cX10_works) da_269 36 rfl
theorem dX10_works_302 : decode cX10_works 302 = .ok (.ifCond .gt 7, 3) := dec_of (decode cX10_works) da_269 37 rfl
theorem dX10_works_305 : decode cX10_works 305 = .ok (.iconst 1, 1) := dec_of (decode cX10_works) da_269 38 rfl
theorem dX10_works_306 : decode cX10_works 306 = .ok (.goto 4, 3) := dec_of (decode cX10_works) da_269 39 rfl
abbrev dl_270 : List (Nat × Except DecodeError (Instr × Nat)) := [(309, .ok (.iconst 0, 1)), (310, .ok (.invokestatic 323, 3)), (313, .ok (.lstore 6, 2)), (315, .ok (.goto 92, 3)), (318, .ok (.lload 4, 2)), (320, .ok (.lload_n 2, 1)), (321, .ok (.lcmp, 1)), (322, .ok (.ifCond .lt 7, 3)), (325, .ok (.iconst 1, 1)), (326, .ok (.goto 4, 3)), (329, .ok (.iconst 0, 1)), (330, .ok (.invokestatic 323, 3)), (333, .ok (.lstore 6, 2)), (335, .ok (.goto 72, 3)), (338, .ok (.lload 4, 2)), (340, .ok (.lload_n 2, 1)), (341, .ok (.lcmp, 1)), (342, .ok (.ifCond .eq 7, 3)), (345, .ok (.iconst 1, 1)), (346, .ok (.goto 4, 3)), (349, .ok (.iconst 0, 1)), (350, .ok (.invokestatic 323, 3)), (353, .ok (.lstore 6, 2)), (355, .ok (.goto 52, 3)), (358, .ok (.lload 4, 2)), (360, .ok (.lconst 0, 1)), (361, .ok (.lcmp, 1)), (362, .ok (.ifCond .eq 13, 3)), (365, .ok (.lload_n 2, 1)), (366, .ok (.lconst 0, 1)), (367, .ok (.lcmp, 1)), (368, .ok (.ifCond .eq 7, 3)), (371, .ok (.iconst 1, 1)), (372, .ok (.goto 4, 3)), (375, .ok (.iconst 0, 1)), (376, .ok (.invokestatic 323, 3)), (379, .ok (.lstore 6, 2)), (381, .ok (.goto 26, 3)), (384, .ok (.lload 4, 2)), (386, .ok (.lconst 0, 1))]
theorem da_270 : dl_270.all (fun q => decide (decode cX10_works q.1 = q.2)) = true := by decide +kernel
theorem dX10_works_309 : decode cX10_works 309 = .ok (.iconst 0, 1) := dec_of (decode cX10_works) da_270 0 rfl
theorem dX10_works_310 : decode cX10_works 310 = .ok (.invokestatic 323, 3) := dec_of (decode cX10_works) da_270 1 rfl
theorem dX10_works_313 : decode cX10_works 313 = .ok (.lstore 6, 2) := dec_of (decode cX10_works) da_270 2 rfl
theorem dX10_works_315 : decode cX10_works 315 = .ok (.goto 92, 3) := dec_of (decode cX10_works) da_270 3 rfl
theorem dX10_works_318 : decode cX10_works 318 = .ok (.lload 4, 2) := dec_of (decode cX10_works) da_270 4 rfl
theorem dX10_works_320 : decode cX10_works 320 = .ok (.lload_n 2, 1) := dec_of (decode cX10_works) da_270 5 rfl
theorem dX10_works_321 : decode cX10_works 321 = .ok (.lcmp, 1) := dec_of (decode cX10_works) da_270 6 rfl
theorem dX10_works_322 : decode cX10_works 322 = .ok (.ifCond .lt 7, 3) := dec_of (decode cX10_works) da_270 7 rfl
theorem dX10_works_325 : decode cX10_works 325 = .ok (.iconst 1, 1) := dec_of (decode cX10_works) da_270 8 rfl
theorem dX10_works_326 : decode cX10_works 326 = .ok (.goto 4, 3) := dec_of (decode cX10_works) da_270 9 rfl
theorem dX10_works_329 : decode cX10_works 329 = .ok (.iconst 0, 1) := dec_of (decode cX10_works) da_270 10 rfl
theorem dX10_works_330 : decode cX10_works 330 = .ok (.invokestatic 323, 3) := dec_of (decode cX10_works) da_270 11 rfl
theorem dX10_works_333 : decode cX10_works 333 = .ok (.lstore 6, 2) := dec_of (decode cX10_works) da_270 12 rfl
theorem dX10_works_335 : decode cX10_works 335 = .ok (.goto 72, 3) := dec_of (decode cX10_works) da_270 13 rfl
theorem dX10_works_338 : decode cX10_works 338 = .ok (.lload 4, 2) := dec_of (decode cX10_works) da_270 14 rfl
theorem dX10_works_340 : decode cX10_works 340 = .ok (.lload_n 2, 1) := dec_of (decode cX10_works) da_270 15 rfl
theorem dX10_works_341 : decode cX10_works 341 = .ok (.lcmp, 1) := dec_of (decode cX10_works) da_270 16 rfl
theorem dX10_works_342 : decode cX10_works 342 = .ok (.ifCond .eq 7, 3) := dec_of (decode cX10_works) da_270 17 rfl
theorem dX10_works_345 : decode cX10_works 345 = .ok (.iconst 1, 1) := dec_of (decode cX10_works) da_270 18 rfl
theorem dX10_works_346 : decode cX10_works 346 = .ok (.goto 4, 3) := dec_of (decode cX10_works) da_270 19 rfl
theorem dX10_works_349 : decode cX10_works 349 = .ok (.iconst 0, 1) := dec_of (decode cX10_works) da_270 20 rfl
theorem dX10_works_350 : decode cX10_works 350 = .ok (.invokestatic 323, 3) := dec_of (decode cX10_works) da_270 21 rfl
theorem dX10_works_353 : decode cX10_works 353 = .ok (.lstore 6, 2) := dec_of (decode cX10_works) da_270 22 rfl
theorem dX10_works_355 : decode cX10_works 355 = .ok (.goto 52, 3) := dec_of (decode cX10_works) da_270 23 rfl
theorem dX10_works_358 : decode cX10_works 358 = .ok (.lload 4, 2) := dec_of (decode cX10_works) da_270 24 rfl
theorem dX10_works_360 : decode cX10_works 360 = .ok (.lconst 0, 1) := dec_of (decode cX10_works) da_270 25 rfl
theorem dX10_works_361 : decode cX10_works 361 = .ok (.lcmp, 1) := dec_of (decode cX10_works) da_270 26 rfl
theorem dX10_works_362 : decode cX10_works 362 = .ok (.ifCond .eq 13, 3) := dec_of (decode cX10_works) da_270 27 rfl
theorem dX10_works_365 : decode cX10_works 365 = .ok (.lload_n 2, 1) := dec_of (decode cX10_works) da_270 28 rfl
theorem dX10_works_366 : decode cX10_works 366 = .ok (.lconst 0, 1) := dec_of (decode cX10_works) da_270 29 rfl
theorem dX10_works_367 : decode cX10_works 367 = .ok (.lcmp, 1) := dec_of (decode cX10_works) da_270 30 rfl
theorem dX10_works_368 : decode cX10_works 368 = .ok (.ifCond .eq 7, 3) := dec_of (decode cX10_works) da_270 31 rfl
theorem dX10_works_371 : decode cX10_works 371 = .ok (.iconst 1, 1) := dec_of (decode cX10_works) da_270 32 rfl
theorem dX10_works_372 : decode cX10_works 372 = .ok (.goto 4, 3) := dec_of (decode cX10_works) da_270 33 rfl
theorem dX10_works_375 : decode cX10_works 375 = .ok (.iconst 0, 1) := dec_of (decode cX10_works) da_270 34 rfl
theorem dX10_works_376 : decode cX10_works 376 = .ok (.invokestatic 323, 3) := dec_of (decode cX10_works) da_270 35 rfl
theorem dX10_works_379 : decode cX10_works 379 = .ok (.lstore 6, 2) := dec_of (decode cX10_works) da_270 36 rfl
theorem dX10_works_381 : decode cX10_works 381 = .ok (.goto 26, 3) := dec_of (decode cX10_works) da_270 37 rfl
theorem dX10_works_384 : decode cX10_works 384 = .ok (.lload 4, 2) := dec_of (decode cX10_works) da_270 38 rfl
theorem dX10_works_386 : decode cX10_works 386 = .ok (.lconst 0, 1) := dec_of (decode cX10_works) da_270 39 rfl
abbrev dl_271 : List (Nat × Except DecodeError (Instr × Nat)) := [(387, .ok (.lcmp, 1)), (388, .ok (.ifCond .ne 9, 3)), (391, .ok (.lload_n 2, 1)), (392, .ok (.lconst 0, 1)), (393, .ok (.lcmp, 1)), (394, .ok (.ifCond .eq 7, 3)), (397, .ok (.iconst 1, 1)), (398, .ok (.goto 4, 3)), (401, .ok (.iconst 0, 1)), (402, .ok (.invokestatic 323, 3)), (405, .ok (.lstore 6, 2)), (407, .ok (.aload_n 0, 1)), (408, .ok (.getfield 66, 3)), (411, .ok (.aload_n 0, 1)), (412, .ok (.getfield 320, 3)), (415, .ok (.iconst 1, 1)), (416, .ok (.isub, 1)), (417, .ok (.lload 6, 2)), (419, .ok (.lastore, 1)), (420, .ok (.lload 6, 2)), (422, .ok (.ldc2_w 333, 3)), (425, .ok (.lcmp, 1)), (426, .ok (.ifCond .gt 16, 3)), (429, .ok (.lload 6, 2)), (431, .ok (.ldc2_w 335, 3)), (434, .ok (.lcmp, 1)), (435, .ok (.ifCond .lt 7, 3)), (438, .ok (.iconst 1, 1)), (439, .ok (.goto 4, 3)), (442, .ok (.iconst 0, 1)), (443, .ok (.ireturn, 1))]
theorem da_271 : dl_271.all (fun q => decide (decode cX10_works q.1 = q.2)) = true := by decide +kernel
theorem dX10_works_387 : decode cX10_works 387 = .ok (.lcmp, 1) := dec_of (decode cX10_works) da_271 0 rfl
theorem dX10_works_388 : decode cX10_works 388 = .ok (.ifCond .ne 9, 3) := dec_of (decode cX10_works) da_271 1 rfl
theorem dX10_works_391 : decode cX10_works 391 = .ok (.lload_n 2, 1) := dec_of (decode cX10_works) da_271 2 rfl
theorem dX10_works_392 : decode cX10_works 392 = .ok (.lconst 0, 1) := dec_of (decode cX10_works) da_271 3 rfl
theorem dX10_works_393 : decode cX10_works 393 = .ok (.lcmp, 1) := dec_of (decode cX10_works) da_271 4 rfl
theorem dX10_works_394 : decode cX10_works 394 = .ok (.ifCond .eq 7, 3) := dec_of (decode cX10_works) da_271 5 rfl
theorem dX10_works_397 : decode cX10_works 397 = .ok (.iconst 1, 1) := dec_of (decode cX10_works) da_271 6 rfl
theorem dX10_works_398 : decode cX10_works 398 = .ok (.goto 4, 3) := dec_of (decode cX10_works) da_271 7 rfl
theorem dX10_works_401 : decode cX10_works 401 = .ok (.iconst 0, 1) := dec_of (decode cX10_works) da_271 8 rfl
theorem dX10_works_402 : decode cX10_works 402 = .ok (.invokestatic 323, 3) := dec_of (decode cX10_works) da_271 9 rfl
theorem dX10_works_405 : decode cX10_works 405 = .ok (.lstore 6, 2) := dec_of (decode cX10_works) da_271 10 rfl
theorem dX10_works_407 : decode cX10_works 407 = .ok (.aload_n 0, 1) := dec_of (decode cX10_works) da_271 11 rfl
theorem dX10_works_408 : decode cX10_works 408 = .ok (.getfield 66, 3) := dec_of (decode cX10_works) da_271 12 rfl
theorem dX10_works_411 : decode cX10_works 411 = .ok (.aload_n 0, 1) := dec_of (decode cX10_works) da_271 13 rfl
theorem dX10_works_412 : decode cX10_works 412 = .ok (.getfield 320, 3) := dec_of (decode cX10_works) da_271 14 rfl
theorem dX10_works_415 : decode cX10_works 415 = .ok (.iconst 1, 1) := dec_of (decode cX10_works) da_271 15 rfl
theorem dX10_works_416 : decode cX10_works 416 = .ok (.isub, 1) := dec_of (decode cX10_works) da_271 16 rfl
theorem dX10_works_417 : decode cX10_works 417 = .ok (.lload 6, 2) := dec_of (decode cX10_works) da_271 17 rfl
theorem dX10_works_419 : decode cX10_works 419 = .ok (.lastore, 1) := dec_of (decode cX10_works) da_271 18 rfl
theorem dX10_works_420 : decode cX10_works 420 = .ok (.lload 6, 2) := dec_of (decode cX10_works) da_271 19 rfl
theorem dX10_works_422 : decode cX10_works 422 = .ok (.ldc2_w 333, 3) := dec_of (decode cX10_works) da_271 20 rfl
theorem dX10_works_425 : decode cX10_works 425 = .ok (.lcmp, 1) := dec_of (decode cX10_works) da_271 21 rfl
theorem dX10_works_426 : decode cX10_works 426 = .ok (.ifCond .gt 16, 3) := dec_of (decode cX10_works) da_271 22 rfl
theorem dX10_works_429 : decode cX10_works 429 = .ok (.lload 6, 2) := dec_of (decode cX10_works) da_271 23 rfl
theorem dX10_works_431 : decode cX10_works 431 = .ok (.ldc2_w 335, 3) := dec_of (decode cX10_works) da_271 24 rfl
theorem dX10_works_434 : decode cX10_works 434 = .ok (.lcmp, 1) := dec_of (decode cX10_works) da_271 25 rfl
theorem dX10_works_435 : decode cX10_works 435 = .ok (.ifCond .lt 7, 3) := dec_of (decode cX10_works) da_271 26 rfl
theorem dX10_works_438 : decode cX10_works 438 = .ok (.iconst 1, 1) := dec_of (decode cX10_works) da_271 27 rfl
theorem dX10_works_439 : decode cX10_works 439 = .ok (.goto 4, 3) := dec_of (decode cX10_works) da_271 28 rfl
theorem dX10_works_442 : decode cX10_works 442 = .ok (.iconst 0, 1) := dec_of (decode cX10_works) da_271 29 rfl
theorem dX10_works_443 : decode cX10_works 443 = .ok (.ireturn, 1) := dec_of (decode cX10_works) da_271 30 rfl
abbrev dl_272 : List (Nat × Except DecodeError (Instr × Nat)) := [(0, .ok (.aload_n 0, 1)), (1, .ok (.iconst 0, 1)), (2, .ok (.putfield 320, 3)), (5, .ok (.aload_n 0, 1)), (6, .ok (.getfield 46, 3)), (9, .ok (.iload_n 1, 1)), (10, .ok (.iaload, 1)), (11, .ok (.istore_n 2, 1)), (12, .ok (.iload_n 2, 1)), (13, .ok (.aload_n 0, 1)), (14, .ok (.getfield 49, 3)), (17, .ok (.iload_n 1, 1)), (18, .ok (.iaload, 1)), (19, .ok (.if_icmp .ge 83, 3)), (22, .ok (.aload_n 0, 1)), (23, .ok (.getfield 52, 3)), (26, .ok (.iload_n 2, 1)), (27, .ok (.iaload, 1)), (28, .ok (.iconst 2, 1)), (29, .ok (.if_icmp .ne 18, 3)), (32, .ok (.aload_n 0, 1)), (33, .ok (.aload_n 0, 1)), (34, .ok (.getfield 55, 3)), (37, .ok (.iload_n 2, 1)), (38, .ok (.iaload, 1)), (39, .ok (.invokevirtual 337, 3)), (42, .ok (.ifCond .ne 54, 3)), (45, .ok (.iconst 0, 1)), (46, .ok (.ireturn, 1)), (47, .ok (.aload_n 0, 1)), (48, .ok (.getfield 66, 3)), (51, .ok (.aload_n 0, 1)), (52, .ok (.getfield 320, 3)), (55, .ok (.aload_n 0, 1)), (56, .ok (.getfield 52, 3)), (59, .ok (.iload_n 2, 1)), (60, .ok (.iaload, 1)), (61, .ok (.ifCond .ne 13, 3)), (64, .ok (.aload_n 0, 1)), (65, .ok (.getfield 55, 3))]
theorem da_272 : dl_272.all (fun q => decide (decode cX10_goes q.1 = q.2)) = true := by decide +kernel
theorem dX10_goes_0 : decode cX10_goes 0 = .ok (.aload_n 0, 1) := dec_of (decode cX10_goes) da_272 0 rfl
theorem dX10_goes_1 : decode cX10_goes 1 = .ok (.iconst 0, 1) := dec_of (decode cX10_goes) da_272 1 rfl
theorem dX10_goes_2 : decode cX10_goes 2 = .ok (.putfield 320, 3) := dec_of (decode cX10_goes) da_272 2 rfl
theorem dX10_goes_5 : decode cX10_goes 5 = .ok (.aload_n 0, 1) := dec_of (decode cX10_goes) da_272 3 rfl
theorem dX10_goes_6 : decode cX10_goes 6 = .ok (.getfield 46, 3) := dec_of (decode cX10_goes) da_272 4 rfl
theorem dX10_goes_9 : decode cX10_goes 9 = .ok (.iload_n 1, 1) := dec_of (decode cX10_goes) da_272 5 rfl
theorem dX10_goes_10 : decode cX10_goes 10 = .ok (.iaload, 1) := dec_of (decode cX10_goes) da_272 6 rfl
theorem dX10_goes_11 : decode cX10_goes 11 = .ok (.istore_n 2, 1) := dec_of (decode cX10_goes) da_272 7 rfl
theorem dX10_goes_12 : decode cX10_goes 12 = .ok (.iload_n 2, 1) := dec_of (decode cX10_goes) da_272 8 rfl
theorem dX10_goes_13 : decode cX10_goes 13 = .ok (.aload_n 0, 1) := dec_of (decode cX10_goes) da_272 9 rfl
theorem dX10_goes_14 : decode cX10_goes 14 = .ok (.getfield 49, 3) := dec_of (decode cX10_goes) da_272 10 rfl
theorem dX10_goes_17 : decode cX10_goes 17 = .ok (.iload_n 1, 1) := dec_of (decode cX10_goes) da_272 11 rfl
theorem dX10_goes_18 : decode cX10_goes 18 = .ok (.iaload, 1) := dec_of (decode cX10_goes) da_272 12 rfl
theorem dX10_goes_19 : decode cX10_goes 19 = .ok (.if_icmp .ge 83, 3) := dec_of (decode cX10_goes) da_272 13 rfl
theorem dX10_goes_22 : decode cX10_goes 22 = .ok (.aload_n 0, 1) := dec_of (decode cX10_goes) da_272 14 rfl
theorem dX10_goes_23 : decode cX10_goes 23 = .ok (.getfield 52, 3) := dec_of (decode cX10_goes) da_272 15 rfl
theorem dX10_goes_26 : decode cX10_goes 26 = .ok (.iload_n 2, 1) := dec_of (decode cX10_goes) da_272 16 rfl
theorem dX10_goes_27 : decode cX10_goes 27 = .ok (.iaload, 1) := dec_of (decode cX10_goes) da_272 17 rfl
theorem dX10_goes_28 : decode cX10_goes 28 = .ok (.iconst 2, 1) := dec_of (decode cX10_goes) da_272 18 rfl
theorem dX10_goes_29 : decode cX10_goes 29 = .ok (.if_icmp .ne 18, 3) := dec_of (decode cX10_goes) da_272 19 rfl
theorem dX10_goes_32 : decode cX10_goes 32 = .ok (.aload_n 0, 1) := dec_of (decode cX10_goes) da_272 20 rfl
theorem dX10_goes_33 : decode cX10_goes 33 = .ok (.aload_n 0, 1) := dec_of (decode cX10_goes) da_272 21 rfl
theorem dX10_goes_34 : decode cX10_goes 34 = .ok (.getfield 55, 3) := dec_of (decode cX10_goes) da_272 22 rfl
theorem dX10_goes_37 : decode cX10_goes 37 = .ok (.iload_n 2, 1) := dec_of (decode cX10_goes) da_272 23 rfl
theorem dX10_goes_38 : decode cX10_goes 38 = .ok (.iaload, 1) := dec_of (decode cX10_goes) da_272 24 rfl
theorem dX10_goes_39 : decode cX10_goes 39 = .ok (.invokevirtual 337, 3) := dec_of (decode cX10_goes) da_272 25 rfl
theorem dX10_goes_42 : decode cX10_goes 42 = .ok (.ifCond .ne 54, 3) := dec_of (decode cX10_goes) da_272 26 rfl
theorem dX10_goes_45 : decode cX10_goes 45 = .ok (.iconst 0, 1) := dec_of (decode cX10_goes) da_272 27 rfl
theorem dX10_goes_46 : decode cX10_goes 46 = .ok (.ireturn, 1) := dec_of (decode cX10_goes) da_272 28 rfl
theorem dX10_goes_47 : decode cX10_goes 47 = .ok (.aload_n 0, 1) := dec_of (decode cX10_goes) da_272 29 rfl
theorem dX10_goes_48 : decode cX10_goes 48 = .ok (.getfield 66, 3) := dec_of (decode cX10_goes) da_272 30 rfl
theorem dX10_goes_51 : decode cX10_goes 51 = .ok (.aload_n 0, 1) := dec_of (decode cX10_goes) da_272 31 rfl
theorem dX10_goes_52 : decode cX10_goes 52 = .ok (.getfield 320, 3) := dec_of (decode cX10_goes) da_272 32 rfl
theorem dX10_goes_55 : decode cX10_goes 55 = .ok (.aload_n 0, 1) := dec_of (decode cX10_goes) da_272 33 rfl
theorem dX10_goes_56 : decode cX10_goes 56 = .ok (.getfield 52, 3) := dec_of (decode cX10_goes) da_272 34 rfl
theorem dX10_goes_59 : decode cX10_goes 59 = .ok (.iload_n 2, 1) := dec_of (decode cX10_goes) da_272 35 rfl
theorem dX10_goes_60 : decode cX10_goes 60 = .ok (.iaload, 1) := dec_of (decode cX10_goes) da_272 36 rfl
theorem dX10_goes_61 : decode cX10_goes 61 = .ok (.ifCond .ne 13, 3) := dec_of (decode cX10_goes) da_272 37 rfl
theorem dX10_goes_64 : decode cX10_goes 64 = .ok (.aload_n 0, 1) := dec_of (decode cX10_goes) da_272 38 rfl
theorem dX10_goes_65 : decode cX10_goes 65 = .ok (.getfield 55, 3) := dec_of (decode cX10_goes) da_272 39 rfl
abbrev dl_273 : List (Nat × Except DecodeError (Instr × Nat)) := [(68, .ok (.iload_n 2, 1)), (69, .ok (.iaload, 1)), (70, .ok (.i2l, 1)), (71, .ok (.goto 14, 3)), (74, .ok (.aload_n 0, 1)), (75, .ok (.getfield 62, 3)), (78, .ok (.aload_n 0, 1)), (79, .ok (.getfield 55, 3)), (82, .ok (.iload_n 2, 1)), (83, .ok (.iaload, 1)), (84, .ok (.laload, 1)), (85, .ok (.lastore, 1)), (86, .ok (.aload_n 0, 1)), (87, .ok (.dup, 1)), (88, .ok (.getfield 320, 3)), (91, .ok (.iconst 1, 1)), (92, .ok (.iadd, 1)), (93, .ok (.putfield 320, 3)), (96, .ok (.iinc 2 1, 3)), (99, .ok (.goto (-87), 3)), (102, .ok (.iconst 1, 1)), (103, .ok (.ireturn, 1))]
theorem da_273 : dl_273.all (fun q => decide (decode cX10_goes q.1 = q.2)) = true := by decide +kernel
theorem dX10_goes_68 : decode cX10_goes 68 = .ok (.iload_n 2, 1) := dec_of (decode cX10_goes) da_273 0 rfl
theorem dX10_goes_69 : decode cX10_goes 69 = .ok (.iaload, 1) := dec_of (decode cX10_goes) da_273 1 rfl
theorem dX10_goes_70 : decode cX10_goes 70 = .ok (.i2l, 1) := dec_of (decode cX10_goes) da_273 2 rfl
theorem dX10_goes_71 : decode cX10_goes 71 = .ok (.goto 14, 3) := dec_of (decode cX10_goes) da_273 3 rfl
theorem dX10_goes_74 : decode cX10_goes 74 = .ok (.aload_n 0, 1) := dec_of (decode cX10_goes) da_273 4 rfl
theorem dX10_goes_75 : decode cX10_goes 75 = .ok (.getfield 62, 3) := dec_of (decode cX10_goes) da_273 5 rfl
theorem dX10_goes_78 : decode cX10_goes 78 = .ok (.aload_n 0, 1) := dec_of (decode cX10_goes) da_273 6 rfl
theorem dX10_goes_79 : decode cX10_goes 79 = .ok (.getfield 55, 3) := dec_of (decode cX10_goes) da_273 7 rfl
theorem dX10_goes_82 : decode cX10_goes 82 = .ok (.iload_n 2, 1) := dec_of (decode cX10_goes) da_273 8 rfl
theorem dX10_goes_83 : decode cX10_goes 83 = .ok (.iaload, 1) := dec_of (decode cX10_goes) da_273 9 rfl
theorem dX10_goes_84 : decode cX10_goes 84 = .ok (.laload, 1) := dec_of (decode cX10_goes) da_273 10 rfl
theorem dX10_goes_85 : decode cX10_goes 85 = .ok (.lastore, 1) := dec_of (decode cX10_goes) da_273 11 rfl
theorem dX10_goes_86 : decode cX10_goes 86 = .ok (.aload_n 0, 1) := dec_of (decode cX10_goes) da_273 12 rfl
theorem dX10_goes_87 : decode cX10_goes 87 = .ok (.dup, 1) := dec_of (decode cX10_goes) da_273 13 rfl
theorem dX10_goes_88 : decode cX10_goes 88 = .ok (.getfield 320, 3) := dec_of (decode cX10_goes) da_273 14 rfl
theorem dX10_goes_91 : decode cX10_goes 91 = .ok (.iconst 1, 1) := dec_of (decode cX10_goes) da_273 15 rfl
theorem dX10_goes_92 : decode cX10_goes 92 = .ok (.iadd, 1) := dec_of (decode cX10_goes) da_273 16 rfl
theorem dX10_goes_93 : decode cX10_goes 93 = .ok (.putfield 320, 3) := dec_of (decode cX10_goes) da_273 17 rfl
theorem dX10_goes_96 : decode cX10_goes 96 = .ok (.iinc 2 1, 3) := dec_of (decode cX10_goes) da_273 18 rfl
theorem dX10_goes_99 : decode cX10_goes 99 = .ok (.goto (-87), 3) := dec_of (decode cX10_goes) da_273 19 rfl
theorem dX10_goes_102 : decode cX10_goes 102 = .ok (.iconst 1, 1) := dec_of (decode cX10_goes) da_273 20 rfl
theorem dX10_goes_103 : decode cX10_goes 103 = .ok (.ireturn, 1) := dec_of (decode cX10_goes) da_273 21 rfl
abbrev dl_274 : List (Nat × Except DecodeError (Instr × Nat)) := [(0, .ok (.aload_n 0, 1)), (1, .ok (.getfield 49, 3)), (4, .ok (.iload_n 1, 1)), (5, .ok (.iaload, 1)), (6, .ok (.aload_n 0, 1)), (7, .ok (.getfield 46, 3)), (10, .ok (.iload_n 1, 1)), (11, .ok (.iaload, 1)), (12, .ok (.if_icmp .le 7, 3)), (15, .ok (.iconst 1, 1)), (16, .ok (.goto 4, 3)), (19, .ok (.iconst 0, 1)), (20, .ok (.ireturn, 1))]
theorem da_274 : dl_274.all (fun q => decide (decode cX10_hasLaw q.1 = q.2)) = true := by decide +kernel
theorem dX10_hasLaw_0 : decode cX10_hasLaw 0 = .ok (.aload_n 0, 1) := dec_of (decode cX10_hasLaw) da_274 0 rfl
theorem dX10_hasLaw_1 : decode cX10_hasLaw 1 = .ok (.getfield 49, 3) := dec_of (decode cX10_hasLaw) da_274 1 rfl
theorem dX10_hasLaw_4 : decode cX10_hasLaw 4 = .ok (.iload_n 1, 1) := dec_of (decode cX10_hasLaw) da_274 2 rfl
theorem dX10_hasLaw_5 : decode cX10_hasLaw 5 = .ok (.iaload, 1) := dec_of (decode cX10_hasLaw) da_274 3 rfl
theorem dX10_hasLaw_6 : decode cX10_hasLaw 6 = .ok (.aload_n 0, 1) := dec_of (decode cX10_hasLaw) da_274 4 rfl
theorem dX10_hasLaw_7 : decode cX10_hasLaw 7 = .ok (.getfield 46, 3) := dec_of (decode cX10_hasLaw) da_274 5 rfl
theorem dX10_hasLaw_10 : decode cX10_hasLaw 10 = .ok (.iload_n 1, 1) := dec_of (decode cX10_hasLaw) da_274 6 rfl
theorem dX10_hasLaw_11 : decode cX10_hasLaw 11 = .ok (.iaload, 1) := dec_of (decode cX10_hasLaw) da_274 7 rfl
theorem dX10_hasLaw_12 : decode cX10_hasLaw 12 = .ok (.if_icmp .le 7, 3) := dec_of (decode cX10_hasLaw) da_274 8 rfl
theorem dX10_hasLaw_15 : decode cX10_hasLaw 15 = .ok (.iconst 1, 1) := dec_of (decode cX10_hasLaw) da_274 9 rfl
theorem dX10_hasLaw_16 : decode cX10_hasLaw 16 = .ok (.goto 4, 3) := dec_of (decode cX10_hasLaw) da_274 10 rfl
theorem dX10_hasLaw_19 : decode cX10_hasLaw 19 = .ok (.iconst 0, 1) := dec_of (decode cX10_hasLaw) da_274 11 rfl
theorem dX10_hasLaw_20 : decode cX10_hasLaw 20 = .ok (.ireturn, 1) := dec_of (decode cX10_hasLaw) da_274 12 rfl
abbrev dl_275 : List (Nat × Except DecodeError (Instr × Nat)) := [(0, .ok (.bipush 8, 2)), (2, .ok (.iload_n 1, 1)), (3, .ok (.imul, 1)), (4, .ok (.iload_n 2, 1)), (5, .ok (.iadd, 1)), (6, .ok (.istore 5, 2)), (8, .ok (.aload_n 0, 1)), (9, .ok (.getfield 62, 3)), (12, .ok (.iconst 0, 1)), (13, .ok (.aload_n 0, 1)), (14, .ok (.getfield 19, 3)), (17, .ok (.iload_n 2, 1)), (18, .ok (.iaload, 1)), (19, .ok (.i2l, 1)), (20, .ok (.lastore, 1)), (21, .ok (.aload_n 0, 1)), (22, .ok (.getfield 62, 3)), (25, .ok (.iconst 1, 1)), (26, .ok (.aload_n 0, 1)), (27, .ok (.getfield 22, 3)), (30, .ok (.iload_n 2, 1)), (31, .ok (.iaload, 1)), (32, .ok (.i2l, 1)), (33, .ok (.lastore, 1)), (34, .ok (.aload_n 0, 1)), (35, .ok (.getfield 62, 3)), (38, .ok (.iconst 2, 1)), (39, .ok (.aload_n 0, 1)), (40, .ok (.getfield 28, 3)), (43, .ok (.iload_n 2, 1)), (44, .ok (.iaload, 1)), (45, .ok (.i2l, 1)), (46, .ok (.lastore, 1)), (47, .ok (.aload_n 0, 1)), (48, .ok (.getfield 62, 3)), (51, .ok (.iconst 3, 1)), (52, .ok (.aload_n 0, 1)), (53, .ok (.getfield 96, 3)), (56, .ok (.iload 5, 2)), (58, .ok (.iaload, 1))]
theorem da_275 : dl_275.all (fun q => decide (decode cX10_calls q.1 = q.2)) = true := by decide +kernel
theorem dX10_calls_0 : decode cX10_calls 0 = .ok (.bipush 8, 2) := dec_of (decode cX10_calls) da_275 0 rfl
theorem dX10_calls_2 : decode cX10_calls 2 = .ok (.iload_n 1, 1) := dec_of (decode cX10_calls) da_275 1 rfl
theorem dX10_calls_3 : decode cX10_calls 3 = .ok (.imul, 1) := dec_of (decode cX10_calls) da_275 2 rfl
theorem dX10_calls_4 : decode cX10_calls 4 = .ok (.iload_n 2, 1) := dec_of (decode cX10_calls) da_275 3 rfl
theorem dX10_calls_5 : decode cX10_calls 5 = .ok (.iadd, 1) := dec_of (decode cX10_calls) da_275 4 rfl
theorem dX10_calls_6 : decode cX10_calls 6 = .ok (.istore 5, 2) := dec_of (decode cX10_calls) da_275 5 rfl
theorem dX10_calls_8 : decode cX10_calls 8 = .ok (.aload_n 0, 1) := dec_of (decode cX10_calls) da_275 6 rfl
theorem dX10_calls_9 : decode cX10_calls 9 = .ok (.getfield 62, 3) := dec_of (decode cX10_calls) da_275 7 rfl
theorem dX10_calls_12 : decode cX10_calls 12 = .ok (.iconst 0, 1) := dec_of (decode cX10_calls) da_275 8 rfl
theorem dX10_calls_13 : decode cX10_calls 13 = .ok (.aload_n 0, 1) := dec_of (decode cX10_calls) da_275 9 rfl
theorem dX10_calls_14 : decode cX10_calls 14 = .ok (.getfield 19, 3) := dec_of (decode cX10_calls) da_275 10 rfl
theorem dX10_calls_17 : decode cX10_calls 17 = .ok (.iload_n 2, 1) := dec_of (decode cX10_calls) da_275 11 rfl
theorem dX10_calls_18 : decode cX10_calls 18 = .ok (.iaload, 1) := dec_of (decode cX10_calls) da_275 12 rfl
theorem dX10_calls_19 : decode cX10_calls 19 = .ok (.i2l, 1) := dec_of (decode cX10_calls) da_275 13 rfl
theorem dX10_calls_20 : decode cX10_calls 20 = .ok (.lastore, 1) := dec_of (decode cX10_calls) da_275 14 rfl
theorem dX10_calls_21 : decode cX10_calls 21 = .ok (.aload_n 0, 1) := dec_of (decode cX10_calls) da_275 15 rfl
theorem dX10_calls_22 : decode cX10_calls 22 = .ok (.getfield 62, 3) := dec_of (decode cX10_calls) da_275 16 rfl
theorem dX10_calls_25 : decode cX10_calls 25 = .ok (.iconst 1, 1) := dec_of (decode cX10_calls) da_275 17 rfl
theorem dX10_calls_26 : decode cX10_calls 26 = .ok (.aload_n 0, 1) := dec_of (decode cX10_calls) da_275 18 rfl
theorem dX10_calls_27 : decode cX10_calls 27 = .ok (.getfield 22, 3) := dec_of (decode cX10_calls) da_275 19 rfl
theorem dX10_calls_30 : decode cX10_calls 30 = .ok (.iload_n 2, 1) := dec_of (decode cX10_calls) da_275 20 rfl
theorem dX10_calls_31 : decode cX10_calls 31 = .ok (.iaload, 1) := dec_of (decode cX10_calls) da_275 21 rfl
theorem dX10_calls_32 : decode cX10_calls 32 = .ok (.i2l, 1) := dec_of (decode cX10_calls) da_275 22 rfl
theorem dX10_calls_33 : decode cX10_calls 33 = .ok (.lastore, 1) := dec_of (decode cX10_calls) da_275 23 rfl
theorem dX10_calls_34 : decode cX10_calls 34 = .ok (.aload_n 0, 1) := dec_of (decode cX10_calls) da_275 24 rfl
theorem dX10_calls_35 : decode cX10_calls 35 = .ok (.getfield 62, 3) := dec_of (decode cX10_calls) da_275 25 rfl
theorem dX10_calls_38 : decode cX10_calls 38 = .ok (.iconst 2, 1) := dec_of (decode cX10_calls) da_275 26 rfl
theorem dX10_calls_39 : decode cX10_calls 39 = .ok (.aload_n 0, 1) := dec_of (decode cX10_calls) da_275 27 rfl
theorem dX10_calls_40 : decode cX10_calls 40 = .ok (.getfield 28, 3) := dec_of (decode cX10_calls) da_275 28 rfl
theorem dX10_calls_43 : decode cX10_calls 43 = .ok (.iload_n 2, 1) := dec_of (decode cX10_calls) da_275 29 rfl
theorem dX10_calls_44 : decode cX10_calls 44 = .ok (.iaload, 1) := dec_of (decode cX10_calls) da_275 30 rfl
theorem dX10_calls_45 : decode cX10_calls 45 = .ok (.i2l, 1) := dec_of (decode cX10_calls) da_275 31 rfl
theorem dX10_calls_46 : decode cX10_calls 46 = .ok (.lastore, 1) := dec_of (decode cX10_calls) da_275 32 rfl
theorem dX10_calls_47 : decode cX10_calls 47 = .ok (.aload_n 0, 1) := dec_of (decode cX10_calls) da_275 33 rfl
theorem dX10_calls_48 : decode cX10_calls 48 = .ok (.getfield 62, 3) := dec_of (decode cX10_calls) da_275 34 rfl
theorem dX10_calls_51 : decode cX10_calls 51 = .ok (.iconst 3, 1) := dec_of (decode cX10_calls) da_275 35 rfl
theorem dX10_calls_52 : decode cX10_calls 52 = .ok (.aload_n 0, 1) := dec_of (decode cX10_calls) da_275 36 rfl
theorem dX10_calls_53 : decode cX10_calls 53 = .ok (.getfield 96, 3) := dec_of (decode cX10_calls) da_275 37 rfl
theorem dX10_calls_56 : decode cX10_calls 56 = .ok (.iload 5, 2) := dec_of (decode cX10_calls) da_275 38 rfl
theorem dX10_calls_58 : decode cX10_calls 58 = .ok (.iaload, 1) := dec_of (decode cX10_calls) da_275 39 rfl
abbrev dl_276 : List (Nat × Except DecodeError (Instr × Nat)) := [(59, .ok (.i2l, 1)), (60, .ok (.lastore, 1)), (61, .ok (.aload_n 0, 1)), (62, .ok (.getfield 62, 3)), (65, .ok (.iconst 4, 1)), (66, .ok (.iload_n 3, 1)), (67, .ok (.i2l, 1)), (68, .ok (.lastore, 1)), (69, .ok (.aload_n 0, 1)), (70, .ok (.getfield 62, 3)), (73, .ok (.iconst 5, 1)), (74, .ok (.iload 4, 2)), (76, .ok (.aload_n 0, 1)), (77, .ok (.getfield 102, 3)), (80, .ok (.iload 5, 2)), (82, .ok (.iaload, 1)), (83, .ok (.isub, 1)), (84, .ok (.i2l, 1)), (85, .ok (.lastore, 1)), (86, .ok (.return_, 1))]
theorem da_276 : dl_276.all (fun q => decide (decode cX10_calls q.1 = q.2)) = true := by decide +kernel
theorem dX10_calls_59 : decode cX10_calls 59 = .ok (.i2l, 1) := dec_of (decode cX10_calls) da_276 0 rfl
theorem dX10_calls_60 : decode cX10_calls 60 = .ok (.lastore, 1) := dec_of (decode cX10_calls) da_276 1 rfl
theorem dX10_calls_61 : decode cX10_calls 61 = .ok (.aload_n 0, 1) := dec_of (decode cX10_calls) da_276 2 rfl
theorem dX10_calls_62 : decode cX10_calls 62 = .ok (.getfield 62, 3) := dec_of (decode cX10_calls) da_276 3 rfl
theorem dX10_calls_65 : decode cX10_calls 65 = .ok (.iconst 4, 1) := dec_of (decode cX10_calls) da_276 4 rfl
theorem dX10_calls_66 : decode cX10_calls 66 = .ok (.iload_n 3, 1) := dec_of (decode cX10_calls) da_276 5 rfl
theorem dX10_calls_67 : decode cX10_calls 67 = .ok (.i2l, 1) := dec_of (decode cX10_calls) da_276 6 rfl
theorem dX10_calls_68 : decode cX10_calls 68 = .ok (.lastore, 1) := dec_of (decode cX10_calls) da_276 7 rfl
theorem dX10_calls_69 : decode cX10_calls 69 = .ok (.aload_n 0, 1) := dec_of (decode cX10_calls) da_276 8 rfl
theorem dX10_calls_70 : decode cX10_calls 70 = .ok (.getfield 62, 3) := dec_of (decode cX10_calls) da_276 9 rfl
theorem dX10_calls_73 : decode cX10_calls 73 = .ok (.iconst 5, 1) := dec_of (decode cX10_calls) da_276 10 rfl
theorem dX10_calls_74 : decode cX10_calls 74 = .ok (.iload 4, 2) := dec_of (decode cX10_calls) da_276 11 rfl
theorem dX10_calls_76 : decode cX10_calls 76 = .ok (.aload_n 0, 1) := dec_of (decode cX10_calls) da_276 12 rfl
theorem dX10_calls_77 : decode cX10_calls 77 = .ok (.getfield 102, 3) := dec_of (decode cX10_calls) da_276 13 rfl
theorem dX10_calls_80 : decode cX10_calls 80 = .ok (.iload 5, 2) := dec_of (decode cX10_calls) da_276 14 rfl
theorem dX10_calls_82 : decode cX10_calls 82 = .ok (.iaload, 1) := dec_of (decode cX10_calls) da_276 15 rfl
theorem dX10_calls_83 : decode cX10_calls 83 = .ok (.isub, 1) := dec_of (decode cX10_calls) da_276 16 rfl
theorem dX10_calls_84 : decode cX10_calls 84 = .ok (.i2l, 1) := dec_of (decode cX10_calls) da_276 17 rfl
theorem dX10_calls_85 : decode cX10_calls 85 = .ok (.lastore, 1) := dec_of (decode cX10_calls) da_276 18 rfl
theorem dX10_calls_86 : decode cX10_calls 86 = .ok (.return_, 1) := dec_of (decode cX10_calls) da_276 19 rfl
abbrev dl_277 : List (Nat × Except DecodeError (Instr × Nat)) := [(0, .ok (.aload_n 0, 1)), (1, .ok (.iload_n 1, 1)), (2, .ok (.invokevirtual 340, 3)), (5, .ok (.ifCond .eq 11, 3)), (8, .ok (.aload_n 0, 1)), (9, .ok (.iload_n 1, 1)), (10, .ok (.invokevirtual 343, 3)), (13, .ok (.ifCond .ne 6, 3)), (16, .ok (.iload 4, 2)), (18, .ok (.ireturn, 1)), (19, .ok (.iload_n 2, 1)), (20, .ok (.i2l, 1)), (21, .ok (.iload_n 3, 1)), (22, .ok (.i2l, 1)), (23, .ok (.aload_n 0, 1)), (24, .ok (.getfield 66, 3)), (27, .ok (.iconst 0, 1)), (28, .ok (.laload, 1)), (29, .ok (.invokestatic 346, 3)), (32, .ok (.invokestatic 350, 3)), (35, .ok (.l2i, 1)), (36, .ok (.ireturn, 1))]
theorem da_277 : dl_277.all (fun q => decide (decode cX10_within q.1 = q.2)) = true := by decide +kernel
theorem dX10_within_0 : decode cX10_within 0 = .ok (.aload_n 0, 1) := dec_of (decode cX10_within) da_277 0 rfl
theorem dX10_within_1 : decode cX10_within 1 = .ok (.iload_n 1, 1) := dec_of (decode cX10_within) da_277 1 rfl
theorem dX10_within_2 : decode cX10_within 2 = .ok (.invokevirtual 340, 3) := dec_of (decode cX10_within) da_277 2 rfl
theorem dX10_within_5 : decode cX10_within 5 = .ok (.ifCond .eq 11, 3) := dec_of (decode cX10_within) da_277 3 rfl
theorem dX10_within_8 : decode cX10_within 8 = .ok (.aload_n 0, 1) := dec_of (decode cX10_within) da_277 4 rfl
theorem dX10_within_9 : decode cX10_within 9 = .ok (.iload_n 1, 1) := dec_of (decode cX10_within) da_277 5 rfl
theorem dX10_within_10 : decode cX10_within 10 = .ok (.invokevirtual 343, 3) := dec_of (decode cX10_within) da_277 6 rfl
theorem dX10_within_13 : decode cX10_within 13 = .ok (.ifCond .ne 6, 3) := dec_of (decode cX10_within) da_277 7 rfl
theorem dX10_within_16 : decode cX10_within 16 = .ok (.iload 4, 2) := dec_of (decode cX10_within) da_277 8 rfl
theorem dX10_within_18 : decode cX10_within 18 = .ok (.ireturn, 1) := dec_of (decode cX10_within) da_277 9 rfl
theorem dX10_within_19 : decode cX10_within 19 = .ok (.iload_n 2, 1) := dec_of (decode cX10_within) da_277 10 rfl
theorem dX10_within_20 : decode cX10_within 20 = .ok (.i2l, 1) := dec_of (decode cX10_within) da_277 11 rfl
theorem dX10_within_21 : decode cX10_within 21 = .ok (.iload_n 3, 1) := dec_of (decode cX10_within) da_277 12 rfl
theorem dX10_within_22 : decode cX10_within 22 = .ok (.i2l, 1) := dec_of (decode cX10_within) da_277 13 rfl
theorem dX10_within_23 : decode cX10_within 23 = .ok (.aload_n 0, 1) := dec_of (decode cX10_within) da_277 14 rfl
theorem dX10_within_24 : decode cX10_within 24 = .ok (.getfield 66, 3) := dec_of (decode cX10_within) da_277 15 rfl
theorem dX10_within_27 : decode cX10_within 27 = .ok (.iconst 0, 1) := dec_of (decode cX10_within) da_277 16 rfl
theorem dX10_within_28 : decode cX10_within 28 = .ok (.laload, 1) := dec_of (decode cX10_within) da_277 17 rfl
theorem dX10_within_29 : decode cX10_within 29 = .ok (.invokestatic 346, 3) := dec_of (decode cX10_within) da_277 18 rfl
theorem dX10_within_32 : decode cX10_within 32 = .ok (.invokestatic 350, 3) := dec_of (decode cX10_within) da_277 19 rfl
theorem dX10_within_35 : decode cX10_within 35 = .ok (.l2i, 1) := dec_of (decode cX10_within) da_277 20 rfl
theorem dX10_within_36 : decode cX10_within 36 = .ok (.ireturn, 1) := dec_of (decode cX10_within) da_277 21 rfl
abbrev dl_278 : List (Nat × Except DecodeError (Instr × Nat)) := [(0, .ok (.aload_n 0, 1)), (1, .ok (.getfield 69, 3)), (4, .ok (.iload_n 1, 1)), (5, .ok (.iconst 0, 1)), (6, .ok (.iastore, 1)), (7, .ok (.aload_n 0, 1)), (8, .ok (.getfield 72, 3)), (11, .ok (.iload_n 1, 1)), (12, .ok (.aload_n 0, 1)), (13, .ok (.getfield 13, 3)), (16, .ok (.iconst 1, 1)), (17, .ok (.iaload, 1)), (18, .ok (.iastore, 1)), (19, .ok (.aload_n 0, 1)), (20, .ok (.getfield 75, 3)), (23, .ok (.iload_n 1, 1)), (24, .ok (.aload_n 0, 1)), (25, .ok (.getfield 13, 3)), (28, .ok (.bipush 6, 2)), (30, .ok (.iaload, 1)), (31, .ok (.iastore, 1)), (32, .ok (.aload_n 0, 1)), (33, .ok (.getfield 78, 3)), (36, .ok (.iload_n 1, 1)), (37, .ok (.iconst 0, 1)), (38, .ok (.iastore, 1)), (39, .ok (.aload_n 0, 1)), (40, .ok (.getfield 81, 3)), (43, .ok (.iload_n 1, 1)), (44, .ok (.iconst 0, 1)), (45, .ok (.iastore, 1)), (46, .ok (.iconst 0, 1)), (47, .ok (.istore_n 2, 1)), (48, .ok (.iload_n 2, 1)), (49, .ok (.aload_n 0, 1)), (50, .ok (.getfield 13, 3)), (53, .ok (.iconst 0, 1)), (54, .ok (.iaload, 1)), (55, .ok (.if_icmp .ge 95, 3)), (58, .ok (.bipush 8, 2))]
theorem da_278 : dl_278.all (fun q => decide (decode cX10_starts q.1 = q.2)) = true := by decide +kernel
theorem dX10_starts_0 : decode cX10_starts 0 = .ok (.aload_n 0, 1) := dec_of (decode cX10_starts) da_278 0 rfl
theorem dX10_starts_1 : decode cX10_starts 1 = .ok (.getfield 69, 3) := dec_of (decode cX10_starts) da_278 1 rfl
theorem dX10_starts_4 : decode cX10_starts 4 = .ok (.iload_n 1, 1) := dec_of (decode cX10_starts) da_278 2 rfl
theorem dX10_starts_5 : decode cX10_starts 5 = .ok (.iconst 0, 1) := dec_of (decode cX10_starts) da_278 3 rfl
theorem dX10_starts_6 : decode cX10_starts 6 = .ok (.iastore, 1) := dec_of (decode cX10_starts) da_278 4 rfl
theorem dX10_starts_7 : decode cX10_starts 7 = .ok (.aload_n 0, 1) := dec_of (decode cX10_starts) da_278 5 rfl
theorem dX10_starts_8 : decode cX10_starts 8 = .ok (.getfield 72, 3) := dec_of (decode cX10_starts) da_278 6 rfl
theorem dX10_starts_11 : decode cX10_starts 11 = .ok (.iload_n 1, 1) := dec_of (decode cX10_starts) da_278 7 rfl
theorem dX10_starts_12 : decode cX10_starts 12 = .ok (.aload_n 0, 1) := dec_of (decode cX10_starts) da_278 8 rfl
theorem dX10_starts_13 : decode cX10_starts 13 = .ok (.getfield 13, 3) := dec_of (decode cX10_starts) da_278 9 rfl
theorem dX10_starts_16 : decode cX10_starts 16 = .ok (.iconst 1, 1) := dec_of (decode cX10_starts) da_278 10 rfl
theorem dX10_starts_17 : decode cX10_starts 17 = .ok (.iaload, 1) := dec_of (decode cX10_starts) da_278 11 rfl
theorem dX10_starts_18 : decode cX10_starts 18 = .ok (.iastore, 1) := dec_of (decode cX10_starts) da_278 12 rfl
theorem dX10_starts_19 : decode cX10_starts 19 = .ok (.aload_n 0, 1) := dec_of (decode cX10_starts) da_278 13 rfl
theorem dX10_starts_20 : decode cX10_starts 20 = .ok (.getfield 75, 3) := dec_of (decode cX10_starts) da_278 14 rfl
theorem dX10_starts_23 : decode cX10_starts 23 = .ok (.iload_n 1, 1) := dec_of (decode cX10_starts) da_278 15 rfl
theorem dX10_starts_24 : decode cX10_starts 24 = .ok (.aload_n 0, 1) := dec_of (decode cX10_starts) da_278 16 rfl
theorem dX10_starts_25 : decode cX10_starts 25 = .ok (.getfield 13, 3) := dec_of (decode cX10_starts) da_278 17 rfl
theorem dX10_starts_28 : decode cX10_starts 28 = .ok (.bipush 6, 2) := dec_of (decode cX10_starts) da_278 18 rfl
theorem dX10_starts_30 : decode cX10_starts 30 = .ok (.iaload, 1) := dec_of (decode cX10_starts) da_278 19 rfl
theorem dX10_starts_31 : decode cX10_starts 31 = .ok (.iastore, 1) := dec_of (decode cX10_starts) da_278 20 rfl
theorem dX10_starts_32 : decode cX10_starts 32 = .ok (.aload_n 0, 1) := dec_of (decode cX10_starts) da_278 21 rfl
theorem dX10_starts_33 : decode cX10_starts 33 = .ok (.getfield 78, 3) := dec_of (decode cX10_starts) da_278 22 rfl
theorem dX10_starts_36 : decode cX10_starts 36 = .ok (.iload_n 1, 1) := dec_of (decode cX10_starts) da_278 23 rfl
theorem dX10_starts_37 : decode cX10_starts 37 = .ok (.iconst 0, 1) := dec_of (decode cX10_starts) da_278 24 rfl
theorem dX10_starts_38 : decode cX10_starts 38 = .ok (.iastore, 1) := dec_of (decode cX10_starts) da_278 25 rfl
theorem dX10_starts_39 : decode cX10_starts 39 = .ok (.aload_n 0, 1) := dec_of (decode cX10_starts) da_278 26 rfl
theorem dX10_starts_40 : decode cX10_starts 40 = .ok (.getfield 81, 3) := dec_of (decode cX10_starts) da_278 27 rfl
theorem dX10_starts_43 : decode cX10_starts 43 = .ok (.iload_n 1, 1) := dec_of (decode cX10_starts) da_278 28 rfl
theorem dX10_starts_44 : decode cX10_starts 44 = .ok (.iconst 0, 1) := dec_of (decode cX10_starts) da_278 29 rfl
theorem dX10_starts_45 : decode cX10_starts 45 = .ok (.iastore, 1) := dec_of (decode cX10_starts) da_278 30 rfl
theorem dX10_starts_46 : decode cX10_starts 46 = .ok (.iconst 0, 1) := dec_of (decode cX10_starts) da_278 31 rfl
theorem dX10_starts_47 : decode cX10_starts 47 = .ok (.istore_n 2, 1) := dec_of (decode cX10_starts) da_278 32 rfl
theorem dX10_starts_48 : decode cX10_starts 48 = .ok (.iload_n 2, 1) := dec_of (decode cX10_starts) da_278 33 rfl
theorem dX10_starts_49 : decode cX10_starts 49 = .ok (.aload_n 0, 1) := dec_of (decode cX10_starts) da_278 34 rfl
theorem dX10_starts_50 : decode cX10_starts 50 = .ok (.getfield 13, 3) := dec_of (decode cX10_starts) da_278 35 rfl
theorem dX10_starts_53 : decode cX10_starts 53 = .ok (.iconst 0, 1) := dec_of (decode cX10_starts) da_278 36 rfl
theorem dX10_starts_54 : decode cX10_starts 54 = .ok (.iaload, 1) := dec_of (decode cX10_starts) da_278 37 rfl
theorem dX10_starts_55 : decode cX10_starts 55 = .ok (.if_icmp .ge 95, 3) := dec_of (decode cX10_starts) da_278 38 rfl
theorem dX10_starts_58 : decode cX10_starts 58 = .ok (.bipush 8, 2) := dec_of (decode cX10_starts) da_278 39 rfl
abbrev dl_279 : List (Nat × Except DecodeError (Instr × Nat)) := [(60, .ok (.iload_n 1, 1)), (61, .ok (.imul, 1)), (62, .ok (.iload_n 2, 1)), (63, .ok (.iadd, 1)), (64, .ok (.istore_n 3, 1)), (65, .ok (.aload_n 0, 1)), (66, .ok (.getfield 87, 3)), (69, .ok (.iload_n 3, 1)), (70, .ok (.iconst 0, 1)), (71, .ok (.iastore, 1)), (72, .ok (.aload_n 0, 1)), (73, .ok (.getfield 90, 3)), (76, .ok (.iload_n 3, 1)), (77, .ok (.aload_n 0, 1)), (78, .ok (.getfield 25, 3)), (81, .ok (.iload_n 2, 1)), (82, .ok (.iaload, 1)), (83, .ok (.iastore, 1)), (84, .ok (.aload_n 0, 1)), (85, .ok (.getfield 93, 3)), (88, .ok (.iload_n 3, 1)), (89, .ok (.iconst 0, 1)), (90, .ok (.iastore, 1)), (91, .ok (.aload_n 0, 1)), (92, .ok (.getfield 96, 3)), (95, .ok (.iload_n 3, 1)), (96, .ok (.aload_n 0, 1)), (97, .ok (.getfield 31, 3)), (100, .ok (.iload_n 2, 1)), (101, .ok (.iaload, 1)), (102, .ok (.iastore, 1)), (103, .ok (.aload_n 0, 1)), (104, .ok (.getfield 99, 3)), (107, .ok (.iload_n 3, 1)), (108, .ok (.aload_n 0, 1)), (109, .ok (.getfield 37, 3)), (112, .ok (.iload_n 2, 1)), (113, .ok (.iaload, 1)), (114, .ok (.iastore, 1)), (115, .ok (.aload_n 0, 1))]
theorem da_279 : dl_279.all (fun q => decide (decode cX10_starts q.1 = q.2)) = true := by decide +kernel
theorem dX10_starts_60 : decode cX10_starts 60 = .ok (.iload_n 1, 1) := dec_of (decode cX10_starts) da_279 0 rfl
theorem dX10_starts_61 : decode cX10_starts 61 = .ok (.imul, 1) := dec_of (decode cX10_starts) da_279 1 rfl
theorem dX10_starts_62 : decode cX10_starts 62 = .ok (.iload_n 2, 1) := dec_of (decode cX10_starts) da_279 2 rfl
theorem dX10_starts_63 : decode cX10_starts 63 = .ok (.iadd, 1) := dec_of (decode cX10_starts) da_279 3 rfl
theorem dX10_starts_64 : decode cX10_starts 64 = .ok (.istore_n 3, 1) := dec_of (decode cX10_starts) da_279 4 rfl
theorem dX10_starts_65 : decode cX10_starts 65 = .ok (.aload_n 0, 1) := dec_of (decode cX10_starts) da_279 5 rfl
theorem dX10_starts_66 : decode cX10_starts 66 = .ok (.getfield 87, 3) := dec_of (decode cX10_starts) da_279 6 rfl
theorem dX10_starts_69 : decode cX10_starts 69 = .ok (.iload_n 3, 1) := dec_of (decode cX10_starts) da_279 7 rfl
theorem dX10_starts_70 : decode cX10_starts 70 = .ok (.iconst 0, 1) := dec_of (decode cX10_starts) da_279 8 rfl
theorem dX10_starts_71 : decode cX10_starts 71 = .ok (.iastore, 1) := dec_of (decode cX10_starts) da_279 9 rfl
theorem dX10_starts_72 : decode cX10_starts 72 = .ok (.aload_n 0, 1) := dec_of (decode cX10_starts) da_279 10 rfl
theorem dX10_starts_73 : decode cX10_starts 73 = .ok (.getfield 90, 3) := dec_of (decode cX10_starts) da_279 11 rfl
theorem dX10_starts_76 : decode cX10_starts 76 = .ok (.iload_n 3, 1) := dec_of (decode cX10_starts) da_279 12 rfl
theorem dX10_starts_77 : decode cX10_starts 77 = .ok (.aload_n 0, 1) := dec_of (decode cX10_starts) da_279 13 rfl
theorem dX10_starts_78 : decode cX10_starts 78 = .ok (.getfield 25, 3) := dec_of (decode cX10_starts) da_279 14 rfl
theorem dX10_starts_81 : decode cX10_starts 81 = .ok (.iload_n 2, 1) := dec_of (decode cX10_starts) da_279 15 rfl
theorem dX10_starts_82 : decode cX10_starts 82 = .ok (.iaload, 1) := dec_of (decode cX10_starts) da_279 16 rfl
theorem dX10_starts_83 : decode cX10_starts 83 = .ok (.iastore, 1) := dec_of (decode cX10_starts) da_279 17 rfl
theorem dX10_starts_84 : decode cX10_starts 84 = .ok (.aload_n 0, 1) := dec_of (decode cX10_starts) da_279 18 rfl
theorem dX10_starts_85 : decode cX10_starts 85 = .ok (.getfield 93, 3) := dec_of (decode cX10_starts) da_279 19 rfl
theorem dX10_starts_88 : decode cX10_starts 88 = .ok (.iload_n 3, 1) := dec_of (decode cX10_starts) da_279 20 rfl
theorem dX10_starts_89 : decode cX10_starts 89 = .ok (.iconst 0, 1) := dec_of (decode cX10_starts) da_279 21 rfl
theorem dX10_starts_90 : decode cX10_starts 90 = .ok (.iastore, 1) := dec_of (decode cX10_starts) da_279 22 rfl
theorem dX10_starts_91 : decode cX10_starts 91 = .ok (.aload_n 0, 1) := dec_of (decode cX10_starts) da_279 23 rfl
theorem dX10_starts_92 : decode cX10_starts 92 = .ok (.getfield 96, 3) := dec_of (decode cX10_starts) da_279 24 rfl
theorem dX10_starts_95 : decode cX10_starts 95 = .ok (.iload_n 3, 1) := dec_of (decode cX10_starts) da_279 25 rfl
theorem dX10_starts_96 : decode cX10_starts 96 = .ok (.aload_n 0, 1) := dec_of (decode cX10_starts) da_279 26 rfl
theorem dX10_starts_97 : decode cX10_starts 97 = .ok (.getfield 31, 3) := dec_of (decode cX10_starts) da_279 27 rfl
theorem dX10_starts_100 : decode cX10_starts 100 = .ok (.iload_n 2, 1) := dec_of (decode cX10_starts) da_279 28 rfl
theorem dX10_starts_101 : decode cX10_starts 101 = .ok (.iaload, 1) := dec_of (decode cX10_starts) da_279 29 rfl
theorem dX10_starts_102 : decode cX10_starts 102 = .ok (.iastore, 1) := dec_of (decode cX10_starts) da_279 30 rfl
theorem dX10_starts_103 : decode cX10_starts 103 = .ok (.aload_n 0, 1) := dec_of (decode cX10_starts) da_279 31 rfl
theorem dX10_starts_104 : decode cX10_starts 104 = .ok (.getfield 99, 3) := dec_of (decode cX10_starts) da_279 32 rfl
theorem dX10_starts_107 : decode cX10_starts 107 = .ok (.iload_n 3, 1) := dec_of (decode cX10_starts) da_279 33 rfl
theorem dX10_starts_108 : decode cX10_starts 108 = .ok (.aload_n 0, 1) := dec_of (decode cX10_starts) da_279 34 rfl
theorem dX10_starts_109 : decode cX10_starts 109 = .ok (.getfield 37, 3) := dec_of (decode cX10_starts) da_279 35 rfl
theorem dX10_starts_112 : decode cX10_starts 112 = .ok (.iload_n 2, 1) := dec_of (decode cX10_starts) da_279 36 rfl
theorem dX10_starts_113 : decode cX10_starts 113 = .ok (.iaload, 1) := dec_of (decode cX10_starts) da_279 37 rfl
theorem dX10_starts_114 : decode cX10_starts 114 = .ok (.iastore, 1) := dec_of (decode cX10_starts) da_279 38 rfl
theorem dX10_starts_115 : decode cX10_starts 115 = .ok (.aload_n 0, 1) := dec_of (decode cX10_starts) da_279 39 rfl
abbrev dl_280 : List (Nat × Except DecodeError (Instr × Nat)) := [(116, .ok (.getfield 102, 3)), (119, .ok (.iload_n 3, 1)), (120, .ok (.iconst 0, 1)), (121, .ok (.iastore, 1)), (122, .ok (.aload_n 0, 1)), (123, .ok (.getfield 105, 3)), (126, .ok (.iload_n 3, 1)), (127, .ok (.iconst 0, 1)), (128, .ok (.iastore, 1)), (129, .ok (.aload_n 0, 1)), (130, .ok (.getfield 108, 3)), (133, .ok (.iload_n 3, 1)), (134, .ok (.iconst 0, 1)), (135, .ok (.iastore, 1)), (136, .ok (.aload_n 0, 1)), (137, .ok (.getfield 111, 3)), (140, .ok (.iload_n 3, 1)), (141, .ok (.bipush (-2), 2)), (143, .ok (.iastore, 1)), (144, .ok (.iinc 2 1, 3)), (147, .ok (.goto (-99), 3)), (150, .ok (.iconst 0, 1)), (151, .ok (.istore_n 2, 1)), (152, .ok (.iload_n 2, 1)), (153, .ok (.iconst 3, 1)), (154, .ok (.if_icmp .ge 28, 3)), (157, .ok (.aload_n 0, 1)), (158, .ok (.getfield 114, 3)), (161, .ok (.iconst 3, 1)), (162, .ok (.iload_n 1, 1)), (163, .ok (.imul, 1)), (164, .ok (.iload_n 2, 1)), (165, .ok (.iadd, 1)), (166, .ok (.aload_n 0, 1)), (167, .ok (.getfield 13, 3)), (170, .ok (.bipush 8, 2)), (172, .ok (.iload_n 2, 1)), (173, .ok (.iadd, 1)), (174, .ok (.iaload, 1)), (175, .ok (.iastore, 1))]
theorem da_280 : dl_280.all (fun q => decide (decode cX10_starts q.1 = q.2)) = true := by decide +kernel
theorem dX10_starts_116 : decode cX10_starts 116 = .ok (.getfield 102, 3) := dec_of (decode cX10_starts) da_280 0 rfl
theorem dX10_starts_119 : decode cX10_starts 119 = .ok (.iload_n 3, 1) := dec_of (decode cX10_starts) da_280 1 rfl
theorem dX10_starts_120 : decode cX10_starts 120 = .ok (.iconst 0, 1) := dec_of (decode cX10_starts) da_280 2 rfl
theorem dX10_starts_121 : decode cX10_starts 121 = .ok (.iastore, 1) := dec_of (decode cX10_starts) da_280 3 rfl
theorem dX10_starts_122 : decode cX10_starts 122 = .ok (.aload_n 0, 1) := dec_of (decode cX10_starts) da_280 4 rfl
theorem dX10_starts_123 : decode cX10_starts 123 = .ok (.getfield 105, 3) := dec_of (decode cX10_starts) da_280 5 rfl
theorem dX10_starts_126 : decode cX10_starts 126 = .ok (.iload_n 3, 1) := dec_of (decode cX10_starts) da_280 6 rfl
theorem dX10_starts_127 : decode cX10_starts 127 = .ok (.iconst 0, 1) := dec_of (decode cX10_starts) da_280 7 rfl
theorem dX10_starts_128 : decode cX10_starts 128 = .ok (.iastore, 1) := dec_of (decode cX10_starts) da_280 8 rfl
theorem dX10_starts_129 : decode cX10_starts 129 = .ok (.aload_n 0, 1) := dec_of (decode cX10_starts) da_280 9 rfl
theorem dX10_starts_130 : decode cX10_starts 130 = .ok (.getfield 108, 3) := dec_of (decode cX10_starts) da_280 10 rfl
theorem dX10_starts_133 : decode cX10_starts 133 = .ok (.iload_n 3, 1) := dec_of (decode cX10_starts) da_280 11 rfl
theorem dX10_starts_134 : decode cX10_starts 134 = .ok (.iconst 0, 1) := dec_of (decode cX10_starts) da_280 12 rfl
theorem dX10_starts_135 : decode cX10_starts 135 = .ok (.iastore, 1) := dec_of (decode cX10_starts) da_280 13 rfl
theorem dX10_starts_136 : decode cX10_starts 136 = .ok (.aload_n 0, 1) := dec_of (decode cX10_starts) da_280 14 rfl
theorem dX10_starts_137 : decode cX10_starts 137 = .ok (.getfield 111, 3) := dec_of (decode cX10_starts) da_280 15 rfl
theorem dX10_starts_140 : decode cX10_starts 140 = .ok (.iload_n 3, 1) := dec_of (decode cX10_starts) da_280 16 rfl
theorem dX10_starts_141 : decode cX10_starts 141 = .ok (.bipush (-2), 2) := dec_of (decode cX10_starts) da_280 17 rfl
theorem dX10_starts_143 : decode cX10_starts 143 = .ok (.iastore, 1) := dec_of (decode cX10_starts) da_280 18 rfl
theorem dX10_starts_144 : decode cX10_starts 144 = .ok (.iinc 2 1, 3) := dec_of (decode cX10_starts) da_280 19 rfl
theorem dX10_starts_147 : decode cX10_starts 147 = .ok (.goto (-99), 3) := dec_of (decode cX10_starts) da_280 20 rfl
theorem dX10_starts_150 : decode cX10_starts 150 = .ok (.iconst 0, 1) := dec_of (decode cX10_starts) da_280 21 rfl
theorem dX10_starts_151 : decode cX10_starts 151 = .ok (.istore_n 2, 1) := dec_of (decode cX10_starts) da_280 22 rfl
theorem dX10_starts_152 : decode cX10_starts 152 = .ok (.iload_n 2, 1) := dec_of (decode cX10_starts) da_280 23 rfl
theorem dX10_starts_153 : decode cX10_starts 153 = .ok (.iconst 3, 1) := dec_of (decode cX10_starts) da_280 24 rfl
theorem dX10_starts_154 : decode cX10_starts 154 = .ok (.if_icmp .ge 28, 3) := dec_of (decode cX10_starts) da_280 25 rfl
theorem dX10_starts_157 : decode cX10_starts 157 = .ok (.aload_n 0, 1) := dec_of (decode cX10_starts) da_280 26 rfl
theorem dX10_starts_158 : decode cX10_starts 158 = .ok (.getfield 114, 3) := dec_of (decode cX10_starts) da_280 27 rfl
theorem dX10_starts_161 : decode cX10_starts 161 = .ok (.iconst 3, 1) := dec_of (decode cX10_starts) da_280 28 rfl
theorem dX10_starts_162 : decode cX10_starts 162 = .ok (.iload_n 1, 1) := dec_of (decode cX10_starts) da_280 29 rfl
theorem dX10_starts_163 : decode cX10_starts 163 = .ok (.imul, 1) := dec_of (decode cX10_starts) da_280 30 rfl
theorem dX10_starts_164 : decode cX10_starts 164 = .ok (.iload_n 2, 1) := dec_of (decode cX10_starts) da_280 31 rfl
theorem dX10_starts_165 : decode cX10_starts 165 = .ok (.iadd, 1) := dec_of (decode cX10_starts) da_280 32 rfl
theorem dX10_starts_166 : decode cX10_starts 166 = .ok (.aload_n 0, 1) := dec_of (decode cX10_starts) da_280 33 rfl
theorem dX10_starts_167 : decode cX10_starts 167 = .ok (.getfield 13, 3) := dec_of (decode cX10_starts) da_280 34 rfl
theorem dX10_starts_170 : decode cX10_starts 170 = .ok (.bipush 8, 2) := dec_of (decode cX10_starts) da_280 35 rfl
theorem dX10_starts_172 : decode cX10_starts 172 = .ok (.iload_n 2, 1) := dec_of (decode cX10_starts) da_280 36 rfl
theorem dX10_starts_173 : decode cX10_starts 173 = .ok (.iadd, 1) := dec_of (decode cX10_starts) da_280 37 rfl
theorem dX10_starts_174 : decode cX10_starts 174 = .ok (.iaload, 1) := dec_of (decode cX10_starts) da_280 38 rfl
theorem dX10_starts_175 : decode cX10_starts 175 = .ok (.iastore, 1) := dec_of (decode cX10_starts) da_280 39 rfl
abbrev dl_281 : List (Nat × Except DecodeError (Instr × Nat)) := [(176, .ok (.iinc 2 1, 3)), (179, .ok (.goto (-27), 3)), (182, .ok (.return_, 1))]
theorem da_281 : dl_281.all (fun q => decide (decode cX10_starts q.1 = q.2)) = true := by decide +kernel
theorem dX10_starts_176 : decode cX10_starts 176 = .ok (.iinc 2 1, 3) := dec_of (decode cX10_starts) da_281 0 rfl
theorem dX10_starts_179 : decode cX10_starts 179 = .ok (.goto (-27), 3) := dec_of (decode cX10_starts) da_281 1 rfl
theorem dX10_starts_182 : decode cX10_starts 182 = .ok (.return_, 1) := dec_of (decode cX10_starts) da_281 2 rfl
abbrev dl_282 : List (Nat × Except DecodeError (Instr × Nat)) := [(0, .ok (.aload_n 0, 1)), (1, .ok (.iconst 0, 1)), (2, .ok (.invokevirtual 353, 3)), (5, .ok (.return_, 1))]
theorem da_282 : dl_282.all (fun q => decide (decode cX10_begins q.1 = q.2)) = true := by decide +kernel
theorem dX10_begins_0 : decode cX10_begins 0 = .ok (.aload_n 0, 1) := dec_of (decode cX10_begins) da_282 0 rfl
theorem dX10_begins_1 : decode cX10_begins 1 = .ok (.iconst 0, 1) := dec_of (decode cX10_begins) da_282 1 rfl
theorem dX10_begins_2 : decode cX10_begins 2 = .ok (.invokevirtual 353, 3) := dec_of (decode cX10_begins) da_282 2 rfl
theorem dX10_begins_5 : decode cX10_begins 5 = .ok (.return_, 1) := dec_of (decode cX10_begins) da_282 3 rfl
abbrev dl_283 : List (Nat × Except DecodeError (Instr × Nat)) := [(0, .ok (.aload_n 0, 1)), (1, .ok (.getfield 69, 3)), (4, .ok (.iload_n 1, 1)), (5, .ok (.aload_n 0, 1)), (6, .ok (.getfield 69, 3)), (9, .ok (.iload_n 2, 1)), (10, .ok (.iaload, 1)), (11, .ok (.iastore, 1)), (12, .ok (.aload_n 0, 1)), (13, .ok (.getfield 72, 3)), (16, .ok (.iload_n 1, 1)), (17, .ok (.aload_n 0, 1)), (18, .ok (.getfield 72, 3)), (21, .ok (.iload_n 2, 1)), (22, .ok (.iaload, 1)), (23, .ok (.iastore, 1)), (24, .ok (.aload_n 0, 1)), (25, .ok (.getfield 75, 3)), (28, .ok (.iload_n 1, 1)), (29, .ok (.aload_n 0, 1)), (30, .ok (.getfield 75, 3)), (33, .ok (.iload_n 2, 1)), (34, .ok (.iaload, 1)), (35, .ok (.iastore, 1)), (36, .ok (.aload_n 0, 1)), (37, .ok (.getfield 78, 3)), (40, .ok (.iload_n 1, 1)), (41, .ok (.aload_n 0, 1)), (42, .ok (.getfield 78, 3)), (45, .ok (.iload_n 2, 1)), (46, .ok (.iaload, 1)), (47, .ok (.iastore, 1)), (48, .ok (.aload_n 0, 1)), (49, .ok (.getfield 81, 3)), (52, .ok (.iload_n 1, 1)), (53, .ok (.aload_n 0, 1)), (54, .ok (.getfield 81, 3)), (57, .ok (.iload_n 2, 1)), (58, .ok (.iaload, 1)), (59, .ok (.iastore, 1))]
theorem da_283 : dl_283.all (fun q => decide (decode cX10_copies q.1 = q.2)) = true := by decide +kernel
theorem dX10_copies_0 : decode cX10_copies 0 = .ok (.aload_n 0, 1) := dec_of (decode cX10_copies) da_283 0 rfl
theorem dX10_copies_1 : decode cX10_copies 1 = .ok (.getfield 69, 3) := dec_of (decode cX10_copies) da_283 1 rfl
theorem dX10_copies_4 : decode cX10_copies 4 = .ok (.iload_n 1, 1) := dec_of (decode cX10_copies) da_283 2 rfl
theorem dX10_copies_5 : decode cX10_copies 5 = .ok (.aload_n 0, 1) := dec_of (decode cX10_copies) da_283 3 rfl
theorem dX10_copies_6 : decode cX10_copies 6 = .ok (.getfield 69, 3) := dec_of (decode cX10_copies) da_283 4 rfl
theorem dX10_copies_9 : decode cX10_copies 9 = .ok (.iload_n 2, 1) := dec_of (decode cX10_copies) da_283 5 rfl
theorem dX10_copies_10 : decode cX10_copies 10 = .ok (.iaload, 1) := dec_of (decode cX10_copies) da_283 6 rfl
theorem dX10_copies_11 : decode cX10_copies 11 = .ok (.iastore, 1) := dec_of (decode cX10_copies) da_283 7 rfl
theorem dX10_copies_12 : decode cX10_copies 12 = .ok (.aload_n 0, 1) := dec_of (decode cX10_copies) da_283 8 rfl
theorem dX10_copies_13 : decode cX10_copies 13 = .ok (.getfield 72, 3) := dec_of (decode cX10_copies) da_283 9 rfl
theorem dX10_copies_16 : decode cX10_copies 16 = .ok (.iload_n 1, 1) := dec_of (decode cX10_copies) da_283 10 rfl
theorem dX10_copies_17 : decode cX10_copies 17 = .ok (.aload_n 0, 1) := dec_of (decode cX10_copies) da_283 11 rfl
theorem dX10_copies_18 : decode cX10_copies 18 = .ok (.getfield 72, 3) := dec_of (decode cX10_copies) da_283 12 rfl
theorem dX10_copies_21 : decode cX10_copies 21 = .ok (.iload_n 2, 1) := dec_of (decode cX10_copies) da_283 13 rfl
theorem dX10_copies_22 : decode cX10_copies 22 = .ok (.iaload, 1) := dec_of (decode cX10_copies) da_283 14 rfl
theorem dX10_copies_23 : decode cX10_copies 23 = .ok (.iastore, 1) := dec_of (decode cX10_copies) da_283 15 rfl
theorem dX10_copies_24 : decode cX10_copies 24 = .ok (.aload_n 0, 1) := dec_of (decode cX10_copies) da_283 16 rfl
theorem dX10_copies_25 : decode cX10_copies 25 = .ok (.getfield 75, 3) := dec_of (decode cX10_copies) da_283 17 rfl
theorem dX10_copies_28 : decode cX10_copies 28 = .ok (.iload_n 1, 1) := dec_of (decode cX10_copies) da_283 18 rfl
theorem dX10_copies_29 : decode cX10_copies 29 = .ok (.aload_n 0, 1) := dec_of (decode cX10_copies) da_283 19 rfl
theorem dX10_copies_30 : decode cX10_copies 30 = .ok (.getfield 75, 3) := dec_of (decode cX10_copies) da_283 20 rfl
theorem dX10_copies_33 : decode cX10_copies 33 = .ok (.iload_n 2, 1) := dec_of (decode cX10_copies) da_283 21 rfl
theorem dX10_copies_34 : decode cX10_copies 34 = .ok (.iaload, 1) := dec_of (decode cX10_copies) da_283 22 rfl
theorem dX10_copies_35 : decode cX10_copies 35 = .ok (.iastore, 1) := dec_of (decode cX10_copies) da_283 23 rfl
theorem dX10_copies_36 : decode cX10_copies 36 = .ok (.aload_n 0, 1) := dec_of (decode cX10_copies) da_283 24 rfl
theorem dX10_copies_37 : decode cX10_copies 37 = .ok (.getfield 78, 3) := dec_of (decode cX10_copies) da_283 25 rfl
theorem dX10_copies_40 : decode cX10_copies 40 = .ok (.iload_n 1, 1) := dec_of (decode cX10_copies) da_283 26 rfl
theorem dX10_copies_41 : decode cX10_copies 41 = .ok (.aload_n 0, 1) := dec_of (decode cX10_copies) da_283 27 rfl
theorem dX10_copies_42 : decode cX10_copies 42 = .ok (.getfield 78, 3) := dec_of (decode cX10_copies) da_283 28 rfl
theorem dX10_copies_45 : decode cX10_copies 45 = .ok (.iload_n 2, 1) := dec_of (decode cX10_copies) da_283 29 rfl
theorem dX10_copies_46 : decode cX10_copies 46 = .ok (.iaload, 1) := dec_of (decode cX10_copies) da_283 30 rfl
theorem dX10_copies_47 : decode cX10_copies 47 = .ok (.iastore, 1) := dec_of (decode cX10_copies) da_283 31 rfl
theorem dX10_copies_48 : decode cX10_copies 48 = .ok (.aload_n 0, 1) := dec_of (decode cX10_copies) da_283 32 rfl
theorem dX10_copies_49 : decode cX10_copies 49 = .ok (.getfield 81, 3) := dec_of (decode cX10_copies) da_283 33 rfl
theorem dX10_copies_52 : decode cX10_copies 52 = .ok (.iload_n 1, 1) := dec_of (decode cX10_copies) da_283 34 rfl
theorem dX10_copies_53 : decode cX10_copies 53 = .ok (.aload_n 0, 1) := dec_of (decode cX10_copies) da_283 35 rfl
theorem dX10_copies_54 : decode cX10_copies 54 = .ok (.getfield 81, 3) := dec_of (decode cX10_copies) da_283 36 rfl
theorem dX10_copies_57 : decode cX10_copies 57 = .ok (.iload_n 2, 1) := dec_of (decode cX10_copies) da_283 37 rfl
theorem dX10_copies_58 : decode cX10_copies 58 = .ok (.iaload, 1) := dec_of (decode cX10_copies) da_283 38 rfl
theorem dX10_copies_59 : decode cX10_copies 59 = .ok (.iastore, 1) := dec_of (decode cX10_copies) da_283 39 rfl
abbrev dl_284 : List (Nat × Except DecodeError (Instr × Nat)) := [(60, .ok (.iconst 0, 1)), (61, .ok (.istore_n 3, 1)), (62, .ok (.iload_n 3, 1)), (63, .ok (.bipush 8, 2)), (65, .ok (.if_icmp .ge 165, 3)), (68, .ok (.bipush 8, 2)), (70, .ok (.iload_n 1, 1)), (71, .ok (.imul, 1)), (72, .ok (.iload_n 3, 1)), (73, .ok (.iadd, 1)), (74, .ok (.istore 4, 2)), (76, .ok (.bipush 8, 2)), (78, .ok (.iload_n 2, 1)), (79, .ok (.imul, 1)), (80, .ok (.iload_n 3, 1)), (81, .ok (.iadd, 1)), (82, .ok (.istore 5, 2)), (84, .ok (.aload_n 0, 1)), (85, .ok (.getfield 84, 3)), (88, .ok (.iload 4, 2)), (90, .ok (.aload_n 0, 1)), (91, .ok (.getfield 84, 3)), (94, .ok (.iload 5, 2)), (96, .ok (.iaload, 1)), (97, .ok (.iastore, 1)), (98, .ok (.aload_n 0, 1)), (99, .ok (.getfield 87, 3)), (102, .ok (.iload 4, 2)), (104, .ok (.aload_n 0, 1)), (105, .ok (.getfield 87, 3)), (108, .ok (.iload 5, 2)), (110, .ok (.iaload, 1)), (111, .ok (.iastore, 1)), (112, .ok (.aload_n 0, 1)), (113, .ok (.getfield 90, 3)), (116, .ok (.iload 4, 2)), (118, .ok (.aload_n 0, 1)), (119, .ok (.getfield 90, 3)), (122, .ok (.iload 5, 2)), (124, .ok (.iaload, 1))]
theorem da_284 : dl_284.all (fun q => decide (decode cX10_copies q.1 = q.2)) = true := by decide +kernel
theorem dX10_copies_60 : decode cX10_copies 60 = .ok (.iconst 0, 1) := dec_of (decode cX10_copies) da_284 0 rfl
theorem dX10_copies_61 : decode cX10_copies 61 = .ok (.istore_n 3, 1) := dec_of (decode cX10_copies) da_284 1 rfl
theorem dX10_copies_62 : decode cX10_copies 62 = .ok (.iload_n 3, 1) := dec_of (decode cX10_copies) da_284 2 rfl
theorem dX10_copies_63 : decode cX10_copies 63 = .ok (.bipush 8, 2) := dec_of (decode cX10_copies) da_284 3 rfl
theorem dX10_copies_65 : decode cX10_copies 65 = .ok (.if_icmp .ge 165, 3) := dec_of (decode cX10_copies) da_284 4 rfl
theorem dX10_copies_68 : decode cX10_copies 68 = .ok (.bipush 8, 2) := dec_of (decode cX10_copies) da_284 5 rfl
theorem dX10_copies_70 : decode cX10_copies 70 = .ok (.iload_n 1, 1) := dec_of (decode cX10_copies) da_284 6 rfl
theorem dX10_copies_71 : decode cX10_copies 71 = .ok (.imul, 1) := dec_of (decode cX10_copies) da_284 7 rfl
theorem dX10_copies_72 : decode cX10_copies 72 = .ok (.iload_n 3, 1) := dec_of (decode cX10_copies) da_284 8 rfl
theorem dX10_copies_73 : decode cX10_copies 73 = .ok (.iadd, 1) := dec_of (decode cX10_copies) da_284 9 rfl
theorem dX10_copies_74 : decode cX10_copies 74 = .ok (.istore 4, 2) := dec_of (decode cX10_copies) da_284 10 rfl
theorem dX10_copies_76 : decode cX10_copies 76 = .ok (.bipush 8, 2) := dec_of (decode cX10_copies) da_284 11 rfl
theorem dX10_copies_78 : decode cX10_copies 78 = .ok (.iload_n 2, 1) := dec_of (decode cX10_copies) da_284 12 rfl
theorem dX10_copies_79 : decode cX10_copies 79 = .ok (.imul, 1) := dec_of (decode cX10_copies) da_284 13 rfl
theorem dX10_copies_80 : decode cX10_copies 80 = .ok (.iload_n 3, 1) := dec_of (decode cX10_copies) da_284 14 rfl
theorem dX10_copies_81 : decode cX10_copies 81 = .ok (.iadd, 1) := dec_of (decode cX10_copies) da_284 15 rfl
theorem dX10_copies_82 : decode cX10_copies 82 = .ok (.istore 5, 2) := dec_of (decode cX10_copies) da_284 16 rfl
theorem dX10_copies_84 : decode cX10_copies 84 = .ok (.aload_n 0, 1) := dec_of (decode cX10_copies) da_284 17 rfl
theorem dX10_copies_85 : decode cX10_copies 85 = .ok (.getfield 84, 3) := dec_of (decode cX10_copies) da_284 18 rfl
theorem dX10_copies_88 : decode cX10_copies 88 = .ok (.iload 4, 2) := dec_of (decode cX10_copies) da_284 19 rfl
theorem dX10_copies_90 : decode cX10_copies 90 = .ok (.aload_n 0, 1) := dec_of (decode cX10_copies) da_284 20 rfl
theorem dX10_copies_91 : decode cX10_copies 91 = .ok (.getfield 84, 3) := dec_of (decode cX10_copies) da_284 21 rfl
theorem dX10_copies_94 : decode cX10_copies 94 = .ok (.iload 5, 2) := dec_of (decode cX10_copies) da_284 22 rfl
theorem dX10_copies_96 : decode cX10_copies 96 = .ok (.iaload, 1) := dec_of (decode cX10_copies) da_284 23 rfl
theorem dX10_copies_97 : decode cX10_copies 97 = .ok (.iastore, 1) := dec_of (decode cX10_copies) da_284 24 rfl
theorem dX10_copies_98 : decode cX10_copies 98 = .ok (.aload_n 0, 1) := dec_of (decode cX10_copies) da_284 25 rfl
theorem dX10_copies_99 : decode cX10_copies 99 = .ok (.getfield 87, 3) := dec_of (decode cX10_copies) da_284 26 rfl
theorem dX10_copies_102 : decode cX10_copies 102 = .ok (.iload 4, 2) := dec_of (decode cX10_copies) da_284 27 rfl
theorem dX10_copies_104 : decode cX10_copies 104 = .ok (.aload_n 0, 1) := dec_of (decode cX10_copies) da_284 28 rfl
theorem dX10_copies_105 : decode cX10_copies 105 = .ok (.getfield 87, 3) := dec_of (decode cX10_copies) da_284 29 rfl
theorem dX10_copies_108 : decode cX10_copies 108 = .ok (.iload 5, 2) := dec_of (decode cX10_copies) da_284 30 rfl
theorem dX10_copies_110 : decode cX10_copies 110 = .ok (.iaload, 1) := dec_of (decode cX10_copies) da_284 31 rfl
theorem dX10_copies_111 : decode cX10_copies 111 = .ok (.iastore, 1) := dec_of (decode cX10_copies) da_284 32 rfl
theorem dX10_copies_112 : decode cX10_copies 112 = .ok (.aload_n 0, 1) := dec_of (decode cX10_copies) da_284 33 rfl
theorem dX10_copies_113 : decode cX10_copies 113 = .ok (.getfield 90, 3) := dec_of (decode cX10_copies) da_284 34 rfl
theorem dX10_copies_116 : decode cX10_copies 116 = .ok (.iload 4, 2) := dec_of (decode cX10_copies) da_284 35 rfl
theorem dX10_copies_118 : decode cX10_copies 118 = .ok (.aload_n 0, 1) := dec_of (decode cX10_copies) da_284 36 rfl
theorem dX10_copies_119 : decode cX10_copies 119 = .ok (.getfield 90, 3) := dec_of (decode cX10_copies) da_284 37 rfl
theorem dX10_copies_122 : decode cX10_copies 122 = .ok (.iload 5, 2) := dec_of (decode cX10_copies) da_284 38 rfl
theorem dX10_copies_124 : decode cX10_copies 124 = .ok (.iaload, 1) := dec_of (decode cX10_copies) da_284 39 rfl
abbrev dl_285 : List (Nat × Except DecodeError (Instr × Nat)) := [(125, .ok (.iastore, 1)), (126, .ok (.aload_n 0, 1)), (127, .ok (.getfield 93, 3)), (130, .ok (.iload 4, 2)), (132, .ok (.aload_n 0, 1)), (133, .ok (.getfield 93, 3)), (136, .ok (.iload 5, 2)), (138, .ok (.iaload, 1)), (139, .ok (.iastore, 1)), (140, .ok (.aload_n 0, 1)), (141, .ok (.getfield 96, 3)), (144, .ok (.iload 4, 2)), (146, .ok (.aload_n 0, 1)), (147, .ok (.getfield 96, 3)), (150, .ok (.iload 5, 2)), (152, .ok (.iaload, 1)), (153, .ok (.iastore, 1)), (154, .ok (.aload_n 0, 1)), (155, .ok (.getfield 99, 3)), (158, .ok (.iload 4, 2)), (160, .ok (.aload_n 0, 1)), (161, .ok (.getfield 99, 3)), (164, .ok (.iload 5, 2)), (166, .ok (.iaload, 1)), (167, .ok (.iastore, 1)), (168, .ok (.aload_n 0, 1)), (169, .ok (.getfield 102, 3)), (172, .ok (.iload 4, 2)), (174, .ok (.aload_n 0, 1)), (175, .ok (.getfield 102, 3)), (178, .ok (.iload 5, 2)), (180, .ok (.iaload, 1)), (181, .ok (.iastore, 1)), (182, .ok (.aload_n 0, 1)), (183, .ok (.getfield 105, 3)), (186, .ok (.iload 4, 2)), (188, .ok (.aload_n 0, 1)), (189, .ok (.getfield 105, 3)), (192, .ok (.iload 5, 2)), (194, .ok (.iaload, 1))]
theorem da_285 : dl_285.all (fun q => decide (decode cX10_copies q.1 = q.2)) = true := by decide +kernel
theorem dX10_copies_125 : decode cX10_copies 125 = .ok (.iastore, 1) := dec_of (decode cX10_copies) da_285 0 rfl
theorem dX10_copies_126 : decode cX10_copies 126 = .ok (.aload_n 0, 1) := dec_of (decode cX10_copies) da_285 1 rfl
theorem dX10_copies_127 : decode cX10_copies 127 = .ok (.getfield 93, 3) := dec_of (decode cX10_copies) da_285 2 rfl
theorem dX10_copies_130 : decode cX10_copies 130 = .ok (.iload 4, 2) := dec_of (decode cX10_copies) da_285 3 rfl
theorem dX10_copies_132 : decode cX10_copies 132 = .ok (.aload_n 0, 1) := dec_of (decode cX10_copies) da_285 4 rfl
theorem dX10_copies_133 : decode cX10_copies 133 = .ok (.getfield 93, 3) := dec_of (decode cX10_copies) da_285 5 rfl
theorem dX10_copies_136 : decode cX10_copies 136 = .ok (.iload 5, 2) := dec_of (decode cX10_copies) da_285 6 rfl
theorem dX10_copies_138 : decode cX10_copies 138 = .ok (.iaload, 1) := dec_of (decode cX10_copies) da_285 7 rfl
theorem dX10_copies_139 : decode cX10_copies 139 = .ok (.iastore, 1) := dec_of (decode cX10_copies) da_285 8 rfl
theorem dX10_copies_140 : decode cX10_copies 140 = .ok (.aload_n 0, 1) := dec_of (decode cX10_copies) da_285 9 rfl
theorem dX10_copies_141 : decode cX10_copies 141 = .ok (.getfield 96, 3) := dec_of (decode cX10_copies) da_285 10 rfl
theorem dX10_copies_144 : decode cX10_copies 144 = .ok (.iload 4, 2) := dec_of (decode cX10_copies) da_285 11 rfl
theorem dX10_copies_146 : decode cX10_copies 146 = .ok (.aload_n 0, 1) := dec_of (decode cX10_copies) da_285 12 rfl
theorem dX10_copies_147 : decode cX10_copies 147 = .ok (.getfield 96, 3) := dec_of (decode cX10_copies) da_285 13 rfl
theorem dX10_copies_150 : decode cX10_copies 150 = .ok (.iload 5, 2) := dec_of (decode cX10_copies) da_285 14 rfl
theorem dX10_copies_152 : decode cX10_copies 152 = .ok (.iaload, 1) := dec_of (decode cX10_copies) da_285 15 rfl
theorem dX10_copies_153 : decode cX10_copies 153 = .ok (.iastore, 1) := dec_of (decode cX10_copies) da_285 16 rfl
theorem dX10_copies_154 : decode cX10_copies 154 = .ok (.aload_n 0, 1) := dec_of (decode cX10_copies) da_285 17 rfl
theorem dX10_copies_155 : decode cX10_copies 155 = .ok (.getfield 99, 3) := dec_of (decode cX10_copies) da_285 18 rfl
theorem dX10_copies_158 : decode cX10_copies 158 = .ok (.iload 4, 2) := dec_of (decode cX10_copies) da_285 19 rfl
theorem dX10_copies_160 : decode cX10_copies 160 = .ok (.aload_n 0, 1) := dec_of (decode cX10_copies) da_285 20 rfl
theorem dX10_copies_161 : decode cX10_copies 161 = .ok (.getfield 99, 3) := dec_of (decode cX10_copies) da_285 21 rfl
theorem dX10_copies_164 : decode cX10_copies 164 = .ok (.iload 5, 2) := dec_of (decode cX10_copies) da_285 22 rfl
theorem dX10_copies_166 : decode cX10_copies 166 = .ok (.iaload, 1) := dec_of (decode cX10_copies) da_285 23 rfl
theorem dX10_copies_167 : decode cX10_copies 167 = .ok (.iastore, 1) := dec_of (decode cX10_copies) da_285 24 rfl
theorem dX10_copies_168 : decode cX10_copies 168 = .ok (.aload_n 0, 1) := dec_of (decode cX10_copies) da_285 25 rfl
theorem dX10_copies_169 : decode cX10_copies 169 = .ok (.getfield 102, 3) := dec_of (decode cX10_copies) da_285 26 rfl
theorem dX10_copies_172 : decode cX10_copies 172 = .ok (.iload 4, 2) := dec_of (decode cX10_copies) da_285 27 rfl
theorem dX10_copies_174 : decode cX10_copies 174 = .ok (.aload_n 0, 1) := dec_of (decode cX10_copies) da_285 28 rfl
theorem dX10_copies_175 : decode cX10_copies 175 = .ok (.getfield 102, 3) := dec_of (decode cX10_copies) da_285 29 rfl
theorem dX10_copies_178 : decode cX10_copies 178 = .ok (.iload 5, 2) := dec_of (decode cX10_copies) da_285 30 rfl
theorem dX10_copies_180 : decode cX10_copies 180 = .ok (.iaload, 1) := dec_of (decode cX10_copies) da_285 31 rfl
theorem dX10_copies_181 : decode cX10_copies 181 = .ok (.iastore, 1) := dec_of (decode cX10_copies) da_285 32 rfl
theorem dX10_copies_182 : decode cX10_copies 182 = .ok (.aload_n 0, 1) := dec_of (decode cX10_copies) da_285 33 rfl
theorem dX10_copies_183 : decode cX10_copies 183 = .ok (.getfield 105, 3) := dec_of (decode cX10_copies) da_285 34 rfl
theorem dX10_copies_186 : decode cX10_copies 186 = .ok (.iload 4, 2) := dec_of (decode cX10_copies) da_285 35 rfl
theorem dX10_copies_188 : decode cX10_copies 188 = .ok (.aload_n 0, 1) := dec_of (decode cX10_copies) da_285 36 rfl
theorem dX10_copies_189 : decode cX10_copies 189 = .ok (.getfield 105, 3) := dec_of (decode cX10_copies) da_285 37 rfl
theorem dX10_copies_192 : decode cX10_copies 192 = .ok (.iload 5, 2) := dec_of (decode cX10_copies) da_285 38 rfl
theorem dX10_copies_194 : decode cX10_copies 194 = .ok (.iaload, 1) := dec_of (decode cX10_copies) da_285 39 rfl
abbrev dl_286 : List (Nat × Except DecodeError (Instr × Nat)) := [(195, .ok (.iastore, 1)), (196, .ok (.aload_n 0, 1)), (197, .ok (.getfield 108, 3)), (200, .ok (.iload 4, 2)), (202, .ok (.aload_n 0, 1)), (203, .ok (.getfield 108, 3)), (206, .ok (.iload 5, 2)), (208, .ok (.iaload, 1)), (209, .ok (.iastore, 1)), (210, .ok (.aload_n 0, 1)), (211, .ok (.getfield 111, 3)), (214, .ok (.iload 4, 2)), (216, .ok (.aload_n 0, 1)), (217, .ok (.getfield 111, 3)), (220, .ok (.iload 5, 2)), (222, .ok (.iaload, 1)), (223, .ok (.iastore, 1)), (224, .ok (.iinc 3 1, 3)), (227, .ok (.goto (-165), 3)), (230, .ok (.iconst 0, 1)), (231, .ok (.istore_n 3, 1)), (232, .ok (.iload_n 3, 1)), (233, .ok (.iconst 3, 1)), (234, .ok (.if_icmp .ge 29, 3)), (237, .ok (.aload_n 0, 1)), (238, .ok (.getfield 114, 3)), (241, .ok (.iconst 3, 1)), (242, .ok (.iload_n 1, 1)), (243, .ok (.imul, 1)), (244, .ok (.iload_n 3, 1)), (245, .ok (.iadd, 1)), (246, .ok (.aload_n 0, 1)), (247, .ok (.getfield 114, 3)), (250, .ok (.iconst 3, 1)), (251, .ok (.iload_n 2, 1)), (252, .ok (.imul, 1)), (253, .ok (.iload_n 3, 1)), (254, .ok (.iadd, 1)), (255, .ok (.iaload, 1)), (256, .ok (.iastore, 1))]
theorem da_286 : dl_286.all (fun q => decide (decode cX10_copies q.1 = q.2)) = true := by decide +kernel
theorem dX10_copies_195 : decode cX10_copies 195 = .ok (.iastore, 1) := dec_of (decode cX10_copies) da_286 0 rfl
theorem dX10_copies_196 : decode cX10_copies 196 = .ok (.aload_n 0, 1) := dec_of (decode cX10_copies) da_286 1 rfl
theorem dX10_copies_197 : decode cX10_copies 197 = .ok (.getfield 108, 3) := dec_of (decode cX10_copies) da_286 2 rfl
theorem dX10_copies_200 : decode cX10_copies 200 = .ok (.iload 4, 2) := dec_of (decode cX10_copies) da_286 3 rfl
theorem dX10_copies_202 : decode cX10_copies 202 = .ok (.aload_n 0, 1) := dec_of (decode cX10_copies) da_286 4 rfl
theorem dX10_copies_203 : decode cX10_copies 203 = .ok (.getfield 108, 3) := dec_of (decode cX10_copies) da_286 5 rfl
theorem dX10_copies_206 : decode cX10_copies 206 = .ok (.iload 5, 2) := dec_of (decode cX10_copies) da_286 6 rfl
theorem dX10_copies_208 : decode cX10_copies 208 = .ok (.iaload, 1) := dec_of (decode cX10_copies) da_286 7 rfl
theorem dX10_copies_209 : decode cX10_copies 209 = .ok (.iastore, 1) := dec_of (decode cX10_copies) da_286 8 rfl
theorem dX10_copies_210 : decode cX10_copies 210 = .ok (.aload_n 0, 1) := dec_of (decode cX10_copies) da_286 9 rfl
theorem dX10_copies_211 : decode cX10_copies 211 = .ok (.getfield 111, 3) := dec_of (decode cX10_copies) da_286 10 rfl
theorem dX10_copies_214 : decode cX10_copies 214 = .ok (.iload 4, 2) := dec_of (decode cX10_copies) da_286 11 rfl
theorem dX10_copies_216 : decode cX10_copies 216 = .ok (.aload_n 0, 1) := dec_of (decode cX10_copies) da_286 12 rfl
theorem dX10_copies_217 : decode cX10_copies 217 = .ok (.getfield 111, 3) := dec_of (decode cX10_copies) da_286 13 rfl
theorem dX10_copies_220 : decode cX10_copies 220 = .ok (.iload 5, 2) := dec_of (decode cX10_copies) da_286 14 rfl
theorem dX10_copies_222 : decode cX10_copies 222 = .ok (.iaload, 1) := dec_of (decode cX10_copies) da_286 15 rfl
theorem dX10_copies_223 : decode cX10_copies 223 = .ok (.iastore, 1) := dec_of (decode cX10_copies) da_286 16 rfl
theorem dX10_copies_224 : decode cX10_copies 224 = .ok (.iinc 3 1, 3) := dec_of (decode cX10_copies) da_286 17 rfl
theorem dX10_copies_227 : decode cX10_copies 227 = .ok (.goto (-165), 3) := dec_of (decode cX10_copies) da_286 18 rfl
theorem dX10_copies_230 : decode cX10_copies 230 = .ok (.iconst 0, 1) := dec_of (decode cX10_copies) da_286 19 rfl
theorem dX10_copies_231 : decode cX10_copies 231 = .ok (.istore_n 3, 1) := dec_of (decode cX10_copies) da_286 20 rfl
theorem dX10_copies_232 : decode cX10_copies 232 = .ok (.iload_n 3, 1) := dec_of (decode cX10_copies) da_286 21 rfl
theorem dX10_copies_233 : decode cX10_copies 233 = .ok (.iconst 3, 1) := dec_of (decode cX10_copies) da_286 22 rfl
theorem dX10_copies_234 : decode cX10_copies 234 = .ok (.if_icmp .ge 29, 3) := dec_of (decode cX10_copies) da_286 23 rfl
theorem dX10_copies_237 : decode cX10_copies 237 = .ok (.aload_n 0, 1) := dec_of (decode cX10_copies) da_286 24 rfl
theorem dX10_copies_238 : decode cX10_copies 238 = .ok (.getfield 114, 3) := dec_of (decode cX10_copies) da_286 25 rfl
theorem dX10_copies_241 : decode cX10_copies 241 = .ok (.iconst 3, 1) := dec_of (decode cX10_copies) da_286 26 rfl
theorem dX10_copies_242 : decode cX10_copies 242 = .ok (.iload_n 1, 1) := dec_of (decode cX10_copies) da_286 27 rfl
theorem dX10_copies_243 : decode cX10_copies 243 = .ok (.imul, 1) := dec_of (decode cX10_copies) da_286 28 rfl
theorem dX10_copies_244 : decode cX10_copies 244 = .ok (.iload_n 3, 1) := dec_of (decode cX10_copies) da_286 29 rfl
theorem dX10_copies_245 : decode cX10_copies 245 = .ok (.iadd, 1) := dec_of (decode cX10_copies) da_286 30 rfl
theorem dX10_copies_246 : decode cX10_copies 246 = .ok (.aload_n 0, 1) := dec_of (decode cX10_copies) da_286 31 rfl
theorem dX10_copies_247 : decode cX10_copies 247 = .ok (.getfield 114, 3) := dec_of (decode cX10_copies) da_286 32 rfl
theorem dX10_copies_250 : decode cX10_copies 250 = .ok (.iconst 3, 1) := dec_of (decode cX10_copies) da_286 33 rfl
theorem dX10_copies_251 : decode cX10_copies 251 = .ok (.iload_n 2, 1) := dec_of (decode cX10_copies) da_286 34 rfl
theorem dX10_copies_252 : decode cX10_copies 252 = .ok (.imul, 1) := dec_of (decode cX10_copies) da_286 35 rfl
theorem dX10_copies_253 : decode cX10_copies 253 = .ok (.iload_n 3, 1) := dec_of (decode cX10_copies) da_286 36 rfl
theorem dX10_copies_254 : decode cX10_copies 254 = .ok (.iadd, 1) := dec_of (decode cX10_copies) da_286 37 rfl
theorem dX10_copies_255 : decode cX10_copies 255 = .ok (.iaload, 1) := dec_of (decode cX10_copies) da_286 38 rfl
theorem dX10_copies_256 : decode cX10_copies 256 = .ok (.iastore, 1) := dec_of (decode cX10_copies) da_286 39 rfl
abbrev dl_287 : List (Nat × Except DecodeError (Instr × Nat)) := [(257, .ok (.iinc 3 1, 3)), (260, .ok (.goto (-28), 3)), (263, .ok (.return_, 1))]
theorem da_287 : dl_287.all (fun q => decide (decode cX10_copies q.1 = q.2)) = true := by decide +kernel
theorem dX10_copies_257 : decode cX10_copies 257 = .ok (.iinc 3 1, 3) := dec_of (decode cX10_copies) da_287 0 rfl
theorem dX10_copies_260 : decode cX10_copies 260 = .ok (.goto (-28), 3) := dec_of (decode cX10_copies) da_287 1 rfl
theorem dX10_copies_263 : decode cX10_copies 263 = .ok (.return_, 1) := dec_of (decode cX10_copies) da_287 2 rfl
abbrev dl_288 : List (Nat × Except DecodeError (Instr × Nat)) := [(0, .ok (.iconst 0, 1)), (1, .ok (.istore_n 3, 1)), (2, .ok (.iload_n 3, 1)), (3, .ok (.sipush 360, 3)), (6, .ok (.if_icmp .ge 33, 3)), (9, .ok (.aload_n 0, 1)), (10, .ok (.getfield 117, 3)), (13, .ok (.sipush 360, 3)), (16, .ok (.iload_n 1, 1)), (17, .ok (.imul, 1)), (18, .ok (.iload_n 3, 1)), (19, .ok (.iadd, 1)), (20, .ok (.aload_n 0, 1)), (21, .ok (.getfield 117, 3)), (24, .ok (.sipush 360, 3)), (27, .ok (.iload_n 2, 1)), (28, .ok (.imul, 1)), (29, .ok (.iload_n 3, 1)), (30, .ok (.iadd, 1)), (31, .ok (.iaload, 1)), (32, .ok (.iastore, 1)), (33, .ok (.iinc 3 1, 3)), (36, .ok (.goto (-34), 3)), (39, .ok (.return_, 1))]
theorem da_288 : dl_288.all (fun q => decide (decode cX10_copiesLog q.1 = q.2)) = true := by decide +kernel
theorem dX10_copiesLog_0 : decode cX10_copiesLog 0 = .ok (.iconst 0, 1) := dec_of (decode cX10_copiesLog) da_288 0 rfl
theorem dX10_copiesLog_1 : decode cX10_copiesLog 1 = .ok (.istore_n 3, 1) := dec_of (decode cX10_copiesLog) da_288 1 rfl
theorem dX10_copiesLog_2 : decode cX10_copiesLog 2 = .ok (.iload_n 3, 1) := dec_of (decode cX10_copiesLog) da_288 2 rfl
theorem dX10_copiesLog_3 : decode cX10_copiesLog 3 = .ok (.sipush 360, 3) := dec_of (decode cX10_copiesLog) da_288 3 rfl
theorem dX10_copiesLog_6 : decode cX10_copiesLog 6 = .ok (.if_icmp .ge 33, 3) := dec_of (decode cX10_copiesLog) da_288 4 rfl
theorem dX10_copiesLog_9 : decode cX10_copiesLog 9 = .ok (.aload_n 0, 1) := dec_of (decode cX10_copiesLog) da_288 5 rfl
theorem dX10_copiesLog_10 : decode cX10_copiesLog 10 = .ok (.getfield 117, 3) := dec_of (decode cX10_copiesLog) da_288 6 rfl
theorem dX10_copiesLog_13 : decode cX10_copiesLog 13 = .ok (.sipush 360, 3) := dec_of (decode cX10_copiesLog) da_288 7 rfl
theorem dX10_copiesLog_16 : decode cX10_copiesLog 16 = .ok (.iload_n 1, 1) := dec_of (decode cX10_copiesLog) da_288 8 rfl
theorem dX10_copiesLog_17 : decode cX10_copiesLog 17 = .ok (.imul, 1) := dec_of (decode cX10_copiesLog) da_288 9 rfl
theorem dX10_copiesLog_18 : decode cX10_copiesLog 18 = .ok (.iload_n 3, 1) := dec_of (decode cX10_copiesLog) da_288 10 rfl
theorem dX10_copiesLog_19 : decode cX10_copiesLog 19 = .ok (.iadd, 1) := dec_of (decode cX10_copiesLog) da_288 11 rfl
theorem dX10_copiesLog_20 : decode cX10_copiesLog 20 = .ok (.aload_n 0, 1) := dec_of (decode cX10_copiesLog) da_288 12 rfl
theorem dX10_copiesLog_21 : decode cX10_copiesLog 21 = .ok (.getfield 117, 3) := dec_of (decode cX10_copiesLog) da_288 13 rfl
theorem dX10_copiesLog_24 : decode cX10_copiesLog 24 = .ok (.sipush 360, 3) := dec_of (decode cX10_copiesLog) da_288 14 rfl
theorem dX10_copiesLog_27 : decode cX10_copiesLog 27 = .ok (.iload_n 2, 1) := dec_of (decode cX10_copiesLog) da_288 15 rfl
theorem dX10_copiesLog_28 : decode cX10_copiesLog 28 = .ok (.imul, 1) := dec_of (decode cX10_copiesLog) da_288 16 rfl
theorem dX10_copiesLog_29 : decode cX10_copiesLog 29 = .ok (.iload_n 3, 1) := dec_of (decode cX10_copiesLog) da_288 17 rfl
theorem dX10_copiesLog_30 : decode cX10_copiesLog 30 = .ok (.iadd, 1) := dec_of (decode cX10_copiesLog) da_288 18 rfl
theorem dX10_copiesLog_31 : decode cX10_copiesLog 31 = .ok (.iaload, 1) := dec_of (decode cX10_copiesLog) da_288 19 rfl
theorem dX10_copiesLog_32 : decode cX10_copiesLog 32 = .ok (.iastore, 1) := dec_of (decode cX10_copiesLog) da_288 20 rfl
theorem dX10_copiesLog_33 : decode cX10_copiesLog 33 = .ok (.iinc 3 1, 3) := dec_of (decode cX10_copiesLog) da_288 21 rfl
theorem dX10_copiesLog_36 : decode cX10_copiesLog 36 = .ok (.goto (-34), 3) := dec_of (decode cX10_copiesLog) da_288 22 rfl
theorem dX10_copiesLog_39 : decode cX10_copiesLog 39 = .ok (.return_, 1) := dec_of (decode cX10_copiesLog) da_288 23 rfl
abbrev dl_289 : List (Nat × Except DecodeError (Instr × Nat)) := [(0, .ok (.iload_n 1, 1)), (1, .ok (.ifCond .lt 17, 3)), (4, .ok (.iload_n 1, 1)), (5, .ok (.aload_n 0, 1)), (6, .ok (.getfield 13, 3)), (9, .ok (.iconst 0, 1)), (10, .ok (.iaload, 1)), (11, .ok (.if_icmp .ge 7, 3)), (14, .ok (.iconst 1, 1)), (15, .ok (.goto 4, 3)), (18, .ok (.iconst 0, 1)), (19, .ok (.ireturn, 1))]
theorem da_289 : dl_289.all (fun q => decide (decode cX10_isMan q.1 = q.2)) = true := by decide +kernel
theorem dX10_isMan_0 : decode cX10_isMan 0 = .ok (.iload_n 1, 1) := dec_of (decode cX10_isMan) da_289 0 rfl
theorem dX10_isMan_1 : decode cX10_isMan 1 = .ok (.ifCond .lt 17, 3) := dec_of (decode cX10_isMan) da_289 1 rfl
theorem dX10_isMan_4 : decode cX10_isMan 4 = .ok (.iload_n 1, 1) := dec_of (decode cX10_isMan) da_289 2 rfl
theorem dX10_isMan_5 : decode cX10_isMan 5 = .ok (.aload_n 0, 1) := dec_of (decode cX10_isMan) da_289 3 rfl
theorem dX10_isMan_6 : decode cX10_isMan 6 = .ok (.getfield 13, 3) := dec_of (decode cX10_isMan) da_289 4 rfl
theorem dX10_isMan_9 : decode cX10_isMan 9 = .ok (.iconst 0, 1) := dec_of (decode cX10_isMan) da_289 5 rfl
theorem dX10_isMan_10 : decode cX10_isMan 10 = .ok (.iaload, 1) := dec_of (decode cX10_isMan) da_289 6 rfl
theorem dX10_isMan_11 : decode cX10_isMan 11 = .ok (.if_icmp .ge 7, 3) := dec_of (decode cX10_isMan) da_289 7 rfl
theorem dX10_isMan_14 : decode cX10_isMan 14 = .ok (.iconst 1, 1) := dec_of (decode cX10_isMan) da_289 8 rfl
theorem dX10_isMan_15 : decode cX10_isMan 15 = .ok (.goto 4, 3) := dec_of (decode cX10_isMan) da_289 9 rfl
theorem dX10_isMan_18 : decode cX10_isMan 18 = .ok (.iconst 0, 1) := dec_of (decode cX10_isMan) da_289 10 rfl
theorem dX10_isMan_19 : decode cX10_isMan 19 = .ok (.ireturn, 1) := dec_of (decode cX10_isMan) da_289 11 rfl
abbrev dl_290 : List (Nat × Except DecodeError (Instr × Nat)) := [(0, .ok (.aload_n 0, 1)), (1, .ok (.iload_n 1, 1)), (2, .ok (.invokevirtual 356, 3)), (5, .ok (.ifCond .eq 17, 3)), (8, .ok (.aload_n 0, 1)), (9, .ok (.getfield 87, 3)), (12, .ok (.iload_n 1, 1)), (13, .ok (.iaload, 1)), (14, .ok (.iconst 1, 1)), (15, .ok (.if_icmp .ne 7, 3)), (18, .ok (.iconst 1, 1)), (19, .ok (.goto 4, 3)), (22, .ok (.iconst 0, 1)), (23, .ok (.ireturn, 1))]
theorem da_290 : dl_290.all (fun q => decide (decode cX10_isIn q.1 = q.2)) = true := by decide +kernel
theorem dX10_isIn_0 : decode cX10_isIn 0 = .ok (.aload_n 0, 1) := dec_of (decode cX10_isIn) da_290 0 rfl
theorem dX10_isIn_1 : decode cX10_isIn 1 = .ok (.iload_n 1, 1) := dec_of (decode cX10_isIn) da_290 1 rfl
theorem dX10_isIn_2 : decode cX10_isIn 2 = .ok (.invokevirtual 356, 3) := dec_of (decode cX10_isIn) da_290 2 rfl
theorem dX10_isIn_5 : decode cX10_isIn 5 = .ok (.ifCond .eq 17, 3) := dec_of (decode cX10_isIn) da_290 3 rfl
theorem dX10_isIn_8 : decode cX10_isIn 8 = .ok (.aload_n 0, 1) := dec_of (decode cX10_isIn) da_290 4 rfl
theorem dX10_isIn_9 : decode cX10_isIn 9 = .ok (.getfield 87, 3) := dec_of (decode cX10_isIn) da_290 5 rfl
theorem dX10_isIn_12 : decode cX10_isIn 12 = .ok (.iload_n 1, 1) := dec_of (decode cX10_isIn) da_290 6 rfl
theorem dX10_isIn_13 : decode cX10_isIn 13 = .ok (.iaload, 1) := dec_of (decode cX10_isIn) da_290 7 rfl
theorem dX10_isIn_14 : decode cX10_isIn 14 = .ok (.iconst 1, 1) := dec_of (decode cX10_isIn) da_290 8 rfl
theorem dX10_isIn_15 : decode cX10_isIn 15 = .ok (.if_icmp .ne 7, 3) := dec_of (decode cX10_isIn) da_290 9 rfl
theorem dX10_isIn_18 : decode cX10_isIn 18 = .ok (.iconst 1, 1) := dec_of (decode cX10_isIn) da_290 10 rfl
theorem dX10_isIn_19 : decode cX10_isIn 19 = .ok (.goto 4, 3) := dec_of (decode cX10_isIn) da_290 11 rfl
theorem dX10_isIn_22 : decode cX10_isIn 22 = .ok (.iconst 0, 1) := dec_of (decode cX10_isIn) da_290 12 rfl
theorem dX10_isIn_23 : decode cX10_isIn 23 = .ok (.ireturn, 1) := dec_of (decode cX10_isIn) da_290 13 rfl
abbrev dl_291 : List (Nat × Except DecodeError (Instr × Nat)) := [(0, .ok (.aload_n 0, 1)), (1, .ok (.iload_n 1, 1)), (2, .ok (.invokevirtual 356, 3)), (5, .ok (.ifCond .eq 16, 3)), (8, .ok (.aload_n 0, 1)), (9, .ok (.getfield 87, 3)), (12, .ok (.iload_n 1, 1)), (13, .ok (.iaload, 1)), (14, .ok (.ifCond .ne 7, 3)), (17, .ok (.iconst 1, 1)), (18, .ok (.goto 4, 3)), (21, .ok (.iconst 0, 1)), (22, .ok (.ireturn, 1))]
theorem da_291 : dl_291.all (fun q => decide (decode cX10_isToCome q.1 = q.2)) = true := by decide +kernel
theorem dX10_isToCome_0 : decode cX10_isToCome 0 = .ok (.aload_n 0, 1) := dec_of (decode cX10_isToCome) da_291 0 rfl
theorem dX10_isToCome_1 : decode cX10_isToCome 1 = .ok (.iload_n 1, 1) := dec_of (decode cX10_isToCome) da_291 1 rfl
theorem dX10_isToCome_2 : decode cX10_isToCome 2 = .ok (.invokevirtual 356, 3) := dec_of (decode cX10_isToCome) da_291 2 rfl
theorem dX10_isToCome_5 : decode cX10_isToCome 5 = .ok (.ifCond .eq 16, 3) := dec_of (decode cX10_isToCome) da_291 3 rfl
theorem dX10_isToCome_8 : decode cX10_isToCome 8 = .ok (.aload_n 0, 1) := dec_of (decode cX10_isToCome) da_291 4 rfl
theorem dX10_isToCome_9 : decode cX10_isToCome 9 = .ok (.getfield 87, 3) := dec_of (decode cX10_isToCome) da_291 5 rfl
theorem dX10_isToCome_12 : decode cX10_isToCome 12 = .ok (.iload_n 1, 1) := dec_of (decode cX10_isToCome) da_291 6 rfl
theorem dX10_isToCome_13 : decode cX10_isToCome 13 = .ok (.iaload, 1) := dec_of (decode cX10_isToCome) da_291 7 rfl
theorem dX10_isToCome_14 : decode cX10_isToCome 14 = .ok (.ifCond .ne 7, 3) := dec_of (decode cX10_isToCome) da_291 8 rfl
theorem dX10_isToCome_17 : decode cX10_isToCome 17 = .ok (.iconst 1, 1) := dec_of (decode cX10_isToCome) da_291 9 rfl
theorem dX10_isToCome_18 : decode cX10_isToCome 18 = .ok (.goto 4, 3) := dec_of (decode cX10_isToCome) da_291 10 rfl
theorem dX10_isToCome_21 : decode cX10_isToCome 21 = .ok (.iconst 0, 1) := dec_of (decode cX10_isToCome) da_291 11 rfl
theorem dX10_isToCome_22 : decode cX10_isToCome 22 = .ok (.ireturn, 1) := dec_of (decode cX10_isToCome) da_291 12 rfl
abbrev dl_292 : List (Nat × Except DecodeError (Instr × Nat)) := [(0, .ok (.iload_n 0, 1)), (1, .ok (.ifCond .lt 13, 3)), (4, .ok (.iload_n 0, 1)), (5, .ok (.bipush 8, 2)), (7, .ok (.if_icmp .ge 7, 3)), (10, .ok (.iconst 1, 1)), (11, .ok (.goto 4, 3)), (14, .ok (.iconst 0, 1)), (15, .ok (.ireturn, 1))]
theorem da_292 : dl_292.all (fun q => decide (decode cX10_isPlace q.1 = q.2)) = true := by decide +kernel
theorem dX10_isPlace_0 : decode cX10_isPlace 0 = .ok (.iload_n 0, 1) := dec_of (decode cX10_isPlace) da_292 0 rfl
theorem dX10_isPlace_1 : decode cX10_isPlace 1 = .ok (.ifCond .lt 13, 3) := dec_of (decode cX10_isPlace) da_292 1 rfl
theorem dX10_isPlace_4 : decode cX10_isPlace 4 = .ok (.iload_n 0, 1) := dec_of (decode cX10_isPlace) da_292 2 rfl
theorem dX10_isPlace_5 : decode cX10_isPlace 5 = .ok (.bipush 8, 2) := dec_of (decode cX10_isPlace) da_292 3 rfl
theorem dX10_isPlace_7 : decode cX10_isPlace 7 = .ok (.if_icmp .ge 7, 3) := dec_of (decode cX10_isPlace) da_292 4 rfl
theorem dX10_isPlace_10 : decode cX10_isPlace 10 = .ok (.iconst 1, 1) := dec_of (decode cX10_isPlace) da_292 5 rfl
theorem dX10_isPlace_11 : decode cX10_isPlace 11 = .ok (.goto 4, 3) := dec_of (decode cX10_isPlace) da_292 6 rfl
theorem dX10_isPlace_14 : decode cX10_isPlace 14 = .ok (.iconst 0, 1) := dec_of (decode cX10_isPlace) da_292 7 rfl
theorem dX10_isPlace_15 : decode cX10_isPlace 15 = .ok (.ireturn, 1) := dec_of (decode cX10_isPlace) da_292 8 rfl
abbrev dl_293 : List (Nat × Except DecodeError (Instr × Nat)) := [(0, .ok (.iload_n 2, 1)), (1, .ok (.aload_n 0, 1)), (2, .ok (.getfield 81, 3)), (5, .ok (.iload_n 1, 1)), (6, .ok (.iaload, 1)), (7, .ok (.if_icmp .ge 17, 3)), (10, .ok (.aload_n 0, 1)), (11, .ok (.getfield 84, 3)), (14, .ok (.bipush 8, 2)), (16, .ok (.iload_n 1, 1)), (17, .ok (.imul, 1)), (18, .ok (.iload_n 2, 1)), (19, .ok (.iadd, 1)), (20, .ok (.iaload, 1)), (21, .ok (.goto 5, 3)), (24, .ok (.bipush (-2), 2)), (26, .ok (.ireturn, 1))]
theorem da_293 : dl_293.all (fun q => decide (decode cX10_standsAt q.1 = q.2)) = true := by decide +kernel
theorem dX10_standsAt_0 : decode cX10_standsAt 0 = .ok (.iload_n 2, 1) := dec_of (decode cX10_standsAt) da_293 0 rfl
theorem dX10_standsAt_1 : decode cX10_standsAt 1 = .ok (.aload_n 0, 1) := dec_of (decode cX10_standsAt) da_293 1 rfl
theorem dX10_standsAt_2 : decode cX10_standsAt 2 = .ok (.getfield 81, 3) := dec_of (decode cX10_standsAt) da_293 2 rfl
theorem dX10_standsAt_5 : decode cX10_standsAt 5 = .ok (.iload_n 1, 1) := dec_of (decode cX10_standsAt) da_293 3 rfl
theorem dX10_standsAt_6 : decode cX10_standsAt 6 = .ok (.iaload, 1) := dec_of (decode cX10_standsAt) da_293 4 rfl
theorem dX10_standsAt_7 : decode cX10_standsAt 7 = .ok (.if_icmp .ge 17, 3) := dec_of (decode cX10_standsAt) da_293 5 rfl
theorem dX10_standsAt_10 : decode cX10_standsAt 10 = .ok (.aload_n 0, 1) := dec_of (decode cX10_standsAt) da_293 6 rfl
theorem dX10_standsAt_11 : decode cX10_standsAt 11 = .ok (.getfield 84, 3) := dec_of (decode cX10_standsAt) da_293 7 rfl
theorem dX10_standsAt_14 : decode cX10_standsAt 14 = .ok (.bipush 8, 2) := dec_of (decode cX10_standsAt) da_293 8 rfl
theorem dX10_standsAt_16 : decode cX10_standsAt 16 = .ok (.iload_n 1, 1) := dec_of (decode cX10_standsAt) da_293 9 rfl
theorem dX10_standsAt_17 : decode cX10_standsAt 17 = .ok (.imul, 1) := dec_of (decode cX10_standsAt) da_293 10 rfl
theorem dX10_standsAt_18 : decode cX10_standsAt 18 = .ok (.iload_n 2, 1) := dec_of (decode cX10_standsAt) da_293 11 rfl
theorem dX10_standsAt_19 : decode cX10_standsAt 19 = .ok (.iadd, 1) := dec_of (decode cX10_standsAt) da_293 12 rfl
theorem dX10_standsAt_20 : decode cX10_standsAt 20 = .ok (.iaload, 1) := dec_of (decode cX10_standsAt) da_293 13 rfl
theorem dX10_standsAt_21 : decode cX10_standsAt 21 = .ok (.goto 5, 3) := dec_of (decode cX10_standsAt) da_293 14 rfl
theorem dX10_standsAt_24 : decode cX10_standsAt 24 = .ok (.bipush (-2), 2) := dec_of (decode cX10_standsAt) da_293 15 rfl
theorem dX10_standsAt_26 : decode cX10_standsAt 26 = .ok (.ireturn, 1) := dec_of (decode cX10_standsAt) da_293 16 rfl
abbrev dl_294 : List (Nat × Except DecodeError (Instr × Nat)) := [(0, .ok (.iconst 0, 1)), (1, .ok (.istore_n 3, 1)), (2, .ok (.iload_n 3, 1)), (3, .ok (.aload_n 0, 1)), (4, .ok (.getfield 81, 3)), (7, .ok (.iload_n 1, 1)), (8, .ok (.iaload, 1)), (9, .ok (.if_icmp .ge 26, 3)), (12, .ok (.aload_n 0, 1)), (13, .ok (.getfield 84, 3)), (16, .ok (.bipush 8, 2)), (18, .ok (.iload_n 1, 1)), (19, .ok (.imul, 1)), (20, .ok (.iload_n 3, 1)), (21, .ok (.iadd, 1)), (22, .ok (.iaload, 1)), (23, .ok (.iload_n 2, 1)), (24, .ok (.if_icmp .ne 5, 3)), (27, .ok (.iload_n 3, 1)), (28, .ok (.ireturn, 1)), (29, .ok (.iinc 3 1, 3)), (32, .ok (.goto (-30), 3)), (35, .ok (.iconst (-1), 1)), (36, .ok (.ireturn, 1))]
theorem da_294 : dl_294.all (fun q => decide (decode cX10_placeOf q.1 = q.2)) = true := by decide +kernel
theorem dX10_placeOf_0 : decode cX10_placeOf 0 = .ok (.iconst 0, 1) := dec_of (decode cX10_placeOf) da_294 0 rfl
theorem dX10_placeOf_1 : decode cX10_placeOf 1 = .ok (.istore_n 3, 1) := dec_of (decode cX10_placeOf) da_294 1 rfl
theorem dX10_placeOf_2 : decode cX10_placeOf 2 = .ok (.iload_n 3, 1) := dec_of (decode cX10_placeOf) da_294 2 rfl
theorem dX10_placeOf_3 : decode cX10_placeOf 3 = .ok (.aload_n 0, 1) := dec_of (decode cX10_placeOf) da_294 3 rfl
theorem dX10_placeOf_4 : decode cX10_placeOf 4 = .ok (.getfield 81, 3) := dec_of (decode cX10_placeOf) da_294 4 rfl
theorem dX10_placeOf_7 : decode cX10_placeOf 7 = .ok (.iload_n 1, 1) := dec_of (decode cX10_placeOf) da_294 5 rfl
theorem dX10_placeOf_8 : decode cX10_placeOf 8 = .ok (.iaload, 1) := dec_of (decode cX10_placeOf) da_294 6 rfl
theorem dX10_placeOf_9 : decode cX10_placeOf 9 = .ok (.if_icmp .ge 26, 3) := dec_of (decode cX10_placeOf) da_294 7 rfl
theorem dX10_placeOf_12 : decode cX10_placeOf 12 = .ok (.aload_n 0, 1) := dec_of (decode cX10_placeOf) da_294 8 rfl
theorem dX10_placeOf_13 : decode cX10_placeOf 13 = .ok (.getfield 84, 3) := dec_of (decode cX10_placeOf) da_294 9 rfl
theorem dX10_placeOf_16 : decode cX10_placeOf 16 = .ok (.bipush 8, 2) := dec_of (decode cX10_placeOf) da_294 10 rfl
theorem dX10_placeOf_18 : decode cX10_placeOf 18 = .ok (.iload_n 1, 1) := dec_of (decode cX10_placeOf) da_294 11 rfl
theorem dX10_placeOf_19 : decode cX10_placeOf 19 = .ok (.imul, 1) := dec_of (decode cX10_placeOf) da_294 12 rfl
theorem dX10_placeOf_20 : decode cX10_placeOf 20 = .ok (.iload_n 3, 1) := dec_of (decode cX10_placeOf) da_294 13 rfl
theorem dX10_placeOf_21 : decode cX10_placeOf 21 = .ok (.iadd, 1) := dec_of (decode cX10_placeOf) da_294 14 rfl
theorem dX10_placeOf_22 : decode cX10_placeOf 22 = .ok (.iaload, 1) := dec_of (decode cX10_placeOf) da_294 15 rfl
theorem dX10_placeOf_23 : decode cX10_placeOf 23 = .ok (.iload_n 2, 1) := dec_of (decode cX10_placeOf) da_294 16 rfl
theorem dX10_placeOf_24 : decode cX10_placeOf 24 = .ok (.if_icmp .ne 5, 3) := dec_of (decode cX10_placeOf) da_294 17 rfl
theorem dX10_placeOf_27 : decode cX10_placeOf 27 = .ok (.iload_n 3, 1) := dec_of (decode cX10_placeOf) da_294 18 rfl
theorem dX10_placeOf_28 : decode cX10_placeOf 28 = .ok (.ireturn, 1) := dec_of (decode cX10_placeOf) da_294 19 rfl
theorem dX10_placeOf_29 : decode cX10_placeOf 29 = .ok (.iinc 3 1, 3) := dec_of (decode cX10_placeOf) da_294 20 rfl
theorem dX10_placeOf_32 : decode cX10_placeOf 32 = .ok (.goto (-30), 3) := dec_of (decode cX10_placeOf) da_294 21 rfl
theorem dX10_placeOf_35 : decode cX10_placeOf 35 = .ok (.iconst (-1), 1) := dec_of (decode cX10_placeOf) da_294 22 rfl
theorem dX10_placeOf_36 : decode cX10_placeOf 36 = .ok (.ireturn, 1) := dec_of (decode cX10_placeOf) da_294 23 rfl
abbrev dl_295 : List (Nat × Except DecodeError (Instr × Nat)) := [(0, .ok (.aload_n 0, 1)), (1, .ok (.getfield 84, 3)), (4, .ok (.bipush 8, 2)), (6, .ok (.iload_n 1, 1)), (7, .ok (.imul, 1)), (8, .ok (.aload_n 0, 1)), (9, .ok (.getfield 81, 3)), (12, .ok (.iload_n 1, 1)), (13, .ok (.iaload, 1)), (14, .ok (.iadd, 1)), (15, .ok (.iload_n 2, 1)), (16, .ok (.iastore, 1)), (17, .ok (.aload_n 0, 1)), (18, .ok (.getfield 81, 3)), (21, .ok (.iload_n 1, 1)), (22, .ok (.dup2, 1)), (23, .ok (.iaload, 1)), (24, .ok (.iconst 1, 1)), (25, .ok (.iadd, 1)), (26, .ok (.iastore, 1)), (27, .ok (.aload_n 0, 1)), (28, .ok (.getfield 87, 3)), (31, .ok (.bipush 8, 2)), (33, .ok (.iload_n 1, 1)), (34, .ok (.imul, 1)), (35, .ok (.iload_n 2, 1)), (36, .ok (.iadd, 1)), (37, .ok (.iconst 1, 1)), (38, .ok (.iastore, 1)), (39, .ok (.aload_n 0, 1)), (40, .ok (.getfield 102, 3)), (43, .ok (.bipush 8, 2)), (45, .ok (.iload_n 1, 1)), (46, .ok (.imul, 1)), (47, .ok (.iload_n 2, 1)), (48, .ok (.iadd, 1)), (49, .ok (.iload_n 3, 1)), (50, .ok (.iastore, 1)), (51, .ok (.return_, 1))]
theorem da_295 : dl_295.all (fun q => decide (decode cX10_joins q.1 = q.2)) = true := by decide +kernel
theorem dX10_joins_0 : decode cX10_joins 0 = .ok (.aload_n 0, 1) := dec_of (decode cX10_joins) da_295 0 rfl
theorem dX10_joins_1 : decode cX10_joins 1 = .ok (.getfield 84, 3) := dec_of (decode cX10_joins) da_295 1 rfl
theorem dX10_joins_4 : decode cX10_joins 4 = .ok (.bipush 8, 2) := dec_of (decode cX10_joins) da_295 2 rfl
theorem dX10_joins_6 : decode cX10_joins 6 = .ok (.iload_n 1, 1) := dec_of (decode cX10_joins) da_295 3 rfl
theorem dX10_joins_7 : decode cX10_joins 7 = .ok (.imul, 1) := dec_of (decode cX10_joins) da_295 4 rfl
theorem dX10_joins_8 : decode cX10_joins 8 = .ok (.aload_n 0, 1) := dec_of (decode cX10_joins) da_295 5 rfl
theorem dX10_joins_9 : decode cX10_joins 9 = .ok (.getfield 81, 3) := dec_of (decode cX10_joins) da_295 6 rfl
theorem dX10_joins_12 : decode cX10_joins 12 = .ok (.iload_n 1, 1) := dec_of (decode cX10_joins) da_295 7 rfl
theorem dX10_joins_13 : decode cX10_joins 13 = .ok (.iaload, 1) := dec_of (decode cX10_joins) da_295 8 rfl
theorem dX10_joins_14 : decode cX10_joins 14 = .ok (.iadd, 1) := dec_of (decode cX10_joins) da_295 9 rfl
theorem dX10_joins_15 : decode cX10_joins 15 = .ok (.iload_n 2, 1) := dec_of (decode cX10_joins) da_295 10 rfl
theorem dX10_joins_16 : decode cX10_joins 16 = .ok (.iastore, 1) := dec_of (decode cX10_joins) da_295 11 rfl
theorem dX10_joins_17 : decode cX10_joins 17 = .ok (.aload_n 0, 1) := dec_of (decode cX10_joins) da_295 12 rfl
theorem dX10_joins_18 : decode cX10_joins 18 = .ok (.getfield 81, 3) := dec_of (decode cX10_joins) da_295 13 rfl
theorem dX10_joins_21 : decode cX10_joins 21 = .ok (.iload_n 1, 1) := dec_of (decode cX10_joins) da_295 14 rfl
theorem dX10_joins_22 : decode cX10_joins 22 = .ok (.dup2, 1) := dec_of (decode cX10_joins) da_295 15 rfl
theorem dX10_joins_23 : decode cX10_joins 23 = .ok (.iaload, 1) := dec_of (decode cX10_joins) da_295 16 rfl
theorem dX10_joins_24 : decode cX10_joins 24 = .ok (.iconst 1, 1) := dec_of (decode cX10_joins) da_295 17 rfl
theorem dX10_joins_25 : decode cX10_joins 25 = .ok (.iadd, 1) := dec_of (decode cX10_joins) da_295 18 rfl
theorem dX10_joins_26 : decode cX10_joins 26 = .ok (.iastore, 1) := dec_of (decode cX10_joins) da_295 19 rfl
theorem dX10_joins_27 : decode cX10_joins 27 = .ok (.aload_n 0, 1) := dec_of (decode cX10_joins) da_295 20 rfl
theorem dX10_joins_28 : decode cX10_joins 28 = .ok (.getfield 87, 3) := dec_of (decode cX10_joins) da_295 21 rfl
theorem dX10_joins_31 : decode cX10_joins 31 = .ok (.bipush 8, 2) := dec_of (decode cX10_joins) da_295 22 rfl
theorem dX10_joins_33 : decode cX10_joins 33 = .ok (.iload_n 1, 1) := dec_of (decode cX10_joins) da_295 23 rfl
theorem dX10_joins_34 : decode cX10_joins 34 = .ok (.imul, 1) := dec_of (decode cX10_joins) da_295 24 rfl
theorem dX10_joins_35 : decode cX10_joins 35 = .ok (.iload_n 2, 1) := dec_of (decode cX10_joins) da_295 25 rfl
theorem dX10_joins_36 : decode cX10_joins 36 = .ok (.iadd, 1) := dec_of (decode cX10_joins) da_295 26 rfl
theorem dX10_joins_37 : decode cX10_joins 37 = .ok (.iconst 1, 1) := dec_of (decode cX10_joins) da_295 27 rfl
theorem dX10_joins_38 : decode cX10_joins 38 = .ok (.iastore, 1) := dec_of (decode cX10_joins) da_295 28 rfl
theorem dX10_joins_39 : decode cX10_joins 39 = .ok (.aload_n 0, 1) := dec_of (decode cX10_joins) da_295 29 rfl
theorem dX10_joins_40 : decode cX10_joins 40 = .ok (.getfield 102, 3) := dec_of (decode cX10_joins) da_295 30 rfl
theorem dX10_joins_43 : decode cX10_joins 43 = .ok (.bipush 8, 2) := dec_of (decode cX10_joins) da_295 31 rfl
theorem dX10_joins_45 : decode cX10_joins 45 = .ok (.iload_n 1, 1) := dec_of (decode cX10_joins) da_295 32 rfl
theorem dX10_joins_46 : decode cX10_joins 46 = .ok (.imul, 1) := dec_of (decode cX10_joins) da_295 33 rfl
theorem dX10_joins_47 : decode cX10_joins 47 = .ok (.iload_n 2, 1) := dec_of (decode cX10_joins) da_295 34 rfl
theorem dX10_joins_48 : decode cX10_joins 48 = .ok (.iadd, 1) := dec_of (decode cX10_joins) da_295 35 rfl
theorem dX10_joins_49 : decode cX10_joins 49 = .ok (.iload_n 3, 1) := dec_of (decode cX10_joins) da_295 36 rfl
theorem dX10_joins_50 : decode cX10_joins 50 = .ok (.iastore, 1) := dec_of (decode cX10_joins) da_295 37 rfl
theorem dX10_joins_51 : decode cX10_joins 51 = .ok (.return_, 1) := dec_of (decode cX10_joins) da_295 38 rfl
abbrev dl_296 : List (Nat × Except DecodeError (Instr × Nat)) := [(0, .ok (.aload_n 0, 1)), (1, .ok (.getfield 84, 3)), (4, .ok (.bipush 8, 2)), (6, .ok (.iload_n 1, 1)), (7, .ok (.imul, 1)), (8, .ok (.iload_n 2, 1)), (9, .ok (.iadd, 1)), (10, .ok (.iaload, 1)), (11, .ok (.istore 5, 2)), (13, .ok (.bipush 8, 2)), (15, .ok (.iload_n 1, 1)), (16, .ok (.imul, 1)), (17, .ok (.iload 5, 2)), (19, .ok (.iadd, 1)), (20, .ok (.istore 6, 2)), (22, .ok (.iload_n 2, 1)), (23, .ok (.istore 7, 2)), (25, .ok (.iload 7, 2)), (27, .ok (.iconst 1, 1)), (28, .ok (.iadd, 1)), (29, .ok (.aload_n 0, 1)), (30, .ok (.getfield 81, 3)), (33, .ok (.iload_n 1, 1)), (34, .ok (.iaload, 1)), (35, .ok (.if_icmp .ge 35, 3)), (38, .ok (.aload_n 0, 1)), (39, .ok (.getfield 84, 3)), (42, .ok (.bipush 8, 2)), (44, .ok (.iload_n 1, 1)), (45, .ok (.imul, 1)), (46, .ok (.iload 7, 2)), (48, .ok (.iadd, 1)), (49, .ok (.aload_n 0, 1)), (50, .ok (.getfield 84, 3)), (53, .ok (.bipush 8, 2)), (55, .ok (.iload_n 1, 1)), (56, .ok (.imul, 1)), (57, .ok (.iload 7, 2)), (59, .ok (.iadd, 1)), (60, .ok (.iconst 1, 1))]
theorem da_296 : dl_296.all (fun q => decide (decode cX10_leaves q.1 = q.2)) = true := by decide +kernel
theorem dX10_leaves_0 : decode cX10_leaves 0 = .ok (.aload_n 0, 1) := dec_of (decode cX10_leaves) da_296 0 rfl
theorem dX10_leaves_1 : decode cX10_leaves 1 = .ok (.getfield 84, 3) := dec_of (decode cX10_leaves) da_296 1 rfl
theorem dX10_leaves_4 : decode cX10_leaves 4 = .ok (.bipush 8, 2) := dec_of (decode cX10_leaves) da_296 2 rfl
theorem dX10_leaves_6 : decode cX10_leaves 6 = .ok (.iload_n 1, 1) := dec_of (decode cX10_leaves) da_296 3 rfl
theorem dX10_leaves_7 : decode cX10_leaves 7 = .ok (.imul, 1) := dec_of (decode cX10_leaves) da_296 4 rfl
theorem dX10_leaves_8 : decode cX10_leaves 8 = .ok (.iload_n 2, 1) := dec_of (decode cX10_leaves) da_296 5 rfl
theorem dX10_leaves_9 : decode cX10_leaves 9 = .ok (.iadd, 1) := dec_of (decode cX10_leaves) da_296 6 rfl
theorem dX10_leaves_10 : decode cX10_leaves 10 = .ok (.iaload, 1) := dec_of (decode cX10_leaves) da_296 7 rfl
theorem dX10_leaves_11 : decode cX10_leaves 11 = .ok (.istore 5, 2) := dec_of (decode cX10_leaves) da_296 8 rfl
theorem dX10_leaves_13 : decode cX10_leaves 13 = .ok (.bipush 8, 2) := dec_of (decode cX10_leaves) da_296 9 rfl
theorem dX10_leaves_15 : decode cX10_leaves 15 = .ok (.iload_n 1, 1) := dec_of (decode cX10_leaves) da_296 10 rfl
theorem dX10_leaves_16 : decode cX10_leaves 16 = .ok (.imul, 1) := dec_of (decode cX10_leaves) da_296 11 rfl
theorem dX10_leaves_17 : decode cX10_leaves 17 = .ok (.iload 5, 2) := dec_of (decode cX10_leaves) da_296 12 rfl
theorem dX10_leaves_19 : decode cX10_leaves 19 = .ok (.iadd, 1) := dec_of (decode cX10_leaves) da_296 13 rfl
theorem dX10_leaves_20 : decode cX10_leaves 20 = .ok (.istore 6, 2) := dec_of (decode cX10_leaves) da_296 14 rfl
theorem dX10_leaves_22 : decode cX10_leaves 22 = .ok (.iload_n 2, 1) := dec_of (decode cX10_leaves) da_296 15 rfl
theorem dX10_leaves_23 : decode cX10_leaves 23 = .ok (.istore 7, 2) := dec_of (decode cX10_leaves) da_296 16 rfl
theorem dX10_leaves_25 : decode cX10_leaves 25 = .ok (.iload 7, 2) := dec_of (decode cX10_leaves) da_296 17 rfl
theorem dX10_leaves_27 : decode cX10_leaves 27 = .ok (.iconst 1, 1) := dec_of (decode cX10_leaves) da_296 18 rfl
theorem dX10_leaves_28 : decode cX10_leaves 28 = .ok (.iadd, 1) := dec_of (decode cX10_leaves) da_296 19 rfl
theorem dX10_leaves_29 : decode cX10_leaves 29 = .ok (.aload_n 0, 1) := dec_of (decode cX10_leaves) da_296 20 rfl
theorem dX10_leaves_30 : decode cX10_leaves 30 = .ok (.getfield 81, 3) := dec_of (decode cX10_leaves) da_296 21 rfl
theorem dX10_leaves_33 : decode cX10_leaves 33 = .ok (.iload_n 1, 1) := dec_of (decode cX10_leaves) da_296 22 rfl
theorem dX10_leaves_34 : decode cX10_leaves 34 = .ok (.iaload, 1) := dec_of (decode cX10_leaves) da_296 23 rfl
theorem dX10_leaves_35 : decode cX10_leaves 35 = .ok (.if_icmp .ge 35, 3) := dec_of (decode cX10_leaves) da_296 24 rfl
theorem dX10_leaves_38 : decode cX10_leaves 38 = .ok (.aload_n 0, 1) := dec_of (decode cX10_leaves) da_296 25 rfl
theorem dX10_leaves_39 : decode cX10_leaves 39 = .ok (.getfield 84, 3) := dec_of (decode cX10_leaves) da_296 26 rfl
theorem dX10_leaves_42 : decode cX10_leaves 42 = .ok (.bipush 8, 2) := dec_of (decode cX10_leaves) da_296 27 rfl
theorem dX10_leaves_44 : decode cX10_leaves 44 = .ok (.iload_n 1, 1) := dec_of (decode cX10_leaves) da_296 28 rfl
theorem dX10_leaves_45 : decode cX10_leaves 45 = .ok (.imul, 1) := dec_of (decode cX10_leaves) da_296 29 rfl
theorem dX10_leaves_46 : decode cX10_leaves 46 = .ok (.iload 7, 2) := dec_of (decode cX10_leaves) da_296 30 rfl
theorem dX10_leaves_48 : decode cX10_leaves 48 = .ok (.iadd, 1) := dec_of (decode cX10_leaves) da_296 31 rfl
theorem dX10_leaves_49 : decode cX10_leaves 49 = .ok (.aload_n 0, 1) := dec_of (decode cX10_leaves) da_296 32 rfl
theorem dX10_leaves_50 : decode cX10_leaves 50 = .ok (.getfield 84, 3) := dec_of (decode cX10_leaves) da_296 33 rfl
theorem dX10_leaves_53 : decode cX10_leaves 53 = .ok (.bipush 8, 2) := dec_of (decode cX10_leaves) da_296 34 rfl
theorem dX10_leaves_55 : decode cX10_leaves 55 = .ok (.iload_n 1, 1) := dec_of (decode cX10_leaves) da_296 35 rfl
theorem dX10_leaves_56 : decode cX10_leaves 56 = .ok (.imul, 1) := dec_of (decode cX10_leaves) da_296 36 rfl
theorem dX10_leaves_57 : decode cX10_leaves 57 = .ok (.iload 7, 2) := dec_of (decode cX10_leaves) da_296 37 rfl
theorem dX10_leaves_59 : decode cX10_leaves 59 = .ok (.iadd, 1) := dec_of (decode cX10_leaves) da_296 38 rfl
theorem dX10_leaves_60 : decode cX10_leaves 60 = .ok (.iconst 1, 1) := dec_of (decode cX10_leaves) da_296 39 rfl
abbrev dl_297 : List (Nat × Except DecodeError (Instr × Nat)) := [(61, .ok (.iadd, 1)), (62, .ok (.iaload, 1)), (63, .ok (.iastore, 1)), (64, .ok (.iinc 7 1, 3)), (67, .ok (.goto (-42), 3)), (70, .ok (.aload_n 0, 1)), (71, .ok (.getfield 81, 3)), (74, .ok (.iload_n 1, 1)), (75, .ok (.dup2, 1)), (76, .ok (.iaload, 1)), (77, .ok (.iconst 1, 1)), (78, .ok (.isub, 1)), (79, .ok (.iastore, 1)), (80, .ok (.aload_n 0, 1)), (81, .ok (.getfield 87, 3)), (84, .ok (.iload 6, 2)), (86, .ok (.iload_n 3, 1)), (87, .ok (.iastore, 1)), (88, .ok (.aload_n 0, 1)), (89, .ok (.getfield 105, 3)), (92, .ok (.iload 6, 2)), (94, .ok (.iload 4, 2)), (96, .ok (.iastore, 1)), (97, .ok (.aload_n 0, 1)), (98, .ok (.getfield 108, 3)), (101, .ok (.iload 6, 2)), (103, .ok (.iconst 0, 1)), (104, .ok (.iastore, 1)), (105, .ok (.aload_n 0, 1)), (106, .ok (.getfield 78, 3)), (109, .ok (.iload_n 1, 1)), (110, .ok (.dup2, 1)), (111, .ok (.iaload, 1)), (112, .ok (.iconst 1, 1)), (113, .ok (.iload 5, 2)), (115, .ok (.ishl, 1)), (116, .ok (.iconst (-1), 1)), (117, .ok (.ixor, 1)), (118, .ok (.iand, 1)), (119, .ok (.iastore, 1))]
theorem da_297 : dl_297.all (fun q => decide (decode cX10_leaves q.1 = q.2)) = true := by decide +kernel
theorem dX10_leaves_61 : decode cX10_leaves 61 = .ok (.iadd, 1) := dec_of (decode cX10_leaves) da_297 0 rfl
theorem dX10_leaves_62 : decode cX10_leaves 62 = .ok (.iaload, 1) := dec_of (decode cX10_leaves) da_297 1 rfl
theorem dX10_leaves_63 : decode cX10_leaves 63 = .ok (.iastore, 1) := dec_of (decode cX10_leaves) da_297 2 rfl
theorem dX10_leaves_64 : decode cX10_leaves 64 = .ok (.iinc 7 1, 3) := dec_of (decode cX10_leaves) da_297 3 rfl
theorem dX10_leaves_67 : decode cX10_leaves 67 = .ok (.goto (-42), 3) := dec_of (decode cX10_leaves) da_297 4 rfl
theorem dX10_leaves_70 : decode cX10_leaves 70 = .ok (.aload_n 0, 1) := dec_of (decode cX10_leaves) da_297 5 rfl
theorem dX10_leaves_71 : decode cX10_leaves 71 = .ok (.getfield 81, 3) := dec_of (decode cX10_leaves) da_297 6 rfl
theorem dX10_leaves_74 : decode cX10_leaves 74 = .ok (.iload_n 1, 1) := dec_of (decode cX10_leaves) da_297 7 rfl
theorem dX10_leaves_75 : decode cX10_leaves 75 = .ok (.dup2, 1) := dec_of (decode cX10_leaves) da_297 8 rfl
theorem dX10_leaves_76 : decode cX10_leaves 76 = .ok (.iaload, 1) := dec_of (decode cX10_leaves) da_297 9 rfl
theorem dX10_leaves_77 : decode cX10_leaves 77 = .ok (.iconst 1, 1) := dec_of (decode cX10_leaves) da_297 10 rfl
theorem dX10_leaves_78 : decode cX10_leaves 78 = .ok (.isub, 1) := dec_of (decode cX10_leaves) da_297 11 rfl
theorem dX10_leaves_79 : decode cX10_leaves 79 = .ok (.iastore, 1) := dec_of (decode cX10_leaves) da_297 12 rfl
theorem dX10_leaves_80 : decode cX10_leaves 80 = .ok (.aload_n 0, 1) := dec_of (decode cX10_leaves) da_297 13 rfl
theorem dX10_leaves_81 : decode cX10_leaves 81 = .ok (.getfield 87, 3) := dec_of (decode cX10_leaves) da_297 14 rfl
theorem dX10_leaves_84 : decode cX10_leaves 84 = .ok (.iload 6, 2) := dec_of (decode cX10_leaves) da_297 15 rfl
theorem dX10_leaves_86 : decode cX10_leaves 86 = .ok (.iload_n 3, 1) := dec_of (decode cX10_leaves) da_297 16 rfl
theorem dX10_leaves_87 : decode cX10_leaves 87 = .ok (.iastore, 1) := dec_of (decode cX10_leaves) da_297 17 rfl
theorem dX10_leaves_88 : decode cX10_leaves 88 = .ok (.aload_n 0, 1) := dec_of (decode cX10_leaves) da_297 18 rfl
theorem dX10_leaves_89 : decode cX10_leaves 89 = .ok (.getfield 105, 3) := dec_of (decode cX10_leaves) da_297 19 rfl
theorem dX10_leaves_92 : decode cX10_leaves 92 = .ok (.iload 6, 2) := dec_of (decode cX10_leaves) da_297 20 rfl
theorem dX10_leaves_94 : decode cX10_leaves 94 = .ok (.iload 4, 2) := dec_of (decode cX10_leaves) da_297 21 rfl
theorem dX10_leaves_96 : decode cX10_leaves 96 = .ok (.iastore, 1) := dec_of (decode cX10_leaves) da_297 22 rfl
theorem dX10_leaves_97 : decode cX10_leaves 97 = .ok (.aload_n 0, 1) := dec_of (decode cX10_leaves) da_297 23 rfl
theorem dX10_leaves_98 : decode cX10_leaves 98 = .ok (.getfield 108, 3) := dec_of (decode cX10_leaves) da_297 24 rfl
theorem dX10_leaves_101 : decode cX10_leaves 101 = .ok (.iload 6, 2) := dec_of (decode cX10_leaves) da_297 25 rfl
theorem dX10_leaves_103 : decode cX10_leaves 103 = .ok (.iconst 0, 1) := dec_of (decode cX10_leaves) da_297 26 rfl
theorem dX10_leaves_104 : decode cX10_leaves 104 = .ok (.iastore, 1) := dec_of (decode cX10_leaves) da_297 27 rfl
theorem dX10_leaves_105 : decode cX10_leaves 105 = .ok (.aload_n 0, 1) := dec_of (decode cX10_leaves) da_297 28 rfl
theorem dX10_leaves_106 : decode cX10_leaves 106 = .ok (.getfield 78, 3) := dec_of (decode cX10_leaves) da_297 29 rfl
theorem dX10_leaves_109 : decode cX10_leaves 109 = .ok (.iload_n 1, 1) := dec_of (decode cX10_leaves) da_297 30 rfl
theorem dX10_leaves_110 : decode cX10_leaves 110 = .ok (.dup2, 1) := dec_of (decode cX10_leaves) da_297 31 rfl
theorem dX10_leaves_111 : decode cX10_leaves 111 = .ok (.iaload, 1) := dec_of (decode cX10_leaves) da_297 32 rfl
theorem dX10_leaves_112 : decode cX10_leaves 112 = .ok (.iconst 1, 1) := dec_of (decode cX10_leaves) da_297 33 rfl
theorem dX10_leaves_113 : decode cX10_leaves 113 = .ok (.iload 5, 2) := dec_of (decode cX10_leaves) da_297 34 rfl
theorem dX10_leaves_115 : decode cX10_leaves 115 = .ok (.ishl, 1) := dec_of (decode cX10_leaves) da_297 35 rfl
theorem dX10_leaves_116 : decode cX10_leaves 116 = .ok (.iconst (-1), 1) := dec_of (decode cX10_leaves) da_297 36 rfl
theorem dX10_leaves_117 : decode cX10_leaves 117 = .ok (.ixor, 1) := dec_of (decode cX10_leaves) da_297 37 rfl
theorem dX10_leaves_118 : decode cX10_leaves 118 = .ok (.iand, 1) := dec_of (decode cX10_leaves) da_297 38 rfl
theorem dX10_leaves_119 : decode cX10_leaves 119 = .ok (.iastore, 1) := dec_of (decode cX10_leaves) da_297 39 rfl
abbrev dl_298 : List (Nat × Except DecodeError (Instr × Nat)) := [(120, .ok (.iload_n 3, 1)), (121, .ok (.iconst 2, 1)), (122, .ok (.if_icmp .ne 12, 3)), (125, .ok (.aload_n 0, 1)), (126, .ok (.getfield 111, 3)), (129, .ok (.iload 6, 2)), (131, .ok (.iload 4, 2)), (133, .ok (.iastore, 1)), (134, .ok (.return_, 1))]
theorem da_298 : dl_298.all (fun q => decide (decode cX10_leaves q.1 = q.2)) = true := by decide +kernel
theorem dX10_leaves_120 : decode cX10_leaves 120 = .ok (.iload_n 3, 1) := dec_of (decode cX10_leaves) da_298 0 rfl
theorem dX10_leaves_121 : decode cX10_leaves 121 = .ok (.iconst 2, 1) := dec_of (decode cX10_leaves) da_298 1 rfl
theorem dX10_leaves_122 : decode cX10_leaves 122 = .ok (.if_icmp .ne 12, 3) := dec_of (decode cX10_leaves) da_298 2 rfl
theorem dX10_leaves_125 : decode cX10_leaves 125 = .ok (.aload_n 0, 1) := dec_of (decode cX10_leaves) da_298 3 rfl
theorem dX10_leaves_126 : decode cX10_leaves 126 = .ok (.getfield 111, 3) := dec_of (decode cX10_leaves) da_298 4 rfl
theorem dX10_leaves_129 : decode cX10_leaves 129 = .ok (.iload 6, 2) := dec_of (decode cX10_leaves) da_298 5 rfl
theorem dX10_leaves_131 : decode cX10_leaves 131 = .ok (.iload 4, 2) := dec_of (decode cX10_leaves) da_298 6 rfl
theorem dX10_leaves_133 : decode cX10_leaves 133 = .ok (.iastore, 1) := dec_of (decode cX10_leaves) da_298 7 rfl
theorem dX10_leaves_134 : decode cX10_leaves 134 = .ok (.return_, 1) := dec_of (decode cX10_leaves) da_298 8 rfl
abbrev dl_299 : List (Nat × Except DecodeError (Instr × Nat)) := [(0, .ok (.iconst (-1), 1)), (1, .ok (.istore_n 3, 1)), (2, .ok (.iconst 0, 1)), (3, .ok (.istore 4, 2)), (5, .ok (.iload 4, 2)), (7, .ok (.aload_n 0, 1)), (8, .ok (.getfield 13, 3)), (11, .ok (.iconst 0, 1)), (12, .ok (.iaload, 1)), (13, .ok (.if_icmp .ge 99, 3)), (16, .ok (.aload_n 0, 1)), (17, .ok (.getfield 87, 3)), (20, .ok (.bipush 8, 2)), (22, .ok (.iload_n 1, 1)), (23, .ok (.imul, 1)), (24, .ok (.iload 4, 2)), (26, .ok (.iadd, 1)), (27, .ok (.iaload, 1)), (28, .ok (.ifCond .ne 78, 3)), (31, .ok (.aload_n 0, 1)), (32, .ok (.getfield 99, 3)), (35, .ok (.bipush 8, 2)), (37, .ok (.iload_n 1, 1)), (38, .ok (.imul, 1)), (39, .ok (.iload 4, 2)), (41, .ok (.iadd, 1)), (42, .ok (.iaload, 1)), (43, .ok (.iload_n 2, 1)), (44, .ok (.if_icmp .eq 6, 3)), (47, .ok (.goto 59, 3)), (50, .ok (.iload_n 3, 1)), (51, .ok (.iconst (-1), 1)), (52, .ok (.if_icmp .eq 51, 3)), (55, .ok (.aload_n 0, 1)), (56, .ok (.getfield 22, 3)), (59, .ok (.iload 4, 2)), (61, .ok (.iaload, 1)), (62, .ok (.aload_n 0, 1)), (63, .ok (.getfield 22, 3)), (66, .ok (.iload_n 3, 1))]
theorem da_299 : dl_299.all (fun q => decide (decode cX10_arrive q.1 = q.2)) = true := by decide +kernel
theorem dX10_arrive_0 : decode cX10_arrive 0 = .ok (.iconst (-1), 1) := dec_of (decode cX10_arrive) da_299 0 rfl
theorem dX10_arrive_1 : decode cX10_arrive 1 = .ok (.istore_n 3, 1) := dec_of (decode cX10_arrive) da_299 1 rfl
theorem dX10_arrive_2 : decode cX10_arrive 2 = .ok (.iconst 0, 1) := dec_of (decode cX10_arrive) da_299 2 rfl
theorem dX10_arrive_3 : decode cX10_arrive 3 = .ok (.istore 4, 2) := dec_of (decode cX10_arrive) da_299 3 rfl
theorem dX10_arrive_5 : decode cX10_arrive 5 = .ok (.iload 4, 2) := dec_of (decode cX10_arrive) da_299 4 rfl
theorem dX10_arrive_7 : decode cX10_arrive 7 = .ok (.aload_n 0, 1) := dec_of (decode cX10_arrive) da_299 5 rfl
theorem dX10_arrive_8 : decode cX10_arrive 8 = .ok (.getfield 13, 3) := dec_of (decode cX10_arrive) da_299 6 rfl
theorem dX10_arrive_11 : decode cX10_arrive 11 = .ok (.iconst 0, 1) := dec_of (decode cX10_arrive) da_299 7 rfl
theorem dX10_arrive_12 : decode cX10_arrive 12 = .ok (.iaload, 1) := dec_of (decode cX10_arrive) da_299 8 rfl
theorem dX10_arrive_13 : decode cX10_arrive 13 = .ok (.if_icmp .ge 99, 3) := dec_of (decode cX10_arrive) da_299 9 rfl
theorem dX10_arrive_16 : decode cX10_arrive 16 = .ok (.aload_n 0, 1) := dec_of (decode cX10_arrive) da_299 10 rfl
theorem dX10_arrive_17 : decode cX10_arrive 17 = .ok (.getfield 87, 3) := dec_of (decode cX10_arrive) da_299 11 rfl
theorem dX10_arrive_20 : decode cX10_arrive 20 = .ok (.bipush 8, 2) := dec_of (decode cX10_arrive) da_299 12 rfl
theorem dX10_arrive_22 : decode cX10_arrive 22 = .ok (.iload_n 1, 1) := dec_of (decode cX10_arrive) da_299 13 rfl
theorem dX10_arrive_23 : decode cX10_arrive 23 = .ok (.imul, 1) := dec_of (decode cX10_arrive) da_299 14 rfl
theorem dX10_arrive_24 : decode cX10_arrive 24 = .ok (.iload 4, 2) := dec_of (decode cX10_arrive) da_299 15 rfl
theorem dX10_arrive_26 : decode cX10_arrive 26 = .ok (.iadd, 1) := dec_of (decode cX10_arrive) da_299 16 rfl
theorem dX10_arrive_27 : decode cX10_arrive 27 = .ok (.iaload, 1) := dec_of (decode cX10_arrive) da_299 17 rfl
theorem dX10_arrive_28 : decode cX10_arrive 28 = .ok (.ifCond .ne 78, 3) := dec_of (decode cX10_arrive) da_299 18 rfl
theorem dX10_arrive_31 : decode cX10_arrive 31 = .ok (.aload_n 0, 1) := dec_of (decode cX10_arrive) da_299 19 rfl
theorem dX10_arrive_32 : decode cX10_arrive 32 = .ok (.getfield 99, 3) := dec_of (decode cX10_arrive) da_299 20 rfl
theorem dX10_arrive_35 : decode cX10_arrive 35 = .ok (.bipush 8, 2) := dec_of (decode cX10_arrive) da_299 21 rfl
theorem dX10_arrive_37 : decode cX10_arrive 37 = .ok (.iload_n 1, 1) := dec_of (decode cX10_arrive) da_299 22 rfl
theorem dX10_arrive_38 : decode cX10_arrive 38 = .ok (.imul, 1) := dec_of (decode cX10_arrive) da_299 23 rfl
theorem dX10_arrive_39 : decode cX10_arrive 39 = .ok (.iload 4, 2) := dec_of (decode cX10_arrive) da_299 24 rfl
theorem dX10_arrive_41 : decode cX10_arrive 41 = .ok (.iadd, 1) := dec_of (decode cX10_arrive) da_299 25 rfl
theorem dX10_arrive_42 : decode cX10_arrive 42 = .ok (.iaload, 1) := dec_of (decode cX10_arrive) da_299 26 rfl
theorem dX10_arrive_43 : decode cX10_arrive 43 = .ok (.iload_n 2, 1) := dec_of (decode cX10_arrive) da_299 27 rfl
theorem dX10_arrive_44 : decode cX10_arrive 44 = .ok (.if_icmp .eq 6, 3) := dec_of (decode cX10_arrive) da_299 28 rfl
theorem dX10_arrive_47 : decode cX10_arrive 47 = .ok (.goto 59, 3) := dec_of (decode cX10_arrive) da_299 29 rfl
theorem dX10_arrive_50 : decode cX10_arrive 50 = .ok (.iload_n 3, 1) := dec_of (decode cX10_arrive) da_299 30 rfl
theorem dX10_arrive_51 : decode cX10_arrive 51 = .ok (.iconst (-1), 1) := dec_of (decode cX10_arrive) da_299 31 rfl
theorem dX10_arrive_52 : decode cX10_arrive 52 = .ok (.if_icmp .eq 51, 3) := dec_of (decode cX10_arrive) da_299 32 rfl
theorem dX10_arrive_55 : decode cX10_arrive 55 = .ok (.aload_n 0, 1) := dec_of (decode cX10_arrive) da_299 33 rfl
theorem dX10_arrive_56 : decode cX10_arrive 56 = .ok (.getfield 22, 3) := dec_of (decode cX10_arrive) da_299 34 rfl
theorem dX10_arrive_59 : decode cX10_arrive 59 = .ok (.iload 4, 2) := dec_of (decode cX10_arrive) da_299 35 rfl
theorem dX10_arrive_61 : decode cX10_arrive 61 = .ok (.iaload, 1) := dec_of (decode cX10_arrive) da_299 36 rfl
theorem dX10_arrive_62 : decode cX10_arrive 62 = .ok (.aload_n 0, 1) := dec_of (decode cX10_arrive) da_299 37 rfl
theorem dX10_arrive_63 : decode cX10_arrive 63 = .ok (.getfield 22, 3) := dec_of (decode cX10_arrive) da_299 38 rfl
theorem dX10_arrive_66 : decode cX10_arrive 66 = .ok (.iload_n 3, 1) := dec_of (decode cX10_arrive) da_299 39 rfl

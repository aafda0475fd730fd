abbrev dl_300 : List (Nat × Except DecodeError (Instr × Nat)) := [(67, .ok (.iaload, 1)), (68, .ok (.if_icmp .lt 35, 3)), (71, .ok (.aload_n 0, 1)), (72, .ok (.getfield 22, 3)), (75, .ok (.iload 4, 2)), (77, .ok (.iaload, 1)), (78, .ok (.aload_n 0, 1)), (79, .ok (.getfield 22, 3)), (82, .ok (.iload_n 3, 1)), (83, .ok (.iaload, 1)), (84, .ok (.if_icmp .ne 22, 3)), (87, .ok (.aload_n 0, 1)), (88, .ok (.getfield 19, 3)), (91, .ok (.iload 4, 2)), (93, .ok (.iaload, 1)), (94, .ok (.aload_n 0, 1)), (95, .ok (.getfield 19, 3)), (98, .ok (.iload_n 3, 1)), (99, .ok (.iaload, 1)), (100, .ok (.if_icmp .le 6, 3)), (103, .ok (.iload 4, 2)), (105, .ok (.istore_n 3, 1)), (106, .ok (.iinc 4 1, 3)), (109, .ok (.goto (-104), 3)), (112, .ok (.iload_n 3, 1)), (113, .ok (.iconst (-1), 1)), (114, .ok (.if_icmp .ne 4, 3)), (117, .ok (.return_, 1)), (118, .ok (.aload_n 0, 1)), (119, .ok (.iload_n 1, 1)), (120, .ok (.iload_n 3, 1)), (121, .ok (.iload_n 2, 1)), (122, .ok (.invokevirtual 359, 3)), (125, .ok (.goto (-125), 3))]
theorem da_300 : dl_300.all (fun q => decide (decode cX10_arrive q.1 = q.2)) = true := by decide +kernel
theorem dX10_arrive_67 : decode cX10_arrive 67 = .ok (.iaload, 1) := dec_of (decode cX10_arrive) da_300 0 rfl
theorem dX10_arrive_68 : decode cX10_arrive 68 = .ok (.if_icmp .lt 35, 3) := dec_of (decode cX10_arrive) da_300 1 rfl
theorem dX10_arrive_71 : decode cX10_arrive 71 = .ok (.aload_n 0, 1) := dec_of (decode cX10_arrive) da_300 2 rfl
theorem dX10_arrive_72 : decode cX10_arrive 72 = .ok (.getfield 22, 3) := dec_of (decode cX10_arrive) da_300 3 rfl
theorem dX10_arrive_75 : decode cX10_arrive 75 = .ok (.iload 4, 2) := dec_of (decode cX10_arrive) da_300 4 rfl
theorem dX10_arrive_77 : decode cX10_arrive 77 = .ok (.iaload, 1) := dec_of (decode cX10_arrive) da_300 5 rfl
theorem dX10_arrive_78 : decode cX10_arrive 78 = .ok (.aload_n 0, 1) := dec_of (decode cX10_arrive) da_300 6 rfl
theorem dX10_arrive_79 : decode cX10_arrive 79 = .ok (.getfield 22, 3) := dec_of (decode cX10_arrive) da_300 7 rfl
theorem dX10_arrive_82 : decode cX10_arrive 82 = .ok (.iload_n 3, 1) := dec_of (decode cX10_arrive) da_300 8 rfl
theorem dX10_arrive_83 : decode cX10_arrive 83 = .ok (.iaload, 1) := dec_of (decode cX10_arrive) da_300 9 rfl
theorem dX10_arrive_84 : decode cX10_arrive 84 = .ok (.if_icmp .ne 22, 3) := dec_of (decode cX10_arrive) da_300 10 rfl
theorem dX10_arrive_87 : decode cX10_arrive 87 = .ok (.aload_n 0, 1) := dec_of (decode cX10_arrive) da_300 11 rfl
theorem dX10_arrive_88 : decode cX10_arrive 88 = .ok (.getfield 19, 3) := dec_of (decode cX10_arrive) da_300 12 rfl
theorem dX10_arrive_91 : decode cX10_arrive 91 = .ok (.iload 4, 2) := dec_of (decode cX10_arrive) da_300 13 rfl
theorem dX10_arrive_93 : decode cX10_arrive 93 = .ok (.iaload, 1) := dec_of (decode cX10_arrive) da_300 14 rfl
theorem dX10_arrive_94 : decode cX10_arrive 94 = .ok (.aload_n 0, 1) := dec_of (decode cX10_arrive) da_300 15 rfl
theorem dX10_arrive_95 : decode cX10_arrive 95 = .ok (.getfield 19, 3) := dec_of (decode cX10_arrive) da_300 16 rfl
theorem dX10_arrive_98 : decode cX10_arrive 98 = .ok (.iload_n 3, 1) := dec_of (decode cX10_arrive) da_300 17 rfl
theorem dX10_arrive_99 : decode cX10_arrive 99 = .ok (.iaload, 1) := dec_of (decode cX10_arrive) da_300 18 rfl
theorem dX10_arrive_100 : decode cX10_arrive 100 = .ok (.if_icmp .le 6, 3) := dec_of (decode cX10_arrive) da_300 19 rfl
theorem dX10_arrive_103 : decode cX10_arrive 103 = .ok (.iload 4, 2) := dec_of (decode cX10_arrive) da_300 20 rfl
theorem dX10_arrive_105 : decode cX10_arrive 105 = .ok (.istore_n 3, 1) := dec_of (decode cX10_arrive) da_300 21 rfl
theorem dX10_arrive_106 : decode cX10_arrive 106 = .ok (.iinc 4 1, 3) := dec_of (decode cX10_arrive) da_300 22 rfl
theorem dX10_arrive_109 : decode cX10_arrive 109 = .ok (.goto (-104), 3) := dec_of (decode cX10_arrive) da_300 23 rfl
theorem dX10_arrive_112 : decode cX10_arrive 112 = .ok (.iload_n 3, 1) := dec_of (decode cX10_arrive) da_300 24 rfl
theorem dX10_arrive_113 : decode cX10_arrive 113 = .ok (.iconst (-1), 1) := dec_of (decode cX10_arrive) da_300 25 rfl
theorem dX10_arrive_114 : decode cX10_arrive 114 = .ok (.if_icmp .ne 4, 3) := dec_of (decode cX10_arrive) da_300 26 rfl
theorem dX10_arrive_117 : decode cX10_arrive 117 = .ok (.return_, 1) := dec_of (decode cX10_arrive) da_300 27 rfl
theorem dX10_arrive_118 : decode cX10_arrive 118 = .ok (.aload_n 0, 1) := dec_of (decode cX10_arrive) da_300 28 rfl
theorem dX10_arrive_119 : decode cX10_arrive 119 = .ok (.iload_n 1, 1) := dec_of (decode cX10_arrive) da_300 29 rfl
theorem dX10_arrive_120 : decode cX10_arrive 120 = .ok (.iload_n 3, 1) := dec_of (decode cX10_arrive) da_300 30 rfl
theorem dX10_arrive_121 : decode cX10_arrive 121 = .ok (.iload_n 2, 1) := dec_of (decode cX10_arrive) da_300 31 rfl
theorem dX10_arrive_122 : decode cX10_arrive 122 = .ok (.invokevirtual 359, 3) := dec_of (decode cX10_arrive) da_300 32 rfl
theorem dX10_arrive_125 : decode cX10_arrive 125 = .ok (.goto (-125), 3) := dec_of (decode cX10_arrive) da_300 33 rfl
abbrev dl_301 : List (Nat × Except DecodeError (Instr × Nat)) := [(0, .ok (.aload_n 0, 1)), (1, .ok (.iload_n 1, 1)), (2, .ok (.aload_n 0, 1)), (3, .ok (.getfield 84, 3)), (6, .ok (.bipush 8, 2)), (8, .ok (.iload_n 1, 1)), (9, .ok (.imul, 1)), (10, .ok (.iaload, 1)), (11, .ok (.aload_n 0, 1)), (12, .ok (.getfield 81, 3)), (15, .ok (.iload_n 1, 1)), (16, .ok (.iaload, 1)), (17, .ok (.iload_n 2, 1)), (18, .ok (.invokevirtual 363, 3)), (21, .ok (.aload_n 0, 1)), (22, .ok (.iconst 2, 1)), (23, .ok (.iconst 1, 1)), (24, .ok (.bipush 9, 2)), (26, .ok (.aload_n 0, 1)), (27, .ok (.getfield 81, 3)), (30, .ok (.iload_n 1, 1)), (31, .ok (.iaload, 1)), (32, .ok (.iconst 1, 1)), (33, .ok (.iadd, 1)), (34, .ok (.iconst 2, 1)), (35, .ok (.idiv, 1)), (36, .ok (.invokevirtual 367, 3)), (39, .ok (.ireturn, 1))]
theorem da_301 : dl_301.all (fun q => decide (decode cX10_needOf q.1 = q.2)) = true := by decide +kernel
theorem dX10_needOf_0 : decode cX10_needOf 0 = .ok (.aload_n 0, 1) := dec_of (decode cX10_needOf) da_301 0 rfl
theorem dX10_needOf_1 : decode cX10_needOf 1 = .ok (.iload_n 1, 1) := dec_of (decode cX10_needOf) da_301 1 rfl
theorem dX10_needOf_2 : decode cX10_needOf 2 = .ok (.aload_n 0, 1) := dec_of (decode cX10_needOf) da_301 2 rfl
theorem dX10_needOf_3 : decode cX10_needOf 3 = .ok (.getfield 84, 3) := dec_of (decode cX10_needOf) da_301 3 rfl
theorem dX10_needOf_6 : decode cX10_needOf 6 = .ok (.bipush 8, 2) := dec_of (decode cX10_needOf) da_301 4 rfl
theorem dX10_needOf_8 : decode cX10_needOf 8 = .ok (.iload_n 1, 1) := dec_of (decode cX10_needOf) da_301 5 rfl
theorem dX10_needOf_9 : decode cX10_needOf 9 = .ok (.imul, 1) := dec_of (decode cX10_needOf) da_301 6 rfl
theorem dX10_needOf_10 : decode cX10_needOf 10 = .ok (.iaload, 1) := dec_of (decode cX10_needOf) da_301 7 rfl
theorem dX10_needOf_11 : decode cX10_needOf 11 = .ok (.aload_n 0, 1) := dec_of (decode cX10_needOf) da_301 8 rfl
theorem dX10_needOf_12 : decode cX10_needOf 12 = .ok (.getfield 81, 3) := dec_of (decode cX10_needOf) da_301 9 rfl
theorem dX10_needOf_15 : decode cX10_needOf 15 = .ok (.iload_n 1, 1) := dec_of (decode cX10_needOf) da_301 10 rfl
theorem dX10_needOf_16 : decode cX10_needOf 16 = .ok (.iaload, 1) := dec_of (decode cX10_needOf) da_301 11 rfl
theorem dX10_needOf_17 : decode cX10_needOf 17 = .ok (.iload_n 2, 1) := dec_of (decode cX10_needOf) da_301 12 rfl
theorem dX10_needOf_18 : decode cX10_needOf 18 = .ok (.invokevirtual 363, 3) := dec_of (decode cX10_needOf) da_301 13 rfl
theorem dX10_needOf_21 : decode cX10_needOf 21 = .ok (.aload_n 0, 1) := dec_of (decode cX10_needOf) da_301 14 rfl
theorem dX10_needOf_22 : decode cX10_needOf 22 = .ok (.iconst 2, 1) := dec_of (decode cX10_needOf) da_301 15 rfl
theorem dX10_needOf_23 : decode cX10_needOf 23 = .ok (.iconst 1, 1) := dec_of (decode cX10_needOf) da_301 16 rfl
theorem dX10_needOf_24 : decode cX10_needOf 24 = .ok (.bipush 9, 2) := dec_of (decode cX10_needOf) da_301 17 rfl
theorem dX10_needOf_26 : decode cX10_needOf 26 = .ok (.aload_n 0, 1) := dec_of (decode cX10_needOf) da_301 18 rfl
theorem dX10_needOf_27 : decode cX10_needOf 27 = .ok (.getfield 81, 3) := dec_of (decode cX10_needOf) da_301 19 rfl
theorem dX10_needOf_30 : decode cX10_needOf 30 = .ok (.iload_n 1, 1) := dec_of (decode cX10_needOf) da_301 20 rfl
theorem dX10_needOf_31 : decode cX10_needOf 31 = .ok (.iaload, 1) := dec_of (decode cX10_needOf) da_301 21 rfl
theorem dX10_needOf_32 : decode cX10_needOf 32 = .ok (.iconst 1, 1) := dec_of (decode cX10_needOf) da_301 22 rfl
theorem dX10_needOf_33 : decode cX10_needOf 33 = .ok (.iadd, 1) := dec_of (decode cX10_needOf) da_301 23 rfl
theorem dX10_needOf_34 : decode cX10_needOf 34 = .ok (.iconst 2, 1) := dec_of (decode cX10_needOf) da_301 24 rfl
theorem dX10_needOf_35 : decode cX10_needOf 35 = .ok (.idiv, 1) := dec_of (decode cX10_needOf) da_301 25 rfl
theorem dX10_needOf_36 : decode cX10_needOf 36 = .ok (.invokevirtual 367, 3) := dec_of (decode cX10_needOf) da_301 26 rfl
theorem dX10_needOf_39 : decode cX10_needOf 39 = .ok (.ireturn, 1) := dec_of (decode cX10_needOf) da_301 27 rfl
abbrev dl_302 : List (Nat × Except DecodeError (Instr × Nat)) := [(0, .ok (.aload_n 0, 1)), (1, .ok (.getfield 81, 3)), (4, .ok (.iload_n 1, 1)), (5, .ok (.iaload, 1)), (6, .ok (.iconst 1, 1)), (7, .ok (.if_icmp .le 37, 3)), (10, .ok (.aload_n 0, 1)), (11, .ok (.getfield 43, 3)), (14, .ok (.aload_n 0, 1)), (15, .ok (.getfield 84, 3)), (18, .ok (.bipush 8, 2)), (20, .ok (.iload_n 1, 1)), (21, .ok (.imul, 1)), (22, .ok (.iconst 1, 1)), (23, .ok (.iadd, 1)), (24, .ok (.iaload, 1)), (25, .ok (.iaload, 1)), (26, .ok (.iconst 1, 1)), (27, .ok (.isub, 1)), (28, .ok (.aload_n 0, 1)), (29, .ok (.getfield 84, 3)), (32, .ok (.bipush 8, 2)), (34, .ok (.iload_n 1, 1)), (35, .ok (.imul, 1)), (36, .ok (.iaload, 1)), (37, .ok (.if_icmp .ne 7, 3)), (40, .ok (.iconst 1, 1)), (41, .ok (.goto 4, 3)), (44, .ok (.iconst 0, 1)), (45, .ok (.ireturn, 1))]
theorem da_302 : dl_302.all (fun q => decide (decode cX10_isGuarded q.1 = q.2)) = true := by decide +kernel
theorem dX10_isGuarded_0 : decode cX10_isGuarded 0 = .ok (.aload_n 0, 1) := dec_of (decode cX10_isGuarded) da_302 0 rfl
theorem dX10_isGuarded_1 : decode cX10_isGuarded 1 = .ok (.getfield 81, 3) := dec_of (decode cX10_isGuarded) da_302 1 rfl
theorem dX10_isGuarded_4 : decode cX10_isGuarded 4 = .ok (.iload_n 1, 1) := dec_of (decode cX10_isGuarded) da_302 2 rfl
theorem dX10_isGuarded_5 : decode cX10_isGuarded 5 = .ok (.iaload, 1) := dec_of (decode cX10_isGuarded) da_302 3 rfl
theorem dX10_isGuarded_6 : decode cX10_isGuarded 6 = .ok (.iconst 1, 1) := dec_of (decode cX10_isGuarded) da_302 4 rfl
theorem dX10_isGuarded_7 : decode cX10_isGuarded 7 = .ok (.if_icmp .le 37, 3) := dec_of (decode cX10_isGuarded) da_302 5 rfl
theorem dX10_isGuarded_10 : decode cX10_isGuarded 10 = .ok (.aload_n 0, 1) := dec_of (decode cX10_isGuarded) da_302 6 rfl
theorem dX10_isGuarded_11 : decode cX10_isGuarded 11 = .ok (.getfield 43, 3) := dec_of (decode cX10_isGuarded) da_302 7 rfl
theorem dX10_isGuarded_14 : decode cX10_isGuarded 14 = .ok (.aload_n 0, 1) := dec_of (decode cX10_isGuarded) da_302 8 rfl
theorem dX10_isGuarded_15 : decode cX10_isGuarded 15 = .ok (.getfield 84, 3) := dec_of (decode cX10_isGuarded) da_302 9 rfl
theorem dX10_isGuarded_18 : decode cX10_isGuarded 18 = .ok (.bipush 8, 2) := dec_of (decode cX10_isGuarded) da_302 10 rfl
theorem dX10_isGuarded_20 : decode cX10_isGuarded 20 = .ok (.iload_n 1, 1) := dec_of (decode cX10_isGuarded) da_302 11 rfl
theorem dX10_isGuarded_21 : decode cX10_isGuarded 21 = .ok (.imul, 1) := dec_of (decode cX10_isGuarded) da_302 12 rfl
theorem dX10_isGuarded_22 : decode cX10_isGuarded 22 = .ok (.iconst 1, 1) := dec_of (decode cX10_isGuarded) da_302 13 rfl
theorem dX10_isGuarded_23 : decode cX10_isGuarded 23 = .ok (.iadd, 1) := dec_of (decode cX10_isGuarded) da_302 14 rfl
theorem dX10_isGuarded_24 : decode cX10_isGuarded 24 = .ok (.iaload, 1) := dec_of (decode cX10_isGuarded) da_302 15 rfl
theorem dX10_isGuarded_25 : decode cX10_isGuarded 25 = .ok (.iaload, 1) := dec_of (decode cX10_isGuarded) da_302 16 rfl
theorem dX10_isGuarded_26 : decode cX10_isGuarded 26 = .ok (.iconst 1, 1) := dec_of (decode cX10_isGuarded) da_302 17 rfl
theorem dX10_isGuarded_27 : decode cX10_isGuarded 27 = .ok (.isub, 1) := dec_of (decode cX10_isGuarded) da_302 18 rfl
theorem dX10_isGuarded_28 : decode cX10_isGuarded 28 = .ok (.aload_n 0, 1) := dec_of (decode cX10_isGuarded) da_302 19 rfl
theorem dX10_isGuarded_29 : decode cX10_isGuarded 29 = .ok (.getfield 84, 3) := dec_of (decode cX10_isGuarded) da_302 20 rfl
theorem dX10_isGuarded_32 : decode cX10_isGuarded 32 = .ok (.bipush 8, 2) := dec_of (decode cX10_isGuarded) da_302 21 rfl
theorem dX10_isGuarded_34 : decode cX10_isGuarded 34 = .ok (.iload_n 1, 1) := dec_of (decode cX10_isGuarded) da_302 22 rfl
theorem dX10_isGuarded_35 : decode cX10_isGuarded 35 = .ok (.imul, 1) := dec_of (decode cX10_isGuarded) da_302 23 rfl
theorem dX10_isGuarded_36 : decode cX10_isGuarded 36 = .ok (.iaload, 1) := dec_of (decode cX10_isGuarded) da_302 24 rfl
theorem dX10_isGuarded_37 : decode cX10_isGuarded 37 = .ok (.if_icmp .ne 7, 3) := dec_of (decode cX10_isGuarded) da_302 25 rfl
theorem dX10_isGuarded_40 : decode cX10_isGuarded 40 = .ok (.iconst 1, 1) := dec_of (decode cX10_isGuarded) da_302 26 rfl
theorem dX10_isGuarded_41 : decode cX10_isGuarded 41 = .ok (.goto 4, 3) := dec_of (decode cX10_isGuarded) da_302 27 rfl
theorem dX10_isGuarded_44 : decode cX10_isGuarded 44 = .ok (.iconst 0, 1) := dec_of (decode cX10_isGuarded) da_302 28 rfl
theorem dX10_isGuarded_45 : decode cX10_isGuarded 45 = .ok (.ireturn, 1) := dec_of (decode cX10_isGuarded) da_302 29 rfl
abbrev dl_303 : List (Nat × Except DecodeError (Instr × Nat)) := [(0, .ok (.iconst 0, 1)), (1, .ok (.istore_n 3, 1)), (2, .ok (.iconst 1, 1)), (3, .ok (.istore 4, 2)), (5, .ok (.iload 4, 2)), (7, .ok (.aload_n 0, 1)), (8, .ok (.getfield 81, 3)), (11, .ok (.iload_n 1, 1)), (12, .ok (.iaload, 1)), (13, .ok (.if_icmp .ge 44, 3)), (16, .ok (.iload 4, 2)), (18, .ok (.aload_n 0, 1)), (19, .ok (.getfield 13, 3)), (22, .ok (.iconst 4, 1)), (23, .ok (.iaload, 1)), (24, .ok (.if_icmp .gt 33, 3)), (27, .ok (.iload_n 3, 1)), (28, .ok (.aload_n 0, 1)), (29, .ok (.getfield 78, 3)), (32, .ok (.iload_n 1, 1)), (33, .ok (.iaload, 1)), (34, .ok (.aload_n 0, 1)), (35, .ok (.getfield 84, 3)), (38, .ok (.bipush 8, 2)), (40, .ok (.iload_n 1, 1)), (41, .ok (.imul, 1)), (42, .ok (.iload 4, 2)), (44, .ok (.iadd, 1)), (45, .ok (.iaload, 1)), (46, .ok (.ishr, 1)), (47, .ok (.iconst 1, 1)), (48, .ok (.iand, 1)), (49, .ok (.iadd, 1)), (50, .ok (.istore_n 3, 1)), (51, .ok (.iinc 4 1, 3)), (54, .ok (.goto (-49), 3)), (57, .ok (.aload_n 0, 1)), (58, .ok (.getfield 81, 3)), (61, .ok (.iload_n 1, 1)), (62, .ok (.iaload, 1))]
theorem da_303 : dl_303.all (fun q => decide (decode cX10_coughing q.1 = q.2)) = true := by decide +kernel
theorem dX10_coughing_0 : decode cX10_coughing 0 = .ok (.iconst 0, 1) := dec_of (decode cX10_coughing) da_303 0 rfl
theorem dX10_coughing_1 : decode cX10_coughing 1 = .ok (.istore_n 3, 1) := dec_of (decode cX10_coughing) da_303 1 rfl
theorem dX10_coughing_2 : decode cX10_coughing 2 = .ok (.iconst 1, 1) := dec_of (decode cX10_coughing) da_303 2 rfl
theorem dX10_coughing_3 : decode cX10_coughing 3 = .ok (.istore 4, 2) := dec_of (decode cX10_coughing) da_303 3 rfl
theorem dX10_coughing_5 : decode cX10_coughing 5 = .ok (.iload 4, 2) := dec_of (decode cX10_coughing) da_303 4 rfl
theorem dX10_coughing_7 : decode cX10_coughing 7 = .ok (.aload_n 0, 1) := dec_of (decode cX10_coughing) da_303 5 rfl
theorem dX10_coughing_8 : decode cX10_coughing 8 = .ok (.getfield 81, 3) := dec_of (decode cX10_coughing) da_303 6 rfl
theorem dX10_coughing_11 : decode cX10_coughing 11 = .ok (.iload_n 1, 1) := dec_of (decode cX10_coughing) da_303 7 rfl
theorem dX10_coughing_12 : decode cX10_coughing 12 = .ok (.iaload, 1) := dec_of (decode cX10_coughing) da_303 8 rfl
theorem dX10_coughing_13 : decode cX10_coughing 13 = .ok (.if_icmp .ge 44, 3) := dec_of (decode cX10_coughing) da_303 9 rfl
theorem dX10_coughing_16 : decode cX10_coughing 16 = .ok (.iload 4, 2) := dec_of (decode cX10_coughing) da_303 10 rfl
theorem dX10_coughing_18 : decode cX10_coughing 18 = .ok (.aload_n 0, 1) := dec_of (decode cX10_coughing) da_303 11 rfl
theorem dX10_coughing_19 : decode cX10_coughing 19 = .ok (.getfield 13, 3) := dec_of (decode cX10_coughing) da_303 12 rfl
theorem dX10_coughing_22 : decode cX10_coughing 22 = .ok (.iconst 4, 1) := dec_of (decode cX10_coughing) da_303 13 rfl
theorem dX10_coughing_23 : decode cX10_coughing 23 = .ok (.iaload, 1) := dec_of (decode cX10_coughing) da_303 14 rfl
theorem dX10_coughing_24 : decode cX10_coughing 24 = .ok (.if_icmp .gt 33, 3) := dec_of (decode cX10_coughing) da_303 15 rfl
theorem dX10_coughing_27 : decode cX10_coughing 27 = .ok (.iload_n 3, 1) := dec_of (decode cX10_coughing) da_303 16 rfl
theorem dX10_coughing_28 : decode cX10_coughing 28 = .ok (.aload_n 0, 1) := dec_of (decode cX10_coughing) da_303 17 rfl
theorem dX10_coughing_29 : decode cX10_coughing 29 = .ok (.getfield 78, 3) := dec_of (decode cX10_coughing) da_303 18 rfl
theorem dX10_coughing_32 : decode cX10_coughing 32 = .ok (.iload_n 1, 1) := dec_of (decode cX10_coughing) da_303 19 rfl
theorem dX10_coughing_33 : decode cX10_coughing 33 = .ok (.iaload, 1) := dec_of (decode cX10_coughing) da_303 20 rfl
theorem dX10_coughing_34 : decode cX10_coughing 34 = .ok (.aload_n 0, 1) := dec_of (decode cX10_coughing) da_303 21 rfl
theorem dX10_coughing_35 : decode cX10_coughing 35 = .ok (.getfield 84, 3) := dec_of (decode cX10_coughing) da_303 22 rfl
theorem dX10_coughing_38 : decode cX10_coughing 38 = .ok (.bipush 8, 2) := dec_of (decode cX10_coughing) da_303 23 rfl
theorem dX10_coughing_40 : decode cX10_coughing 40 = .ok (.iload_n 1, 1) := dec_of (decode cX10_coughing) da_303 24 rfl
theorem dX10_coughing_41 : decode cX10_coughing 41 = .ok (.imul, 1) := dec_of (decode cX10_coughing) da_303 25 rfl
theorem dX10_coughing_42 : decode cX10_coughing 42 = .ok (.iload 4, 2) := dec_of (decode cX10_coughing) da_303 26 rfl
theorem dX10_coughing_44 : decode cX10_coughing 44 = .ok (.iadd, 1) := dec_of (decode cX10_coughing) da_303 27 rfl
theorem dX10_coughing_45 : decode cX10_coughing 45 = .ok (.iaload, 1) := dec_of (decode cX10_coughing) da_303 28 rfl
theorem dX10_coughing_46 : decode cX10_coughing 46 = .ok (.ishr, 1) := dec_of (decode cX10_coughing) da_303 29 rfl
theorem dX10_coughing_47 : decode cX10_coughing 47 = .ok (.iconst 1, 1) := dec_of (decode cX10_coughing) da_303 30 rfl
theorem dX10_coughing_48 : decode cX10_coughing 48 = .ok (.iand, 1) := dec_of (decode cX10_coughing) da_303 31 rfl
theorem dX10_coughing_49 : decode cX10_coughing 49 = .ok (.iadd, 1) := dec_of (decode cX10_coughing) da_303 32 rfl
theorem dX10_coughing_50 : decode cX10_coughing 50 = .ok (.istore_n 3, 1) := dec_of (decode cX10_coughing) da_303 33 rfl
theorem dX10_coughing_51 : decode cX10_coughing 51 = .ok (.iinc 4 1, 3) := dec_of (decode cX10_coughing) da_303 34 rfl
theorem dX10_coughing_54 : decode cX10_coughing 54 = .ok (.goto (-49), 3) := dec_of (decode cX10_coughing) da_303 35 rfl
theorem dX10_coughing_57 : decode cX10_coughing 57 = .ok (.aload_n 0, 1) := dec_of (decode cX10_coughing) da_303 36 rfl
theorem dX10_coughing_58 : decode cX10_coughing 58 = .ok (.getfield 81, 3) := dec_of (decode cX10_coughing) da_303 37 rfl
theorem dX10_coughing_61 : decode cX10_coughing 61 = .ok (.iload_n 1, 1) := dec_of (decode cX10_coughing) da_303 38 rfl
theorem dX10_coughing_62 : decode cX10_coughing 62 = .ok (.iaload, 1) := dec_of (decode cX10_coughing) da_303 39 rfl
abbrev dl_304 : List (Nat × Except DecodeError (Instr × Nat)) := [(63, .ok (.ifCond .le 33, 3)), (66, .ok (.iload_n 3, 1)), (67, .ok (.ifCond .le 29, 3)), (70, .ok (.iload_n 3, 1)), (71, .ok (.aload_n 0, 1)), (72, .ok (.iload_n 1, 1)), (73, .ok (.iload_n 2, 1)), (74, .ok (.invokevirtual 371, 3)), (77, .ok (.if_icmp .lt 19, 3)), (80, .ok (.aload_n 0, 1)), (81, .ok (.iload_n 1, 1)), (82, .ok (.invokevirtual 374, 3)), (85, .ok (.ifCond .ne 11, 3)), (88, .ok (.aload_n 0, 1)), (89, .ok (.iload_n 1, 1)), (90, .ok (.iconst 0, 1)), (91, .ok (.iconst 3, 1)), (92, .ok (.iload_n 2, 1)), (93, .ok (.invokevirtual 377, 3)), (96, .ok (.aload_n 0, 1)), (97, .ok (.getfield 78, 3)), (100, .ok (.iload_n 1, 1)), (101, .ok (.iconst 0, 1)), (102, .ok (.iastore, 1)), (103, .ok (.return_, 1))]
theorem da_304 : dl_304.all (fun q => decide (decode cX10_coughing q.1 = q.2)) = true := by decide +kernel
theorem dX10_coughing_63 : decode cX10_coughing 63 = .ok (.ifCond .le 33, 3) := dec_of (decode cX10_coughing) da_304 0 rfl
theorem dX10_coughing_66 : decode cX10_coughing 66 = .ok (.iload_n 3, 1) := dec_of (decode cX10_coughing) da_304 1 rfl
theorem dX10_coughing_67 : decode cX10_coughing 67 = .ok (.ifCond .le 29, 3) := dec_of (decode cX10_coughing) da_304 2 rfl
theorem dX10_coughing_70 : decode cX10_coughing 70 = .ok (.iload_n 3, 1) := dec_of (decode cX10_coughing) da_304 3 rfl
theorem dX10_coughing_71 : decode cX10_coughing 71 = .ok (.aload_n 0, 1) := dec_of (decode cX10_coughing) da_304 4 rfl
theorem dX10_coughing_72 : decode cX10_coughing 72 = .ok (.iload_n 1, 1) := dec_of (decode cX10_coughing) da_304 5 rfl
theorem dX10_coughing_73 : decode cX10_coughing 73 = .ok (.iload_n 2, 1) := dec_of (decode cX10_coughing) da_304 6 rfl
theorem dX10_coughing_74 : decode cX10_coughing 74 = .ok (.invokevirtual 371, 3) := dec_of (decode cX10_coughing) da_304 7 rfl
theorem dX10_coughing_77 : decode cX10_coughing 77 = .ok (.if_icmp .lt 19, 3) := dec_of (decode cX10_coughing) da_304 8 rfl
theorem dX10_coughing_80 : decode cX10_coughing 80 = .ok (.aload_n 0, 1) := dec_of (decode cX10_coughing) da_304 9 rfl
theorem dX10_coughing_81 : decode cX10_coughing 81 = .ok (.iload_n 1, 1) := dec_of (decode cX10_coughing) da_304 10 rfl
theorem dX10_coughing_82 : decode cX10_coughing 82 = .ok (.invokevirtual 374, 3) := dec_of (decode cX10_coughing) da_304 11 rfl
theorem dX10_coughing_85 : decode cX10_coughing 85 = .ok (.ifCond .ne 11, 3) := dec_of (decode cX10_coughing) da_304 12 rfl
theorem dX10_coughing_88 : decode cX10_coughing 88 = .ok (.aload_n 0, 1) := dec_of (decode cX10_coughing) da_304 13 rfl
theorem dX10_coughing_89 : decode cX10_coughing 89 = .ok (.iload_n 1, 1) := dec_of (decode cX10_coughing) da_304 14 rfl
theorem dX10_coughing_90 : decode cX10_coughing 90 = .ok (.iconst 0, 1) := dec_of (decode cX10_coughing) da_304 15 rfl
theorem dX10_coughing_91 : decode cX10_coughing 91 = .ok (.iconst 3, 1) := dec_of (decode cX10_coughing) da_304 16 rfl
theorem dX10_coughing_92 : decode cX10_coughing 92 = .ok (.iload_n 2, 1) := dec_of (decode cX10_coughing) da_304 17 rfl
theorem dX10_coughing_93 : decode cX10_coughing 93 = .ok (.invokevirtual 377, 3) := dec_of (decode cX10_coughing) da_304 18 rfl
theorem dX10_coughing_96 : decode cX10_coughing 96 = .ok (.aload_n 0, 1) := dec_of (decode cX10_coughing) da_304 19 rfl
theorem dX10_coughing_97 : decode cX10_coughing 97 = .ok (.getfield 78, 3) := dec_of (decode cX10_coughing) da_304 20 rfl
theorem dX10_coughing_100 : decode cX10_coughing 100 = .ok (.iload_n 1, 1) := dec_of (decode cX10_coughing) da_304 21 rfl
theorem dX10_coughing_101 : decode cX10_coughing 101 = .ok (.iconst 0, 1) := dec_of (decode cX10_coughing) da_304 22 rfl
theorem dX10_coughing_102 : decode cX10_coughing 102 = .ok (.iastore, 1) := dec_of (decode cX10_coughing) da_304 23 rfl
theorem dX10_coughing_103 : decode cX10_coughing 103 = .ok (.return_, 1) := dec_of (decode cX10_coughing) da_304 24 rfl
abbrev dl_305 : List (Nat × Except DecodeError (Instr × Nat)) := [(0, .ok (.aload_n 0, 1)), (1, .ok (.getfield 81, 3)), (4, .ok (.iload_n 1, 1)), (5, .ok (.iaload, 1)), (6, .ok (.ifCond .ne 4, 3)), (9, .ok (.return_, 1)), (10, .ok (.aload_n 0, 1)), (11, .ok (.getfield 84, 3)), (14, .ok (.bipush 8, 2)), (16, .ok (.iload_n 1, 1)), (17, .ok (.imul, 1)), (18, .ok (.iaload, 1)), (19, .ok (.istore_n 2, 1)), (20, .ok (.aload_n 0, 1)), (21, .ok (.getfield 13, 3)), (24, .ok (.iconst 2, 1)), (25, .ok (.iaload, 1)), (26, .ok (.aload_n 0, 1)), (27, .ok (.getfield 120, 3)), (30, .ok (.iconst 3, 1)), (31, .ok (.if_icmp .ne 7, 3)), (34, .ok (.iconst 1, 1)), (35, .ok (.goto 4, 3)), (38, .ok (.iconst 0, 1)), (39, .ok (.iadd, 1)), (40, .ok (.aload_n 0, 1)), (41, .ok (.getfield 28, 3)), (44, .ok (.iload_n 2, 1)), (45, .ok (.iaload, 1)), (46, .ok (.aload_n 0, 1)), (47, .ok (.getfield 93, 3)), (50, .ok (.bipush 8, 2)), (52, .ok (.iload_n 1, 1)), (53, .ok (.imul, 1)), (54, .ok (.iload_n 2, 1)), (55, .ok (.iadd, 1)), (56, .ok (.iaload, 1)), (57, .ok (.isub, 1)), (58, .ok (.invokestatic 380, 3)), (61, .ok (.istore_n 3, 1))]
theorem da_305 : dl_305.all (fun q => decide (decode cX10_pour q.1 = q.2)) = true := by decide +kernel
theorem dX10_pour_0 : decode cX10_pour 0 = .ok (.aload_n 0, 1) := dec_of (decode cX10_pour) da_305 0 rfl
theorem dX10_pour_1 : decode cX10_pour 1 = .ok (.getfield 81, 3) := dec_of (decode cX10_pour) da_305 1 rfl
theorem dX10_pour_4 : decode cX10_pour 4 = .ok (.iload_n 1, 1) := dec_of (decode cX10_pour) da_305 2 rfl
theorem dX10_pour_5 : decode cX10_pour 5 = .ok (.iaload, 1) := dec_of (decode cX10_pour) da_305 3 rfl
theorem dX10_pour_6 : decode cX10_pour 6 = .ok (.ifCond .ne 4, 3) := dec_of (decode cX10_pour) da_305 4 rfl
theorem dX10_pour_9 : decode cX10_pour 9 = .ok (.return_, 1) := dec_of (decode cX10_pour) da_305 5 rfl
theorem dX10_pour_10 : decode cX10_pour 10 = .ok (.aload_n 0, 1) := dec_of (decode cX10_pour) da_305 6 rfl
theorem dX10_pour_11 : decode cX10_pour 11 = .ok (.getfield 84, 3) := dec_of (decode cX10_pour) da_305 7 rfl
theorem dX10_pour_14 : decode cX10_pour 14 = .ok (.bipush 8, 2) := dec_of (decode cX10_pour) da_305 8 rfl
theorem dX10_pour_16 : decode cX10_pour 16 = .ok (.iload_n 1, 1) := dec_of (decode cX10_pour) da_305 9 rfl
theorem dX10_pour_17 : decode cX10_pour 17 = .ok (.imul, 1) := dec_of (decode cX10_pour) da_305 10 rfl
theorem dX10_pour_18 : decode cX10_pour 18 = .ok (.iaload, 1) := dec_of (decode cX10_pour) da_305 11 rfl
theorem dX10_pour_19 : decode cX10_pour 19 = .ok (.istore_n 2, 1) := dec_of (decode cX10_pour) da_305 12 rfl
theorem dX10_pour_20 : decode cX10_pour 20 = .ok (.aload_n 0, 1) := dec_of (decode cX10_pour) da_305 13 rfl
theorem dX10_pour_21 : decode cX10_pour 21 = .ok (.getfield 13, 3) := dec_of (decode cX10_pour) da_305 14 rfl
theorem dX10_pour_24 : decode cX10_pour 24 = .ok (.iconst 2, 1) := dec_of (decode cX10_pour) da_305 15 rfl
theorem dX10_pour_25 : decode cX10_pour 25 = .ok (.iaload, 1) := dec_of (decode cX10_pour) da_305 16 rfl
theorem dX10_pour_26 : decode cX10_pour 26 = .ok (.aload_n 0, 1) := dec_of (decode cX10_pour) da_305 17 rfl
theorem dX10_pour_27 : decode cX10_pour 27 = .ok (.getfield 120, 3) := dec_of (decode cX10_pour) da_305 18 rfl
theorem dX10_pour_30 : decode cX10_pour 30 = .ok (.iconst 3, 1) := dec_of (decode cX10_pour) da_305 19 rfl
theorem dX10_pour_31 : decode cX10_pour 31 = .ok (.if_icmp .ne 7, 3) := dec_of (decode cX10_pour) da_305 20 rfl
theorem dX10_pour_34 : decode cX10_pour 34 = .ok (.iconst 1, 1) := dec_of (decode cX10_pour) da_305 21 rfl
theorem dX10_pour_35 : decode cX10_pour 35 = .ok (.goto 4, 3) := dec_of (decode cX10_pour) da_305 22 rfl
theorem dX10_pour_38 : decode cX10_pour 38 = .ok (.iconst 0, 1) := dec_of (decode cX10_pour) da_305 23 rfl
theorem dX10_pour_39 : decode cX10_pour 39 = .ok (.iadd, 1) := dec_of (decode cX10_pour) da_305 24 rfl
theorem dX10_pour_40 : decode cX10_pour 40 = .ok (.aload_n 0, 1) := dec_of (decode cX10_pour) da_305 25 rfl
theorem dX10_pour_41 : decode cX10_pour 41 = .ok (.getfield 28, 3) := dec_of (decode cX10_pour) da_305 26 rfl
theorem dX10_pour_44 : decode cX10_pour 44 = .ok (.iload_n 2, 1) := dec_of (decode cX10_pour) da_305 27 rfl
theorem dX10_pour_45 : decode cX10_pour 45 = .ok (.iaload, 1) := dec_of (decode cX10_pour) da_305 28 rfl
theorem dX10_pour_46 : decode cX10_pour 46 = .ok (.aload_n 0, 1) := dec_of (decode cX10_pour) da_305 29 rfl
theorem dX10_pour_47 : decode cX10_pour 47 = .ok (.getfield 93, 3) := dec_of (decode cX10_pour) da_305 30 rfl
theorem dX10_pour_50 : decode cX10_pour 50 = .ok (.bipush 8, 2) := dec_of (decode cX10_pour) da_305 31 rfl
theorem dX10_pour_52 : decode cX10_pour 52 = .ok (.iload_n 1, 1) := dec_of (decode cX10_pour) da_305 32 rfl
theorem dX10_pour_53 : decode cX10_pour 53 = .ok (.imul, 1) := dec_of (decode cX10_pour) da_305 33 rfl
theorem dX10_pour_54 : decode cX10_pour 54 = .ok (.iload_n 2, 1) := dec_of (decode cX10_pour) da_305 34 rfl
theorem dX10_pour_55 : decode cX10_pour 55 = .ok (.iadd, 1) := dec_of (decode cX10_pour) da_305 35 rfl
theorem dX10_pour_56 : decode cX10_pour 56 = .ok (.iaload, 1) := dec_of (decode cX10_pour) da_305 36 rfl
theorem dX10_pour_57 : decode cX10_pour 57 = .ok (.isub, 1) := dec_of (decode cX10_pour) da_305 37 rfl
theorem dX10_pour_58 : decode cX10_pour 58 = .ok (.invokestatic 380, 3) := dec_of (decode cX10_pour) da_305 38 rfl
theorem dX10_pour_61 : decode cX10_pour 61 = .ok (.istore_n 3, 1) := dec_of (decode cX10_pour) da_305 39 rfl
abbrev dl_306 : List (Nat × Except DecodeError (Instr × Nat)) := [(62, .ok (.aload_n 0, 1)), (63, .ok (.getfield 120, 3)), (66, .ok (.iconst 4, 1)), (67, .ok (.if_icmp .eq 24, 3)), (70, .ok (.iload_n 3, 1)), (71, .ok (.aload_n 0, 1)), (72, .ok (.getfield 72, 3)), (75, .ok (.iload_n 1, 1)), (76, .ok (.iaload, 1)), (77, .ok (.invokestatic 380, 3)), (80, .ok (.istore_n 3, 1)), (81, .ok (.aload_n 0, 1)), (82, .ok (.getfield 72, 3)), (85, .ok (.iload_n 1, 1)), (86, .ok (.dup2, 1)), (87, .ok (.iaload, 1)), (88, .ok (.iload_n 3, 1)), (89, .ok (.isub, 1)), (90, .ok (.iastore, 1)), (91, .ok (.aload_n 0, 1)), (92, .ok (.getfield 93, 3)), (95, .ok (.bipush 8, 2)), (97, .ok (.iload_n 1, 1)), (98, .ok (.imul, 1)), (99, .ok (.iload_n 2, 1)), (100, .ok (.iadd, 1)), (101, .ok (.dup2, 1)), (102, .ok (.iaload, 1)), (103, .ok (.iload_n 3, 1)), (104, .ok (.iadd, 1)), (105, .ok (.iastore, 1)), (106, .ok (.return_, 1))]
theorem da_306 : dl_306.all (fun q => decide (decode cX10_pour q.1 = q.2)) = true := by decide +kernel
theorem dX10_pour_62 : decode cX10_pour 62 = .ok (.aload_n 0, 1) := dec_of (decode cX10_pour) da_306 0 rfl
theorem dX10_pour_63 : decode cX10_pour 63 = .ok (.getfield 120, 3) := dec_of (decode cX10_pour) da_306 1 rfl
theorem dX10_pour_66 : decode cX10_pour 66 = .ok (.iconst 4, 1) := dec_of (decode cX10_pour) da_306 2 rfl
theorem dX10_pour_67 : decode cX10_pour 67 = .ok (.if_icmp .eq 24, 3) := dec_of (decode cX10_pour) da_306 3 rfl
theorem dX10_pour_70 : decode cX10_pour 70 = .ok (.iload_n 3, 1) := dec_of (decode cX10_pour) da_306 4 rfl
theorem dX10_pour_71 : decode cX10_pour 71 = .ok (.aload_n 0, 1) := dec_of (decode cX10_pour) da_306 5 rfl
theorem dX10_pour_72 : decode cX10_pour 72 = .ok (.getfield 72, 3) := dec_of (decode cX10_pour) da_306 6 rfl
theorem dX10_pour_75 : decode cX10_pour 75 = .ok (.iload_n 1, 1) := dec_of (decode cX10_pour) da_306 7 rfl
theorem dX10_pour_76 : decode cX10_pour 76 = .ok (.iaload, 1) := dec_of (decode cX10_pour) da_306 8 rfl
theorem dX10_pour_77 : decode cX10_pour 77 = .ok (.invokestatic 380, 3) := dec_of (decode cX10_pour) da_306 9 rfl
theorem dX10_pour_80 : decode cX10_pour 80 = .ok (.istore_n 3, 1) := dec_of (decode cX10_pour) da_306 10 rfl
theorem dX10_pour_81 : decode cX10_pour 81 = .ok (.aload_n 0, 1) := dec_of (decode cX10_pour) da_306 11 rfl
theorem dX10_pour_82 : decode cX10_pour 82 = .ok (.getfield 72, 3) := dec_of (decode cX10_pour) da_306 12 rfl
theorem dX10_pour_85 : decode cX10_pour 85 = .ok (.iload_n 1, 1) := dec_of (decode cX10_pour) da_306 13 rfl
theorem dX10_pour_86 : decode cX10_pour 86 = .ok (.dup2, 1) := dec_of (decode cX10_pour) da_306 14 rfl
theorem dX10_pour_87 : decode cX10_pour 87 = .ok (.iaload, 1) := dec_of (decode cX10_pour) da_306 15 rfl
theorem dX10_pour_88 : decode cX10_pour 88 = .ok (.iload_n 3, 1) := dec_of (decode cX10_pour) da_306 16 rfl
theorem dX10_pour_89 : decode cX10_pour 89 = .ok (.isub, 1) := dec_of (decode cX10_pour) da_306 17 rfl
theorem dX10_pour_90 : decode cX10_pour 90 = .ok (.iastore, 1) := dec_of (decode cX10_pour) da_306 18 rfl
theorem dX10_pour_91 : decode cX10_pour 91 = .ok (.aload_n 0, 1) := dec_of (decode cX10_pour) da_306 19 rfl
theorem dX10_pour_92 : decode cX10_pour 92 = .ok (.getfield 93, 3) := dec_of (decode cX10_pour) da_306 20 rfl
theorem dX10_pour_95 : decode cX10_pour 95 = .ok (.bipush 8, 2) := dec_of (decode cX10_pour) da_306 21 rfl
theorem dX10_pour_97 : decode cX10_pour 97 = .ok (.iload_n 1, 1) := dec_of (decode cX10_pour) da_306 22 rfl
theorem dX10_pour_98 : decode cX10_pour 98 = .ok (.imul, 1) := dec_of (decode cX10_pour) da_306 23 rfl
theorem dX10_pour_99 : decode cX10_pour 99 = .ok (.iload_n 2, 1) := dec_of (decode cX10_pour) da_306 24 rfl
theorem dX10_pour_100 : decode cX10_pour 100 = .ok (.iadd, 1) := dec_of (decode cX10_pour) da_306 25 rfl
theorem dX10_pour_101 : decode cX10_pour 101 = .ok (.dup2, 1) := dec_of (decode cX10_pour) da_306 26 rfl
theorem dX10_pour_102 : decode cX10_pour 102 = .ok (.iaload, 1) := dec_of (decode cX10_pour) da_306 27 rfl
theorem dX10_pour_103 : decode cX10_pour 103 = .ok (.iload_n 3, 1) := dec_of (decode cX10_pour) da_306 28 rfl
theorem dX10_pour_104 : decode cX10_pour 104 = .ok (.iadd, 1) := dec_of (decode cX10_pour) da_306 29 rfl
theorem dX10_pour_105 : decode cX10_pour 105 = .ok (.iastore, 1) := dec_of (decode cX10_pour) da_306 30 rfl
theorem dX10_pour_106 : decode cX10_pour 106 = .ok (.return_, 1) := dec_of (decode cX10_pour) da_306 31 rfl
abbrev dl_307 : List (Nat × Except DecodeError (Instr × Nat)) := [(0, .ok (.aload_n 0, 1)), (1, .ok (.getfield 114, 3)), (4, .ok (.iconst 3, 1)), (5, .ok (.iload_n 1, 1)), (6, .ok (.imul, 1)), (7, .ok (.iconst 2, 1)), (8, .ok (.iadd, 1)), (9, .ok (.iaload, 1)), (10, .ok (.istore_n 3, 1)), (11, .ok (.iload_n 2, 1)), (12, .ok (.aload_n 0, 1)), (13, .ok (.getfield 13, 3)), (16, .ok (.iconst 3, 1)), (17, .ok (.iaload, 1)), (18, .ok (.irem, 1)), (19, .ok (.ifCond .ne 20, 3)), (22, .ok (.iload_n 3, 1)), (23, .ok (.aload_n 0, 1)), (24, .ok (.getfield 81, 3)), (27, .ok (.iload_n 1, 1)), (28, .ok (.iaload, 1)), (29, .ok (.if_icmp .ge 10, 3)), (32, .ok (.aload_n 0, 1)), (33, .ok (.getfield 120, 3)), (36, .ok (.ifCond .ne 4, 3)), (39, .ok (.return_, 1)), (40, .ok (.bipush 8, 2)), (42, .ok (.iload_n 1, 1)), (43, .ok (.imul, 1)), (44, .ok (.aload_n 0, 1)), (45, .ok (.getfield 84, 3)), (48, .ok (.bipush 8, 2)), (50, .ok (.iload_n 1, 1)), (51, .ok (.imul, 1)), (52, .ok (.iload_n 3, 1)), (53, .ok (.iadd, 1)), (54, .ok (.iaload, 1)), (55, .ok (.iadd, 1)), (56, .ok (.istore 4, 2)), (58, .ok (.iconst 0, 1))]
theorem da_307 : dl_307.all (fun q => decide (decode cX10_levy q.1 = q.2)) = true := by decide +kernel
theorem dX10_levy_0 : decode cX10_levy 0 = .ok (.aload_n 0, 1) := dec_of (decode cX10_levy) da_307 0 rfl
theorem dX10_levy_1 : decode cX10_levy 1 = .ok (.getfield 114, 3) := dec_of (decode cX10_levy) da_307 1 rfl
theorem dX10_levy_4 : decode cX10_levy 4 = .ok (.iconst 3, 1) := dec_of (decode cX10_levy) da_307 2 rfl
theorem dX10_levy_5 : decode cX10_levy 5 = .ok (.iload_n 1, 1) := dec_of (decode cX10_levy) da_307 3 rfl
theorem dX10_levy_6 : decode cX10_levy 6 = .ok (.imul, 1) := dec_of (decode cX10_levy) da_307 4 rfl
theorem dX10_levy_7 : decode cX10_levy 7 = .ok (.iconst 2, 1) := dec_of (decode cX10_levy) da_307 5 rfl
theorem dX10_levy_8 : decode cX10_levy 8 = .ok (.iadd, 1) := dec_of (decode cX10_levy) da_307 6 rfl
theorem dX10_levy_9 : decode cX10_levy 9 = .ok (.iaload, 1) := dec_of (decode cX10_levy) da_307 7 rfl
theorem dX10_levy_10 : decode cX10_levy 10 = .ok (.istore_n 3, 1) := dec_of (decode cX10_levy) da_307 8 rfl
theorem dX10_levy_11 : decode cX10_levy 11 = .ok (.iload_n 2, 1) := dec_of (decode cX10_levy) da_307 9 rfl
theorem dX10_levy_12 : decode cX10_levy 12 = .ok (.aload_n 0, 1) := dec_of (decode cX10_levy) da_307 10 rfl
theorem dX10_levy_13 : decode cX10_levy 13 = .ok (.getfield 13, 3) := dec_of (decode cX10_levy) da_307 11 rfl
theorem dX10_levy_16 : decode cX10_levy 16 = .ok (.iconst 3, 1) := dec_of (decode cX10_levy) da_307 12 rfl
theorem dX10_levy_17 : decode cX10_levy 17 = .ok (.iaload, 1) := dec_of (decode cX10_levy) da_307 13 rfl
theorem dX10_levy_18 : decode cX10_levy 18 = .ok (.irem, 1) := dec_of (decode cX10_levy) da_307 14 rfl
theorem dX10_levy_19 : decode cX10_levy 19 = .ok (.ifCond .ne 20, 3) := dec_of (decode cX10_levy) da_307 15 rfl
theorem dX10_levy_22 : decode cX10_levy 22 = .ok (.iload_n 3, 1) := dec_of (decode cX10_levy) da_307 16 rfl
theorem dX10_levy_23 : decode cX10_levy 23 = .ok (.aload_n 0, 1) := dec_of (decode cX10_levy) da_307 17 rfl
theorem dX10_levy_24 : decode cX10_levy 24 = .ok (.getfield 81, 3) := dec_of (decode cX10_levy) da_307 18 rfl
theorem dX10_levy_27 : decode cX10_levy 27 = .ok (.iload_n 1, 1) := dec_of (decode cX10_levy) da_307 19 rfl
theorem dX10_levy_28 : decode cX10_levy 28 = .ok (.iaload, 1) := dec_of (decode cX10_levy) da_307 20 rfl
theorem dX10_levy_29 : decode cX10_levy 29 = .ok (.if_icmp .ge 10, 3) := dec_of (decode cX10_levy) da_307 21 rfl
theorem dX10_levy_32 : decode cX10_levy 32 = .ok (.aload_n 0, 1) := dec_of (decode cX10_levy) da_307 22 rfl
theorem dX10_levy_33 : decode cX10_levy 33 = .ok (.getfield 120, 3) := dec_of (decode cX10_levy) da_307 23 rfl
theorem dX10_levy_36 : decode cX10_levy 36 = .ok (.ifCond .ne 4, 3) := dec_of (decode cX10_levy) da_307 24 rfl
theorem dX10_levy_39 : decode cX10_levy 39 = .ok (.return_, 1) := dec_of (decode cX10_levy) da_307 25 rfl
theorem dX10_levy_40 : decode cX10_levy 40 = .ok (.bipush 8, 2) := dec_of (decode cX10_levy) da_307 26 rfl
theorem dX10_levy_42 : decode cX10_levy 42 = .ok (.iload_n 1, 1) := dec_of (decode cX10_levy) da_307 27 rfl
theorem dX10_levy_43 : decode cX10_levy 43 = .ok (.imul, 1) := dec_of (decode cX10_levy) da_307 28 rfl
theorem dX10_levy_44 : decode cX10_levy 44 = .ok (.aload_n 0, 1) := dec_of (decode cX10_levy) da_307 29 rfl
theorem dX10_levy_45 : decode cX10_levy 45 = .ok (.getfield 84, 3) := dec_of (decode cX10_levy) da_307 30 rfl
theorem dX10_levy_48 : decode cX10_levy 48 = .ok (.bipush 8, 2) := dec_of (decode cX10_levy) da_307 31 rfl
theorem dX10_levy_50 : decode cX10_levy 50 = .ok (.iload_n 1, 1) := dec_of (decode cX10_levy) da_307 32 rfl
theorem dX10_levy_51 : decode cX10_levy 51 = .ok (.imul, 1) := dec_of (decode cX10_levy) da_307 33 rfl
theorem dX10_levy_52 : decode cX10_levy 52 = .ok (.iload_n 3, 1) := dec_of (decode cX10_levy) da_307 34 rfl
theorem dX10_levy_53 : decode cX10_levy 53 = .ok (.iadd, 1) := dec_of (decode cX10_levy) da_307 35 rfl
theorem dX10_levy_54 : decode cX10_levy 54 = .ok (.iaload, 1) := dec_of (decode cX10_levy) da_307 36 rfl
theorem dX10_levy_55 : decode cX10_levy 55 = .ok (.iadd, 1) := dec_of (decode cX10_levy) da_307 37 rfl
theorem dX10_levy_56 : decode cX10_levy 56 = .ok (.istore 4, 2) := dec_of (decode cX10_levy) da_307 38 rfl
theorem dX10_levy_58 : decode cX10_levy 58 = .ok (.iconst 0, 1) := dec_of (decode cX10_levy) da_307 39 rfl
abbrev dl_308 : List (Nat × Except DecodeError (Instr × Nat)) := [(59, .ok (.istore 5, 2)), (61, .ok (.iload 5, 2)), (63, .ok (.aload_n 0, 1)), (64, .ok (.getfield 81, 3)), (67, .ok (.iload_n 1, 1)), (68, .ok (.iaload, 1)), (69, .ok (.if_icmp .ge 97, 3)), (72, .ok (.iload 5, 2)), (74, .ok (.iload_n 3, 1)), (75, .ok (.if_icmp .ne 6, 3)), (78, .ok (.goto 82, 3)), (81, .ok (.aload_n 0, 1)), (82, .ok (.getfield 84, 3)), (85, .ok (.bipush 8, 2)), (87, .ok (.iload_n 1, 1)), (88, .ok (.imul, 1)), (89, .ok (.iload 5, 2)), (91, .ok (.iadd, 1)), (92, .ok (.iaload, 1)), (93, .ok (.istore 6, 2)), (95, .ok (.aload_n 0, 1)), (96, .ok (.iload_n 1, 1)), (97, .ok (.iload 6, 2)), (99, .ok (.iload 5, 2)), (101, .ok (.iload_n 2, 1)), (102, .ok (.invokevirtual 363, 3)), (105, .ok (.aload_n 0, 1)), (106, .ok (.getfield 96, 3)), (109, .ok (.bipush 8, 2)), (111, .ok (.iload_n 1, 1)), (112, .ok (.imul, 1)), (113, .ok (.iload 6, 2)), (115, .ok (.iadd, 1)), (116, .ok (.iaload, 1)), (117, .ok (.aload_n 0, 1)), (118, .ok (.iconst 0, 1)), (119, .ok (.iconst 0, 1)), (120, .ok (.bipush 99, 2)), (122, .ok (.iconst 1, 1)), (123, .ok (.invokevirtual 367, 3))]
theorem da_308 : dl_308.all (fun q => decide (decode cX10_levy q.1 = q.2)) = true := by decide +kernel
theorem dX10_levy_59 : decode cX10_levy 59 = .ok (.istore 5, 2) := dec_of (decode cX10_levy) da_308 0 rfl
theorem dX10_levy_61 : decode cX10_levy 61 = .ok (.iload 5, 2) := dec_of (decode cX10_levy) da_308 1 rfl
theorem dX10_levy_63 : decode cX10_levy 63 = .ok (.aload_n 0, 1) := dec_of (decode cX10_levy) da_308 2 rfl
theorem dX10_levy_64 : decode cX10_levy 64 = .ok (.getfield 81, 3) := dec_of (decode cX10_levy) da_308 3 rfl
theorem dX10_levy_67 : decode cX10_levy 67 = .ok (.iload_n 1, 1) := dec_of (decode cX10_levy) da_308 4 rfl
theorem dX10_levy_68 : decode cX10_levy 68 = .ok (.iaload, 1) := dec_of (decode cX10_levy) da_308 5 rfl
theorem dX10_levy_69 : decode cX10_levy 69 = .ok (.if_icmp .ge 97, 3) := dec_of (decode cX10_levy) da_308 6 rfl
theorem dX10_levy_72 : decode cX10_levy 72 = .ok (.iload 5, 2) := dec_of (decode cX10_levy) da_308 7 rfl
theorem dX10_levy_74 : decode cX10_levy 74 = .ok (.iload_n 3, 1) := dec_of (decode cX10_levy) da_308 8 rfl
theorem dX10_levy_75 : decode cX10_levy 75 = .ok (.if_icmp .ne 6, 3) := dec_of (decode cX10_levy) da_308 9 rfl
theorem dX10_levy_78 : decode cX10_levy 78 = .ok (.goto 82, 3) := dec_of (decode cX10_levy) da_308 10 rfl
theorem dX10_levy_81 : decode cX10_levy 81 = .ok (.aload_n 0, 1) := dec_of (decode cX10_levy) da_308 11 rfl
theorem dX10_levy_82 : decode cX10_levy 82 = .ok (.getfield 84, 3) := dec_of (decode cX10_levy) da_308 12 rfl
theorem dX10_levy_85 : decode cX10_levy 85 = .ok (.bipush 8, 2) := dec_of (decode cX10_levy) da_308 13 rfl
theorem dX10_levy_87 : decode cX10_levy 87 = .ok (.iload_n 1, 1) := dec_of (decode cX10_levy) da_308 14 rfl
theorem dX10_levy_88 : decode cX10_levy 88 = .ok (.imul, 1) := dec_of (decode cX10_levy) da_308 15 rfl
theorem dX10_levy_89 : decode cX10_levy 89 = .ok (.iload 5, 2) := dec_of (decode cX10_levy) da_308 16 rfl
theorem dX10_levy_91 : decode cX10_levy 91 = .ok (.iadd, 1) := dec_of (decode cX10_levy) da_308 17 rfl
theorem dX10_levy_92 : decode cX10_levy 92 = .ok (.iaload, 1) := dec_of (decode cX10_levy) da_308 18 rfl
theorem dX10_levy_93 : decode cX10_levy 93 = .ok (.istore 6, 2) := dec_of (decode cX10_levy) da_308 19 rfl
theorem dX10_levy_95 : decode cX10_levy 95 = .ok (.aload_n 0, 1) := dec_of (decode cX10_levy) da_308 20 rfl
theorem dX10_levy_96 : decode cX10_levy 96 = .ok (.iload_n 1, 1) := dec_of (decode cX10_levy) da_308 21 rfl
theorem dX10_levy_97 : decode cX10_levy 97 = .ok (.iload 6, 2) := dec_of (decode cX10_levy) da_308 22 rfl
theorem dX10_levy_99 : decode cX10_levy 99 = .ok (.iload 5, 2) := dec_of (decode cX10_levy) da_308 23 rfl
theorem dX10_levy_101 : decode cX10_levy 101 = .ok (.iload_n 2, 1) := dec_of (decode cX10_levy) da_308 24 rfl
theorem dX10_levy_102 : decode cX10_levy 102 = .ok (.invokevirtual 363, 3) := dec_of (decode cX10_levy) da_308 25 rfl
theorem dX10_levy_105 : decode cX10_levy 105 = .ok (.aload_n 0, 1) := dec_of (decode cX10_levy) da_308 26 rfl
theorem dX10_levy_106 : decode cX10_levy 106 = .ok (.getfield 96, 3) := dec_of (decode cX10_levy) da_308 27 rfl
theorem dX10_levy_109 : decode cX10_levy 109 = .ok (.bipush 8, 2) := dec_of (decode cX10_levy) da_308 28 rfl
theorem dX10_levy_111 : decode cX10_levy 111 = .ok (.iload_n 1, 1) := dec_of (decode cX10_levy) da_308 29 rfl
theorem dX10_levy_112 : decode cX10_levy 112 = .ok (.imul, 1) := dec_of (decode cX10_levy) da_308 30 rfl
theorem dX10_levy_113 : decode cX10_levy 113 = .ok (.iload 6, 2) := dec_of (decode cX10_levy) da_308 31 rfl
theorem dX10_levy_115 : decode cX10_levy 115 = .ok (.iadd, 1) := dec_of (decode cX10_levy) da_308 32 rfl
theorem dX10_levy_116 : decode cX10_levy 116 = .ok (.iaload, 1) := dec_of (decode cX10_levy) da_308 33 rfl
theorem dX10_levy_117 : decode cX10_levy 117 = .ok (.aload_n 0, 1) := dec_of (decode cX10_levy) da_308 34 rfl
theorem dX10_levy_118 : decode cX10_levy 118 = .ok (.iconst 0, 1) := dec_of (decode cX10_levy) da_308 35 rfl
theorem dX10_levy_119 : decode cX10_levy 119 = .ok (.iconst 0, 1) := dec_of (decode cX10_levy) da_308 36 rfl
theorem dX10_levy_120 : decode cX10_levy 120 = .ok (.bipush 99, 2) := dec_of (decode cX10_levy) da_308 37 rfl
theorem dX10_levy_122 : decode cX10_levy 122 = .ok (.iconst 1, 1) := dec_of (decode cX10_levy) da_308 38 rfl
theorem dX10_levy_123 : decode cX10_levy 123 = .ok (.invokevirtual 367, 3) := dec_of (decode cX10_levy) da_308 39 rfl
abbrev dl_309 : List (Nat × Except DecodeError (Instr × Nat)) := [(126, .ok (.invokestatic 380, 3)), (129, .ok (.istore 7, 2)), (131, .ok (.aload_n 0, 1)), (132, .ok (.getfield 96, 3)), (135, .ok (.bipush 8, 2)), (137, .ok (.iload_n 1, 1)), (138, .ok (.imul, 1)), (139, .ok (.iload 6, 2)), (141, .ok (.iadd, 1)), (142, .ok (.dup2, 1)), (143, .ok (.iaload, 1)), (144, .ok (.iload 7, 2)), (146, .ok (.isub, 1)), (147, .ok (.iastore, 1)), (148, .ok (.aload_n 0, 1)), (149, .ok (.getfield 96, 3)), (152, .ok (.iload 4, 2)), (154, .ok (.dup2, 1)), (155, .ok (.iaload, 1)), (156, .ok (.iload 7, 2)), (158, .ok (.iadd, 1)), (159, .ok (.iastore, 1)), (160, .ok (.iinc 5 1, 3)), (163, .ok (.goto (-102), 3)), (166, .ok (.return_, 1))]
theorem da_309 : dl_309.all (fun q => decide (decode cX10_levy q.1 = q.2)) = true := by decide +kernel
theorem dX10_levy_126 : decode cX10_levy 126 = .ok (.invokestatic 380, 3) := dec_of (decode cX10_levy) da_309 0 rfl
theorem dX10_levy_129 : decode cX10_levy 129 = .ok (.istore 7, 2) := dec_of (decode cX10_levy) da_309 1 rfl
theorem dX10_levy_131 : decode cX10_levy 131 = .ok (.aload_n 0, 1) := dec_of (decode cX10_levy) da_309 2 rfl
theorem dX10_levy_132 : decode cX10_levy 132 = .ok (.getfield 96, 3) := dec_of (decode cX10_levy) da_309 3 rfl
theorem dX10_levy_135 : decode cX10_levy 135 = .ok (.bipush 8, 2) := dec_of (decode cX10_levy) da_309 4 rfl
theorem dX10_levy_137 : decode cX10_levy 137 = .ok (.iload_n 1, 1) := dec_of (decode cX10_levy) da_309 5 rfl
theorem dX10_levy_138 : decode cX10_levy 138 = .ok (.imul, 1) := dec_of (decode cX10_levy) da_309 6 rfl
theorem dX10_levy_139 : decode cX10_levy 139 = .ok (.iload 6, 2) := dec_of (decode cX10_levy) da_309 7 rfl
theorem dX10_levy_141 : decode cX10_levy 141 = .ok (.iadd, 1) := dec_of (decode cX10_levy) da_309 8 rfl
theorem dX10_levy_142 : decode cX10_levy 142 = .ok (.dup2, 1) := dec_of (decode cX10_levy) da_309 9 rfl
theorem dX10_levy_143 : decode cX10_levy 143 = .ok (.iaload, 1) := dec_of (decode cX10_levy) da_309 10 rfl
theorem dX10_levy_144 : decode cX10_levy 144 = .ok (.iload 7, 2) := dec_of (decode cX10_levy) da_309 11 rfl
theorem dX10_levy_146 : decode cX10_levy 146 = .ok (.isub, 1) := dec_of (decode cX10_levy) da_309 12 rfl
theorem dX10_levy_147 : decode cX10_levy 147 = .ok (.iastore, 1) := dec_of (decode cX10_levy) da_309 13 rfl
theorem dX10_levy_148 : decode cX10_levy 148 = .ok (.aload_n 0, 1) := dec_of (decode cX10_levy) da_309 14 rfl
theorem dX10_levy_149 : decode cX10_levy 149 = .ok (.getfield 96, 3) := dec_of (decode cX10_levy) da_309 15 rfl
theorem dX10_levy_152 : decode cX10_levy 152 = .ok (.iload 4, 2) := dec_of (decode cX10_levy) da_309 16 rfl
theorem dX10_levy_154 : decode cX10_levy 154 = .ok (.dup2, 1) := dec_of (decode cX10_levy) da_309 17 rfl
theorem dX10_levy_155 : decode cX10_levy 155 = .ok (.iaload, 1) := dec_of (decode cX10_levy) da_309 18 rfl
theorem dX10_levy_156 : decode cX10_levy 156 = .ok (.iload 7, 2) := dec_of (decode cX10_levy) da_309 19 rfl
theorem dX10_levy_158 : decode cX10_levy 158 = .ok (.iadd, 1) := dec_of (decode cX10_levy) da_309 20 rfl
theorem dX10_levy_159 : decode cX10_levy 159 = .ok (.iastore, 1) := dec_of (decode cX10_levy) da_309 21 rfl
theorem dX10_levy_160 : decode cX10_levy 160 = .ok (.iinc 5 1, 3) := dec_of (decode cX10_levy) da_309 22 rfl
theorem dX10_levy_163 : decode cX10_levy 163 = .ok (.goto (-102), 3) := dec_of (decode cX10_levy) da_309 23 rfl
theorem dX10_levy_166 : decode cX10_levy 166 = .ok (.return_, 1) := dec_of (decode cX10_levy) da_309 24 rfl
abbrev dl_310 : List (Nat × Except DecodeError (Instr × Nat)) := [(0, .ok (.iconst 0, 1)), (1, .ok (.istore_n 3, 1)), (2, .ok (.iload_n 3, 1)), (3, .ok (.aload_n 0, 1)), (4, .ok (.getfield 81, 3)), (7, .ok (.iload_n 1, 1)), (8, .ok (.iaload, 1)), (9, .ok (.if_icmp .ge 95, 3)), (12, .ok (.aload_n 0, 1)), (13, .ok (.getfield 84, 3)), (16, .ok (.bipush 8, 2)), (18, .ok (.iload_n 1, 1)), (19, .ok (.imul, 1)), (20, .ok (.iload_n 3, 1)), (21, .ok (.iadd, 1)), (22, .ok (.iaload, 1)), (23, .ok (.istore 4, 2)), (25, .ok (.bipush 8, 2)), (27, .ok (.iload_n 1, 1)), (28, .ok (.imul, 1)), (29, .ok (.iload 4, 2)), (31, .ok (.iadd, 1)), (32, .ok (.istore 5, 2)), (34, .ok (.aload_n 0, 1)), (35, .ok (.getfield 108, 3)), (38, .ok (.iload 5, 2)), (40, .ok (.iaload, 1)), (41, .ok (.ifCond .le 17, 3)), (44, .ok (.aload_n 0, 1)), (45, .ok (.getfield 108, 3)), (48, .ok (.iload 5, 2)), (50, .ok (.dup2, 1)), (51, .ok (.iaload, 1)), (52, .ok (.iconst 1, 1)), (53, .ok (.isub, 1)), (54, .ok (.iastore, 1)), (55, .ok (.goto 43, 3)), (58, .ok (.iload_n 3, 1)), (59, .ok (.ifCond .le 39, 3)), (62, .ok (.aload_n 0, 1))]
theorem da_310 : dl_310.all (fun q => decide (decode cX10_wear q.1 = q.2)) = true := by decide +kernel
theorem dX10_wear_0 : decode cX10_wear 0 = .ok (.iconst 0, 1) := dec_of (decode cX10_wear) da_310 0 rfl
theorem dX10_wear_1 : decode cX10_wear 1 = .ok (.istore_n 3, 1) := dec_of (decode cX10_wear) da_310 1 rfl
theorem dX10_wear_2 : decode cX10_wear 2 = .ok (.iload_n 3, 1) := dec_of (decode cX10_wear) da_310 2 rfl
theorem dX10_wear_3 : decode cX10_wear 3 = .ok (.aload_n 0, 1) := dec_of (decode cX10_wear) da_310 3 rfl
theorem dX10_wear_4 : decode cX10_wear 4 = .ok (.getfield 81, 3) := dec_of (decode cX10_wear) da_310 4 rfl
theorem dX10_wear_7 : decode cX10_wear 7 = .ok (.iload_n 1, 1) := dec_of (decode cX10_wear) da_310 5 rfl
theorem dX10_wear_8 : decode cX10_wear 8 = .ok (.iaload, 1) := dec_of (decode cX10_wear) da_310 6 rfl
theorem dX10_wear_9 : decode cX10_wear 9 = .ok (.if_icmp .ge 95, 3) := dec_of (decode cX10_wear) da_310 7 rfl
theorem dX10_wear_12 : decode cX10_wear 12 = .ok (.aload_n 0, 1) := dec_of (decode cX10_wear) da_310 8 rfl
theorem dX10_wear_13 : decode cX10_wear 13 = .ok (.getfield 84, 3) := dec_of (decode cX10_wear) da_310 9 rfl
theorem dX10_wear_16 : decode cX10_wear 16 = .ok (.bipush 8, 2) := dec_of (decode cX10_wear) da_310 10 rfl
theorem dX10_wear_18 : decode cX10_wear 18 = .ok (.iload_n 1, 1) := dec_of (decode cX10_wear) da_310 11 rfl
theorem dX10_wear_19 : decode cX10_wear 19 = .ok (.imul, 1) := dec_of (decode cX10_wear) da_310 12 rfl
theorem dX10_wear_20 : decode cX10_wear 20 = .ok (.iload_n 3, 1) := dec_of (decode cX10_wear) da_310 13 rfl
theorem dX10_wear_21 : decode cX10_wear 21 = .ok (.iadd, 1) := dec_of (decode cX10_wear) da_310 14 rfl
theorem dX10_wear_22 : decode cX10_wear 22 = .ok (.iaload, 1) := dec_of (decode cX10_wear) da_310 15 rfl
theorem dX10_wear_23 : decode cX10_wear 23 = .ok (.istore 4, 2) := dec_of (decode cX10_wear) da_310 16 rfl
theorem dX10_wear_25 : decode cX10_wear 25 = .ok (.bipush 8, 2) := dec_of (decode cX10_wear) da_310 17 rfl
theorem dX10_wear_27 : decode cX10_wear 27 = .ok (.iload_n 1, 1) := dec_of (decode cX10_wear) da_310 18 rfl
theorem dX10_wear_28 : decode cX10_wear 28 = .ok (.imul, 1) := dec_of (decode cX10_wear) da_310 19 rfl
theorem dX10_wear_29 : decode cX10_wear 29 = .ok (.iload 4, 2) := dec_of (decode cX10_wear) da_310 20 rfl
theorem dX10_wear_31 : decode cX10_wear 31 = .ok (.iadd, 1) := dec_of (decode cX10_wear) da_310 21 rfl
theorem dX10_wear_32 : decode cX10_wear 32 = .ok (.istore 5, 2) := dec_of (decode cX10_wear) da_310 22 rfl
theorem dX10_wear_34 : decode cX10_wear 34 = .ok (.aload_n 0, 1) := dec_of (decode cX10_wear) da_310 23 rfl
theorem dX10_wear_35 : decode cX10_wear 35 = .ok (.getfield 108, 3) := dec_of (decode cX10_wear) da_310 24 rfl
theorem dX10_wear_38 : decode cX10_wear 38 = .ok (.iload 5, 2) := dec_of (decode cX10_wear) da_310 25 rfl
theorem dX10_wear_40 : decode cX10_wear 40 = .ok (.iaload, 1) := dec_of (decode cX10_wear) da_310 26 rfl
theorem dX10_wear_41 : decode cX10_wear 41 = .ok (.ifCond .le 17, 3) := dec_of (decode cX10_wear) da_310 27 rfl
theorem dX10_wear_44 : decode cX10_wear 44 = .ok (.aload_n 0, 1) := dec_of (decode cX10_wear) da_310 28 rfl
theorem dX10_wear_45 : decode cX10_wear 45 = .ok (.getfield 108, 3) := dec_of (decode cX10_wear) da_310 29 rfl
theorem dX10_wear_48 : decode cX10_wear 48 = .ok (.iload 5, 2) := dec_of (decode cX10_wear) da_310 30 rfl
theorem dX10_wear_50 : decode cX10_wear 50 = .ok (.dup2, 1) := dec_of (decode cX10_wear) da_310 31 rfl
theorem dX10_wear_51 : decode cX10_wear 51 = .ok (.iaload, 1) := dec_of (decode cX10_wear) da_310 32 rfl
theorem dX10_wear_52 : decode cX10_wear 52 = .ok (.iconst 1, 1) := dec_of (decode cX10_wear) da_310 33 rfl
theorem dX10_wear_53 : decode cX10_wear 53 = .ok (.isub, 1) := dec_of (decode cX10_wear) da_310 34 rfl
theorem dX10_wear_54 : decode cX10_wear 54 = .ok (.iastore, 1) := dec_of (decode cX10_wear) da_310 35 rfl
theorem dX10_wear_55 : decode cX10_wear 55 = .ok (.goto 43, 3) := dec_of (decode cX10_wear) da_310 36 rfl
theorem dX10_wear_58 : decode cX10_wear 58 = .ok (.iload_n 3, 1) := dec_of (decode cX10_wear) da_310 37 rfl
theorem dX10_wear_59 : decode cX10_wear 59 = .ok (.ifCond .le 39, 3) := dec_of (decode cX10_wear) da_310 38 rfl
theorem dX10_wear_62 : decode cX10_wear 62 = .ok (.aload_n 0, 1) := dec_of (decode cX10_wear) da_310 39 rfl
abbrev dl_311 : List (Nat × Except DecodeError (Instr × Nat)) := [(63, .ok (.getfield 120, 3)), (66, .ok (.iconst 1, 1)), (67, .ok (.if_icmp .eq 31, 3)), (70, .ok (.aload_n 0, 1)), (71, .ok (.iload_n 1, 1)), (72, .ok (.iload 4, 2)), (74, .ok (.iload_n 3, 1)), (75, .ok (.iload_n 2, 1)), (76, .ok (.invokevirtual 363, 3)), (79, .ok (.aload_n 0, 1)), (80, .ok (.getfield 90, 3)), (83, .ok (.iload 5, 2)), (85, .ok (.dup2, 1)), (86, .ok (.iaload, 1)), (87, .ok (.aload_n 0, 1)), (88, .ok (.iconst 1, 1)), (89, .ok (.iconst 0, 1)), (90, .ok (.bipush 9, 2)), (92, .ok (.iconst 1, 1)), (93, .ok (.invokevirtual 367, 3)), (96, .ok (.isub, 1)), (97, .ok (.iastore, 1)), (98, .ok (.iinc 3 1, 3)), (101, .ok (.goto (-99), 3)), (104, .ok (.return_, 1))]
theorem da_311 : dl_311.all (fun q => decide (decode cX10_wear q.1 = q.2)) = true := by decide +kernel
theorem dX10_wear_63 : decode cX10_wear 63 = .ok (.getfield 120, 3) := dec_of (decode cX10_wear) da_311 0 rfl
theorem dX10_wear_66 : decode cX10_wear 66 = .ok (.iconst 1, 1) := dec_of (decode cX10_wear) da_311 1 rfl
theorem dX10_wear_67 : decode cX10_wear 67 = .ok (.if_icmp .eq 31, 3) := dec_of (decode cX10_wear) da_311 2 rfl
theorem dX10_wear_70 : decode cX10_wear 70 = .ok (.aload_n 0, 1) := dec_of (decode cX10_wear) da_311 3 rfl
theorem dX10_wear_71 : decode cX10_wear 71 = .ok (.iload_n 1, 1) := dec_of (decode cX10_wear) da_311 4 rfl
theorem dX10_wear_72 : decode cX10_wear 72 = .ok (.iload 4, 2) := dec_of (decode cX10_wear) da_311 5 rfl
theorem dX10_wear_74 : decode cX10_wear 74 = .ok (.iload_n 3, 1) := dec_of (decode cX10_wear) da_311 6 rfl
theorem dX10_wear_75 : decode cX10_wear 75 = .ok (.iload_n 2, 1) := dec_of (decode cX10_wear) da_311 7 rfl
theorem dX10_wear_76 : decode cX10_wear 76 = .ok (.invokevirtual 363, 3) := dec_of (decode cX10_wear) da_311 8 rfl
theorem dX10_wear_79 : decode cX10_wear 79 = .ok (.aload_n 0, 1) := dec_of (decode cX10_wear) da_311 9 rfl
theorem dX10_wear_80 : decode cX10_wear 80 = .ok (.getfield 90, 3) := dec_of (decode cX10_wear) da_311 10 rfl
theorem dX10_wear_83 : decode cX10_wear 83 = .ok (.iload 5, 2) := dec_of (decode cX10_wear) da_311 11 rfl
theorem dX10_wear_85 : decode cX10_wear 85 = .ok (.dup2, 1) := dec_of (decode cX10_wear) da_311 12 rfl
theorem dX10_wear_86 : decode cX10_wear 86 = .ok (.iaload, 1) := dec_of (decode cX10_wear) da_311 13 rfl
theorem dX10_wear_87 : decode cX10_wear 87 = .ok (.aload_n 0, 1) := dec_of (decode cX10_wear) da_311 14 rfl
theorem dX10_wear_88 : decode cX10_wear 88 = .ok (.iconst 1, 1) := dec_of (decode cX10_wear) da_311 15 rfl
theorem dX10_wear_89 : decode cX10_wear 89 = .ok (.iconst 0, 1) := dec_of (decode cX10_wear) da_311 16 rfl
theorem dX10_wear_90 : decode cX10_wear 90 = .ok (.bipush 9, 2) := dec_of (decode cX10_wear) da_311 17 rfl
theorem dX10_wear_92 : decode cX10_wear 92 = .ok (.iconst 1, 1) := dec_of (decode cX10_wear) da_311 18 rfl
theorem dX10_wear_93 : decode cX10_wear 93 = .ok (.invokevirtual 367, 3) := dec_of (decode cX10_wear) da_311 19 rfl
theorem dX10_wear_96 : decode cX10_wear 96 = .ok (.isub, 1) := dec_of (decode cX10_wear) da_311 20 rfl
theorem dX10_wear_97 : decode cX10_wear 97 = .ok (.iastore, 1) := dec_of (decode cX10_wear) da_311 21 rfl
theorem dX10_wear_98 : decode cX10_wear 98 = .ok (.iinc 3 1, 3) := dec_of (decode cX10_wear) da_311 22 rfl
theorem dX10_wear_101 : decode cX10_wear 101 = .ok (.goto (-99), 3) := dec_of (decode cX10_wear) da_311 23 rfl
theorem dX10_wear_104 : decode cX10_wear 104 = .ok (.return_, 1) := dec_of (decode cX10_wear) da_311 24 rfl
abbrev dl_312 : List (Nat × Except DecodeError (Instr × Nat)) := [(0, .ok (.aload_n 0, 1)), (1, .ok (.getfield 69, 3)), (4, .ok (.iload_n 1, 1)), (5, .ok (.iaload, 1)), (6, .ok (.istore_n 3, 1)), (7, .ok (.aload_n 0, 1)), (8, .ok (.iload_n 1, 1)), (9, .ok (.iload_n 3, 1)), (10, .ok (.invokevirtual 382, 3)), (13, .ok (.aload_n 0, 1)), (14, .ok (.iload_n 1, 1)), (15, .ok (.iload_n 3, 1)), (16, .ok (.invokevirtual 385, 3)), (19, .ok (.aload_n 0, 1)), (20, .ok (.iload_n 1, 1)), (21, .ok (.invokevirtual 388, 3)), (24, .ok (.aload_n 0, 1)), (25, .ok (.iload_n 1, 1)), (26, .ok (.iload_n 3, 1)), (27, .ok (.invokevirtual 391, 3)), (30, .ok (.aload_n 0, 1)), (31, .ok (.iload_n 1, 1)), (32, .ok (.iload_n 3, 1)), (33, .ok (.invokevirtual 394, 3)), (36, .ok (.aload_n 0, 1)), (37, .ok (.getfield 81, 3)), (40, .ok (.iload_n 1, 1)), (41, .ok (.iaload, 1)), (42, .ok (.ifCond .le 47, 3)), (45, .ok (.aload_n 0, 1)), (46, .ok (.getfield 93, 3)), (49, .ok (.bipush 8, 2)), (51, .ok (.iload_n 1, 1)), (52, .ok (.imul, 1)), (53, .ok (.aload_n 0, 1)), (54, .ok (.getfield 84, 3)), (57, .ok (.bipush 8, 2)), (59, .ok (.iload_n 1, 1)), (60, .ok (.imul, 1)), (61, .ok (.iaload, 1))]
theorem da_312 : dl_312.all (fun q => decide (decode cX10_passes q.1 = q.2)) = true := by decide +kernel
theorem dX10_passes_0 : decode cX10_passes 0 = .ok (.aload_n 0, 1) := dec_of (decode cX10_passes) da_312 0 rfl
theorem dX10_passes_1 : decode cX10_passes 1 = .ok (.getfield 69, 3) := dec_of (decode cX10_passes) da_312 1 rfl
theorem dX10_passes_4 : decode cX10_passes 4 = .ok (.iload_n 1, 1) := dec_of (decode cX10_passes) da_312 2 rfl
theorem dX10_passes_5 : decode cX10_passes 5 = .ok (.iaload, 1) := dec_of (decode cX10_passes) da_312 3 rfl
theorem dX10_passes_6 : decode cX10_passes 6 = .ok (.istore_n 3, 1) := dec_of (decode cX10_passes) da_312 4 rfl
theorem dX10_passes_7 : decode cX10_passes 7 = .ok (.aload_n 0, 1) := dec_of (decode cX10_passes) da_312 5 rfl
theorem dX10_passes_8 : decode cX10_passes 8 = .ok (.iload_n 1, 1) := dec_of (decode cX10_passes) da_312 6 rfl
theorem dX10_passes_9 : decode cX10_passes 9 = .ok (.iload_n 3, 1) := dec_of (decode cX10_passes) da_312 7 rfl
theorem dX10_passes_10 : decode cX10_passes 10 = .ok (.invokevirtual 382, 3) := dec_of (decode cX10_passes) da_312 8 rfl
theorem dX10_passes_13 : decode cX10_passes 13 = .ok (.aload_n 0, 1) := dec_of (decode cX10_passes) da_312 9 rfl
theorem dX10_passes_14 : decode cX10_passes 14 = .ok (.iload_n 1, 1) := dec_of (decode cX10_passes) da_312 10 rfl
theorem dX10_passes_15 : decode cX10_passes 15 = .ok (.iload_n 3, 1) := dec_of (decode cX10_passes) da_312 11 rfl
theorem dX10_passes_16 : decode cX10_passes 16 = .ok (.invokevirtual 385, 3) := dec_of (decode cX10_passes) da_312 12 rfl
theorem dX10_passes_19 : decode cX10_passes 19 = .ok (.aload_n 0, 1) := dec_of (decode cX10_passes) da_312 13 rfl
theorem dX10_passes_20 : decode cX10_passes 20 = .ok (.iload_n 1, 1) := dec_of (decode cX10_passes) da_312 14 rfl
theorem dX10_passes_21 : decode cX10_passes 21 = .ok (.invokevirtual 388, 3) := dec_of (decode cX10_passes) da_312 15 rfl
theorem dX10_passes_24 : decode cX10_passes 24 = .ok (.aload_n 0, 1) := dec_of (decode cX10_passes) da_312 16 rfl
theorem dX10_passes_25 : decode cX10_passes 25 = .ok (.iload_n 1, 1) := dec_of (decode cX10_passes) da_312 17 rfl
theorem dX10_passes_26 : decode cX10_passes 26 = .ok (.iload_n 3, 1) := dec_of (decode cX10_passes) da_312 18 rfl
theorem dX10_passes_27 : decode cX10_passes 27 = .ok (.invokevirtual 391, 3) := dec_of (decode cX10_passes) da_312 19 rfl
theorem dX10_passes_30 : decode cX10_passes 30 = .ok (.aload_n 0, 1) := dec_of (decode cX10_passes) da_312 20 rfl
theorem dX10_passes_31 : decode cX10_passes 31 = .ok (.iload_n 1, 1) := dec_of (decode cX10_passes) da_312 21 rfl
theorem dX10_passes_32 : decode cX10_passes 32 = .ok (.iload_n 3, 1) := dec_of (decode cX10_passes) da_312 22 rfl
theorem dX10_passes_33 : decode cX10_passes 33 = .ok (.invokevirtual 394, 3) := dec_of (decode cX10_passes) da_312 23 rfl
theorem dX10_passes_36 : decode cX10_passes 36 = .ok (.aload_n 0, 1) := dec_of (decode cX10_passes) da_312 24 rfl
theorem dX10_passes_37 : decode cX10_passes 37 = .ok (.getfield 81, 3) := dec_of (decode cX10_passes) da_312 25 rfl
theorem dX10_passes_40 : decode cX10_passes 40 = .ok (.iload_n 1, 1) := dec_of (decode cX10_passes) da_312 26 rfl
theorem dX10_passes_41 : decode cX10_passes 41 = .ok (.iaload, 1) := dec_of (decode cX10_passes) da_312 27 rfl
theorem dX10_passes_42 : decode cX10_passes 42 = .ok (.ifCond .le 47, 3) := dec_of (decode cX10_passes) da_312 28 rfl
theorem dX10_passes_45 : decode cX10_passes 45 = .ok (.aload_n 0, 1) := dec_of (decode cX10_passes) da_312 29 rfl
theorem dX10_passes_46 : decode cX10_passes 46 = .ok (.getfield 93, 3) := dec_of (decode cX10_passes) da_312 30 rfl
theorem dX10_passes_49 : decode cX10_passes 49 = .ok (.bipush 8, 2) := dec_of (decode cX10_passes) da_312 31 rfl
theorem dX10_passes_51 : decode cX10_passes 51 = .ok (.iload_n 1, 1) := dec_of (decode cX10_passes) da_312 32 rfl
theorem dX10_passes_52 : decode cX10_passes 52 = .ok (.imul, 1) := dec_of (decode cX10_passes) da_312 33 rfl
theorem dX10_passes_53 : decode cX10_passes 53 = .ok (.aload_n 0, 1) := dec_of (decode cX10_passes) da_312 34 rfl
theorem dX10_passes_54 : decode cX10_passes 54 = .ok (.getfield 84, 3) := dec_of (decode cX10_passes) da_312 35 rfl
theorem dX10_passes_57 : decode cX10_passes 57 = .ok (.bipush 8, 2) := dec_of (decode cX10_passes) da_312 36 rfl
theorem dX10_passes_59 : decode cX10_passes 59 = .ok (.iload_n 1, 1) := dec_of (decode cX10_passes) da_312 37 rfl
theorem dX10_passes_60 : decode cX10_passes 60 = .ok (.imul, 1) := dec_of (decode cX10_passes) da_312 38 rfl
theorem dX10_passes_61 : decode cX10_passes 61 = .ok (.iaload, 1) := dec_of (decode cX10_passes) da_312 39 rfl
abbrev dl_313 : List (Nat × Except DecodeError (Instr × Nat)) := [(62, .ok (.iadd, 1)), (63, .ok (.iaload, 1)), (64, .ok (.aload_n 0, 1)), (65, .ok (.getfield 28, 3)), (68, .ok (.aload_n 0, 1)), (69, .ok (.getfield 84, 3)), (72, .ok (.bipush 8, 2)), (74, .ok (.iload_n 1, 1)), (75, .ok (.imul, 1)), (76, .ok (.iaload, 1)), (77, .ok (.iaload, 1)), (78, .ok (.if_icmp .ne 11, 3)), (81, .ok (.aload_n 0, 1)), (82, .ok (.iload_n 1, 1)), (83, .ok (.iconst 0, 1)), (84, .ok (.iconst 2, 1)), (85, .ok (.iload_n 3, 1)), (86, .ok (.invokevirtual 377, 3)), (89, .ok (.aload_n 0, 1)), (90, .ok (.getfield 81, 3)), (93, .ok (.iload_n 1, 1)), (94, .ok (.iaload, 1)), (95, .ok (.iconst 1, 1)), (96, .ok (.isub, 1)), (97, .ok (.istore 4, 2)), (99, .ok (.iload 4, 2)), (101, .ok (.iconst 1, 1)), (102, .ok (.if_icmp .lt 43, 3)), (105, .ok (.aload_n 0, 1)), (106, .ok (.getfield 90, 3)), (109, .ok (.bipush 8, 2)), (111, .ok (.iload_n 1, 1)), (112, .ok (.imul, 1)), (113, .ok (.aload_n 0, 1)), (114, .ok (.getfield 84, 3)), (117, .ok (.bipush 8, 2)), (119, .ok (.iload_n 1, 1)), (120, .ok (.imul, 1)), (121, .ok (.iload 4, 2)), (123, .ok (.iadd, 1))]
theorem da_313 : dl_313.all (fun q => decide (decode cX10_passes q.1 = q.2)) = true := by decide +kernel
theorem dX10_passes_62 : decode cX10_passes 62 = .ok (.iadd, 1) := dec_of (decode cX10_passes) da_313 0 rfl
theorem dX10_passes_63 : decode cX10_passes 63 = .ok (.iaload, 1) := dec_of (decode cX10_passes) da_313 1 rfl
theorem dX10_passes_64 : decode cX10_passes 64 = .ok (.aload_n 0, 1) := dec_of (decode cX10_passes) da_313 2 rfl
theorem dX10_passes_65 : decode cX10_passes 65 = .ok (.getfield 28, 3) := dec_of (decode cX10_passes) da_313 3 rfl
theorem dX10_passes_68 : decode cX10_passes 68 = .ok (.aload_n 0, 1) := dec_of (decode cX10_passes) da_313 4 rfl
theorem dX10_passes_69 : decode cX10_passes 69 = .ok (.getfield 84, 3) := dec_of (decode cX10_passes) da_313 5 rfl
theorem dX10_passes_72 : decode cX10_passes 72 = .ok (.bipush 8, 2) := dec_of (decode cX10_passes) da_313 6 rfl
theorem dX10_passes_74 : decode cX10_passes 74 = .ok (.iload_n 1, 1) := dec_of (decode cX10_passes) da_313 7 rfl
theorem dX10_passes_75 : decode cX10_passes 75 = .ok (.imul, 1) := dec_of (decode cX10_passes) da_313 8 rfl
theorem dX10_passes_76 : decode cX10_passes 76 = .ok (.iaload, 1) := dec_of (decode cX10_passes) da_313 9 rfl
theorem dX10_passes_77 : decode cX10_passes 77 = .ok (.iaload, 1) := dec_of (decode cX10_passes) da_313 10 rfl
theorem dX10_passes_78 : decode cX10_passes 78 = .ok (.if_icmp .ne 11, 3) := dec_of (decode cX10_passes) da_313 11 rfl
theorem dX10_passes_81 : decode cX10_passes 81 = .ok (.aload_n 0, 1) := dec_of (decode cX10_passes) da_313 12 rfl
theorem dX10_passes_82 : decode cX10_passes 82 = .ok (.iload_n 1, 1) := dec_of (decode cX10_passes) da_313 13 rfl
theorem dX10_passes_83 : decode cX10_passes 83 = .ok (.iconst 0, 1) := dec_of (decode cX10_passes) da_313 14 rfl
theorem dX10_passes_84 : decode cX10_passes 84 = .ok (.iconst 2, 1) := dec_of (decode cX10_passes) da_313 15 rfl
theorem dX10_passes_85 : decode cX10_passes 85 = .ok (.iload_n 3, 1) := dec_of (decode cX10_passes) da_313 16 rfl
theorem dX10_passes_86 : decode cX10_passes 86 = .ok (.invokevirtual 377, 3) := dec_of (decode cX10_passes) da_313 17 rfl
theorem dX10_passes_89 : decode cX10_passes 89 = .ok (.aload_n 0, 1) := dec_of (decode cX10_passes) da_313 18 rfl
theorem dX10_passes_90 : decode cX10_passes 90 = .ok (.getfield 81, 3) := dec_of (decode cX10_passes) da_313 19 rfl
theorem dX10_passes_93 : decode cX10_passes 93 = .ok (.iload_n 1, 1) := dec_of (decode cX10_passes) da_313 20 rfl
theorem dX10_passes_94 : decode cX10_passes 94 = .ok (.iaload, 1) := dec_of (decode cX10_passes) da_313 21 rfl
theorem dX10_passes_95 : decode cX10_passes 95 = .ok (.iconst 1, 1) := dec_of (decode cX10_passes) da_313 22 rfl
theorem dX10_passes_96 : decode cX10_passes 96 = .ok (.isub, 1) := dec_of (decode cX10_passes) da_313 23 rfl
theorem dX10_passes_97 : decode cX10_passes 97 = .ok (.istore 4, 2) := dec_of (decode cX10_passes) da_313 24 rfl
theorem dX10_passes_99 : decode cX10_passes 99 = .ok (.iload 4, 2) := dec_of (decode cX10_passes) da_313 25 rfl
theorem dX10_passes_101 : decode cX10_passes 101 = .ok (.iconst 1, 1) := dec_of (decode cX10_passes) da_313 26 rfl
theorem dX10_passes_102 : decode cX10_passes 102 = .ok (.if_icmp .lt 43, 3) := dec_of (decode cX10_passes) da_313 27 rfl
theorem dX10_passes_105 : decode cX10_passes 105 = .ok (.aload_n 0, 1) := dec_of (decode cX10_passes) da_313 28 rfl
theorem dX10_passes_106 : decode cX10_passes 106 = .ok (.getfield 90, 3) := dec_of (decode cX10_passes) da_313 29 rfl
theorem dX10_passes_109 : decode cX10_passes 109 = .ok (.bipush 8, 2) := dec_of (decode cX10_passes) da_313 30 rfl
theorem dX10_passes_111 : decode cX10_passes 111 = .ok (.iload_n 1, 1) := dec_of (decode cX10_passes) da_313 31 rfl
theorem dX10_passes_112 : decode cX10_passes 112 = .ok (.imul, 1) := dec_of (decode cX10_passes) da_313 32 rfl
theorem dX10_passes_113 : decode cX10_passes 113 = .ok (.aload_n 0, 1) := dec_of (decode cX10_passes) da_313 33 rfl
theorem dX10_passes_114 : decode cX10_passes 114 = .ok (.getfield 84, 3) := dec_of (decode cX10_passes) da_313 34 rfl
theorem dX10_passes_117 : decode cX10_passes 117 = .ok (.bipush 8, 2) := dec_of (decode cX10_passes) da_313 35 rfl
theorem dX10_passes_119 : decode cX10_passes 119 = .ok (.iload_n 1, 1) := dec_of (decode cX10_passes) da_313 36 rfl
theorem dX10_passes_120 : decode cX10_passes 120 = .ok (.imul, 1) := dec_of (decode cX10_passes) da_313 37 rfl
theorem dX10_passes_121 : decode cX10_passes 121 = .ok (.iload 4, 2) := dec_of (decode cX10_passes) da_313 38 rfl
theorem dX10_passes_123 : decode cX10_passes 123 = .ok (.iadd, 1) := dec_of (decode cX10_passes) da_313 39 rfl
abbrev dl_314 : List (Nat × Except DecodeError (Instr × Nat)) := [(124, .ok (.iaload, 1)), (125, .ok (.iadd, 1)), (126, .ok (.iaload, 1)), (127, .ok (.ifCond .gt 12, 3)), (130, .ok (.aload_n 0, 1)), (131, .ok (.iload_n 1, 1)), (132, .ok (.iload 4, 2)), (134, .ok (.iconst 3, 1)), (135, .ok (.iload_n 3, 1)), (136, .ok (.invokevirtual 377, 3)), (139, .ok (.iinc 4 (-1), 3)), (142, .ok (.goto (-43), 3)), (145, .ok (.iload_n 2, 1)), (146, .ok (.ifCond .eq 51, 3)), (149, .ok (.aload_n 0, 1)), (150, .ok (.getfield 13, 3)), (153, .ok (.iconst 5, 1)), (154, .ok (.iaload, 1)), (155, .ok (.ifCond .le 42, 3)), (158, .ok (.aload_n 0, 1)), (159, .ok (.iload_n 1, 1)), (160, .ok (.invokevirtual 397, 3)), (163, .ok (.aload_n 0, 1)), (164, .ok (.getfield 13, 3)), (167, .ok (.iconst 5, 1)), (168, .ok (.iaload, 1)), (169, .ok (.if_icmp .ge 28, 3)), (172, .ok (.aload_n 0, 1)), (173, .ok (.getfield 81, 3)), (176, .ok (.iload_n 1, 1)), (177, .ok (.iaload, 1)), (178, .ok (.iconst 1, 1)), (179, .ok (.if_icmp .le 18, 3)), (182, .ok (.aload_n 0, 1)), (183, .ok (.iload_n 1, 1)), (184, .ok (.aload_n 0, 1)), (185, .ok (.getfield 81, 3)), (188, .ok (.iload_n 1, 1)), (189, .ok (.iaload, 1)), (190, .ok (.iconst 1, 1))]
theorem da_314 : dl_314.all (fun q => decide (decode cX10_passes q.1 = q.2)) = true := by decide +kernel
theorem dX10_passes_124 : decode cX10_passes 124 = .ok (.iaload, 1) := dec_of (decode cX10_passes) da_314 0 rfl
theorem dX10_passes_125 : decode cX10_passes 125 = .ok (.iadd, 1) := dec_of (decode cX10_passes) da_314 1 rfl
theorem dX10_passes_126 : decode cX10_passes 126 = .ok (.iaload, 1) := dec_of (decode cX10_passes) da_314 2 rfl
theorem dX10_passes_127 : decode cX10_passes 127 = .ok (.ifCond .gt 12, 3) := dec_of (decode cX10_passes) da_314 3 rfl
theorem dX10_passes_130 : decode cX10_passes 130 = .ok (.aload_n 0, 1) := dec_of (decode cX10_passes) da_314 4 rfl
theorem dX10_passes_131 : decode cX10_passes 131 = .ok (.iload_n 1, 1) := dec_of (decode cX10_passes) da_314 5 rfl
theorem dX10_passes_132 : decode cX10_passes 132 = .ok (.iload 4, 2) := dec_of (decode cX10_passes) da_314 6 rfl
theorem dX10_passes_134 : decode cX10_passes 134 = .ok (.iconst 3, 1) := dec_of (decode cX10_passes) da_314 7 rfl
theorem dX10_passes_135 : decode cX10_passes 135 = .ok (.iload_n 3, 1) := dec_of (decode cX10_passes) da_314 8 rfl
theorem dX10_passes_136 : decode cX10_passes 136 = .ok (.invokevirtual 377, 3) := dec_of (decode cX10_passes) da_314 9 rfl
theorem dX10_passes_139 : decode cX10_passes 139 = .ok (.iinc 4 (-1), 3) := dec_of (decode cX10_passes) da_314 10 rfl
theorem dX10_passes_142 : decode cX10_passes 142 = .ok (.goto (-43), 3) := dec_of (decode cX10_passes) da_314 11 rfl
theorem dX10_passes_145 : decode cX10_passes 145 = .ok (.iload_n 2, 1) := dec_of (decode cX10_passes) da_314 12 rfl
theorem dX10_passes_146 : decode cX10_passes 146 = .ok (.ifCond .eq 51, 3) := dec_of (decode cX10_passes) da_314 13 rfl
theorem dX10_passes_149 : decode cX10_passes 149 = .ok (.aload_n 0, 1) := dec_of (decode cX10_passes) da_314 14 rfl
theorem dX10_passes_150 : decode cX10_passes 150 = .ok (.getfield 13, 3) := dec_of (decode cX10_passes) da_314 15 rfl
theorem dX10_passes_153 : decode cX10_passes 153 = .ok (.iconst 5, 1) := dec_of (decode cX10_passes) da_314 16 rfl
theorem dX10_passes_154 : decode cX10_passes 154 = .ok (.iaload, 1) := dec_of (decode cX10_passes) da_314 17 rfl
theorem dX10_passes_155 : decode cX10_passes 155 = .ok (.ifCond .le 42, 3) := dec_of (decode cX10_passes) da_314 18 rfl
theorem dX10_passes_158 : decode cX10_passes 158 = .ok (.aload_n 0, 1) := dec_of (decode cX10_passes) da_314 19 rfl
theorem dX10_passes_159 : decode cX10_passes 159 = .ok (.iload_n 1, 1) := dec_of (decode cX10_passes) da_314 20 rfl
theorem dX10_passes_160 : decode cX10_passes 160 = .ok (.invokevirtual 397, 3) := dec_of (decode cX10_passes) da_314 21 rfl
theorem dX10_passes_163 : decode cX10_passes 163 = .ok (.aload_n 0, 1) := dec_of (decode cX10_passes) da_314 22 rfl
theorem dX10_passes_164 : decode cX10_passes 164 = .ok (.getfield 13, 3) := dec_of (decode cX10_passes) da_314 23 rfl
theorem dX10_passes_167 : decode cX10_passes 167 = .ok (.iconst 5, 1) := dec_of (decode cX10_passes) da_314 24 rfl
theorem dX10_passes_168 : decode cX10_passes 168 = .ok (.iaload, 1) := dec_of (decode cX10_passes) da_314 25 rfl
theorem dX10_passes_169 : decode cX10_passes 169 = .ok (.if_icmp .ge 28, 3) := dec_of (decode cX10_passes) da_314 26 rfl
theorem dX10_passes_172 : decode cX10_passes 172 = .ok (.aload_n 0, 1) := dec_of (decode cX10_passes) da_314 27 rfl
theorem dX10_passes_173 : decode cX10_passes 173 = .ok (.getfield 81, 3) := dec_of (decode cX10_passes) da_314 28 rfl
theorem dX10_passes_176 : decode cX10_passes 176 = .ok (.iload_n 1, 1) := dec_of (decode cX10_passes) da_314 29 rfl
theorem dX10_passes_177 : decode cX10_passes 177 = .ok (.iaload, 1) := dec_of (decode cX10_passes) da_314 30 rfl
theorem dX10_passes_178 : decode cX10_passes 178 = .ok (.iconst 1, 1) := dec_of (decode cX10_passes) da_314 31 rfl
theorem dX10_passes_179 : decode cX10_passes 179 = .ok (.if_icmp .le 18, 3) := dec_of (decode cX10_passes) da_314 32 rfl
theorem dX10_passes_182 : decode cX10_passes 182 = .ok (.aload_n 0, 1) := dec_of (decode cX10_passes) da_314 33 rfl
theorem dX10_passes_183 : decode cX10_passes 183 = .ok (.iload_n 1, 1) := dec_of (decode cX10_passes) da_314 34 rfl
theorem dX10_passes_184 : decode cX10_passes 184 = .ok (.aload_n 0, 1) := dec_of (decode cX10_passes) da_314 35 rfl
theorem dX10_passes_185 : decode cX10_passes 185 = .ok (.getfield 81, 3) := dec_of (decode cX10_passes) da_314 36 rfl
theorem dX10_passes_188 : decode cX10_passes 188 = .ok (.iload_n 1, 1) := dec_of (decode cX10_passes) da_314 37 rfl
theorem dX10_passes_189 : decode cX10_passes 189 = .ok (.iaload, 1) := dec_of (decode cX10_passes) da_314 38 rfl
theorem dX10_passes_190 : decode cX10_passes 190 = .ok (.iconst 1, 1) := dec_of (decode cX10_passes) da_314 39 rfl
abbrev dl_315 : List (Nat × Except DecodeError (Instr × Nat)) := [(191, .ok (.isub, 1)), (192, .ok (.iconst 3, 1)), (193, .ok (.iload_n 3, 1)), (194, .ok (.invokevirtual 377, 3)), (197, .ok (.aload_n 0, 1)), (198, .ok (.getfield 69, 3)), (201, .ok (.iload_n 1, 1)), (202, .ok (.dup2, 1)), (203, .ok (.iaload, 1)), (204, .ok (.iconst 1, 1)), (205, .ok (.iadd, 1)), (206, .ok (.iastore, 1)), (207, .ok (.return_, 1))]
theorem da_315 : dl_315.all (fun q => decide (decode cX10_passes q.1 = q.2)) = true := by decide +kernel
theorem dX10_passes_191 : decode cX10_passes 191 = .ok (.isub, 1) := dec_of (decode cX10_passes) da_315 0 rfl
theorem dX10_passes_192 : decode cX10_passes 192 = .ok (.iconst 3, 1) := dec_of (decode cX10_passes) da_315 1 rfl
theorem dX10_passes_193 : decode cX10_passes 193 = .ok (.iload_n 3, 1) := dec_of (decode cX10_passes) da_315 2 rfl
theorem dX10_passes_194 : decode cX10_passes 194 = .ok (.invokevirtual 377, 3) := dec_of (decode cX10_passes) da_315 3 rfl
theorem dX10_passes_197 : decode cX10_passes 197 = .ok (.aload_n 0, 1) := dec_of (decode cX10_passes) da_315 4 rfl
theorem dX10_passes_198 : decode cX10_passes 198 = .ok (.getfield 69, 3) := dec_of (decode cX10_passes) da_315 5 rfl
theorem dX10_passes_201 : decode cX10_passes 201 = .ok (.iload_n 1, 1) := dec_of (decode cX10_passes) da_315 6 rfl
theorem dX10_passes_202 : decode cX10_passes 202 = .ok (.dup2, 1) := dec_of (decode cX10_passes) da_315 7 rfl
theorem dX10_passes_203 : decode cX10_passes 203 = .ok (.iaload, 1) := dec_of (decode cX10_passes) da_315 8 rfl
theorem dX10_passes_204 : decode cX10_passes 204 = .ok (.iconst 1, 1) := dec_of (decode cX10_passes) da_315 9 rfl
theorem dX10_passes_205 : decode cX10_passes 205 = .ok (.iadd, 1) := dec_of (decode cX10_passes) da_315 10 rfl
theorem dX10_passes_206 : decode cX10_passes 206 = .ok (.iastore, 1) := dec_of (decode cX10_passes) da_315 11 rfl
theorem dX10_passes_207 : decode cX10_passes 207 = .ok (.return_, 1) := dec_of (decode cX10_passes) da_315 12 rfl
abbrev dl_316 : List (Nat × Except DecodeError (Instr × Nat)) := [(0, .ok (.aload_n 0, 1)), (1, .ok (.getfield 75, 3)), (4, .ok (.iload_n 1, 1)), (5, .ok (.aload_n 0, 1)), (6, .ok (.getfield 75, 3)), (9, .ok (.iload_n 1, 1)), (10, .ok (.iaload, 1)), (11, .ok (.ldc_w 400, 3)), (14, .ok (.imul, 1)), (15, .ok (.sipush 12345, 3)), (18, .ok (.iadd, 1)), (19, .ok (.ldc_w 403, 3)), (22, .ok (.iand, 1)), (23, .ok (.iastore, 1)), (24, .ok (.aload_n 0, 1)), (25, .ok (.getfield 75, 3)), (28, .ok (.iload_n 1, 1)), (29, .ok (.iaload, 1)), (30, .ok (.bipush 16, 2)), (32, .ok (.ishr, 1)), (33, .ok (.bipush 100, 2)), (35, .ok (.irem, 1)), (36, .ok (.ireturn, 1))]
theorem da_316 : dl_316.all (fun q => decide (decode cX10_draw q.1 = q.2)) = true := by decide +kernel
theorem dX10_draw_0 : decode cX10_draw 0 = .ok (.aload_n 0, 1) := dec_of (decode cX10_draw) da_316 0 rfl
theorem dX10_draw_1 : decode cX10_draw 1 = .ok (.getfield 75, 3) := dec_of (decode cX10_draw) da_316 1 rfl
theorem dX10_draw_4 : decode cX10_draw 4 = .ok (.iload_n 1, 1) := dec_of (decode cX10_draw) da_316 2 rfl
theorem dX10_draw_5 : decode cX10_draw 5 = .ok (.aload_n 0, 1) := dec_of (decode cX10_draw) da_316 3 rfl
theorem dX10_draw_6 : decode cX10_draw 6 = .ok (.getfield 75, 3) := dec_of (decode cX10_draw) da_316 4 rfl
theorem dX10_draw_9 : decode cX10_draw 9 = .ok (.iload_n 1, 1) := dec_of (decode cX10_draw) da_316 5 rfl
theorem dX10_draw_10 : decode cX10_draw 10 = .ok (.iaload, 1) := dec_of (decode cX10_draw) da_316 6 rfl
theorem dX10_draw_11 : decode cX10_draw 11 = .ok (.ldc_w 400, 3) := dec_of (decode cX10_draw) da_316 7 rfl
theorem dX10_draw_14 : decode cX10_draw 14 = .ok (.imul, 1) := dec_of (decode cX10_draw) da_316 8 rfl
theorem dX10_draw_15 : decode cX10_draw 15 = .ok (.sipush 12345, 3) := dec_of (decode cX10_draw) da_316 9 rfl
theorem dX10_draw_18 : decode cX10_draw 18 = .ok (.iadd, 1) := dec_of (decode cX10_draw) da_316 10 rfl
theorem dX10_draw_19 : decode cX10_draw 19 = .ok (.ldc_w 403, 3) := dec_of (decode cX10_draw) da_316 11 rfl
theorem dX10_draw_22 : decode cX10_draw 22 = .ok (.iand, 1) := dec_of (decode cX10_draw) da_316 12 rfl
theorem dX10_draw_23 : decode cX10_draw 23 = .ok (.iastore, 1) := dec_of (decode cX10_draw) da_316 13 rfl
theorem dX10_draw_24 : decode cX10_draw 24 = .ok (.aload_n 0, 1) := dec_of (decode cX10_draw) da_316 14 rfl
theorem dX10_draw_25 : decode cX10_draw 25 = .ok (.getfield 75, 3) := dec_of (decode cX10_draw) da_316 15 rfl
theorem dX10_draw_28 : decode cX10_draw 28 = .ok (.iload_n 1, 1) := dec_of (decode cX10_draw) da_316 16 rfl
theorem dX10_draw_29 : decode cX10_draw 29 = .ok (.iaload, 1) := dec_of (decode cX10_draw) da_316 17 rfl
theorem dX10_draw_30 : decode cX10_draw 30 = .ok (.bipush 16, 2) := dec_of (decode cX10_draw) da_316 18 rfl
theorem dX10_draw_32 : decode cX10_draw 32 = .ok (.ishr, 1) := dec_of (decode cX10_draw) da_316 19 rfl
theorem dX10_draw_33 : decode cX10_draw 33 = .ok (.bipush 100, 2) := dec_of (decode cX10_draw) da_316 20 rfl
theorem dX10_draw_35 : decode cX10_draw 35 = .ok (.irem, 1) := dec_of (decode cX10_draw) da_316 21 rfl
theorem dX10_draw_36 : decode cX10_draw 36 = .ok (.ireturn, 1) := dec_of (decode cX10_draw) da_316 22 rfl
abbrev dl_317 : List (Nat × Except DecodeError (Instr × Nat)) := [(0, .ok (.aload_n 0, 1)), (1, .ok (.iconst 1, 1)), (2, .ok (.iconst 0, 1)), (3, .ok (.invokevirtual 404, 3)), (6, .ok (.aload_n 0, 1)), (7, .ok (.getfield 78, 3)), (10, .ok (.iconst 1, 1)), (11, .ok (.iconst 0, 1)), (12, .ok (.iastore, 1)), (13, .ok (.return_, 1))]
theorem da_317 : dl_317.all (fun q => decide (decode cX10_lays q.1 = q.2)) = true := by decide +kernel
theorem dX10_lays_0 : decode cX10_lays 0 = .ok (.aload_n 0, 1) := dec_of (decode cX10_lays) da_317 0 rfl
theorem dX10_lays_1 : decode cX10_lays 1 = .ok (.iconst 1, 1) := dec_of (decode cX10_lays) da_317 1 rfl
theorem dX10_lays_2 : decode cX10_lays 2 = .ok (.iconst 0, 1) := dec_of (decode cX10_lays) da_317 2 rfl
theorem dX10_lays_3 : decode cX10_lays 3 = .ok (.invokevirtual 404, 3) := dec_of (decode cX10_lays) da_317 3 rfl
theorem dX10_lays_6 : decode cX10_lays 6 = .ok (.aload_n 0, 1) := dec_of (decode cX10_lays) da_317 4 rfl
theorem dX10_lays_7 : decode cX10_lays 7 = .ok (.getfield 78, 3) := dec_of (decode cX10_lays) da_317 5 rfl
theorem dX10_lays_10 : decode cX10_lays 10 = .ok (.iconst 1, 1) := dec_of (decode cX10_lays) da_317 6 rfl
theorem dX10_lays_11 : decode cX10_lays 11 = .ok (.iconst 0, 1) := dec_of (decode cX10_lays) da_317 7 rfl
theorem dX10_lays_12 : decode cX10_lays 12 = .ok (.iastore, 1) := dec_of (decode cX10_lays) da_317 8 rfl
theorem dX10_lays_13 : decode cX10_lays 13 = .ok (.return_, 1) := dec_of (decode cX10_lays) da_317 9 rfl
abbrev dl_318 : List (Nat × Except DecodeError (Instr × Nat)) := [(0, .ok (.iconst 0, 1)), (1, .ok (.istore_n 2, 1)), (2, .ok (.iload_n 2, 1)), (3, .ok (.iload_n 1, 1)), (4, .ok (.if_icmp .ge 15, 3)), (7, .ok (.aload_n 0, 1)), (8, .ok (.iconst 1, 1)), (9, .ok (.iconst 0, 1)), (10, .ok (.invokevirtual 407, 3)), (13, .ok (.iinc 2 1, 3)), (16, .ok (.goto (-14), 3)), (19, .ok (.return_, 1))]
theorem da_318 : dl_318.all (fun q => decide (decode cX10_runs q.1 = q.2)) = true := by decide +kernel
theorem dX10_runs_0 : decode cX10_runs 0 = .ok (.iconst 0, 1) := dec_of (decode cX10_runs) da_318 0 rfl
theorem dX10_runs_1 : decode cX10_runs 1 = .ok (.istore_n 2, 1) := dec_of (decode cX10_runs) da_318 1 rfl
theorem dX10_runs_2 : decode cX10_runs 2 = .ok (.iload_n 2, 1) := dec_of (decode cX10_runs) da_318 2 rfl
theorem dX10_runs_3 : decode cX10_runs 3 = .ok (.iload_n 1, 1) := dec_of (decode cX10_runs) da_318 3 rfl
theorem dX10_runs_4 : decode cX10_runs 4 = .ok (.if_icmp .ge 15, 3) := dec_of (decode cX10_runs) da_318 4 rfl
theorem dX10_runs_7 : decode cX10_runs 7 = .ok (.aload_n 0, 1) := dec_of (decode cX10_runs) da_318 5 rfl
theorem dX10_runs_8 : decode cX10_runs 8 = .ok (.iconst 1, 1) := dec_of (decode cX10_runs) da_318 6 rfl
theorem dX10_runs_9 : decode cX10_runs 9 = .ok (.iconst 0, 1) := dec_of (decode cX10_runs) da_318 7 rfl
theorem dX10_runs_10 : decode cX10_runs 10 = .ok (.invokevirtual 407, 3) := dec_of (decode cX10_runs) da_318 8 rfl
theorem dX10_runs_13 : decode cX10_runs 13 = .ok (.iinc 2 1, 3) := dec_of (decode cX10_runs) da_318 9 rfl
theorem dX10_runs_16 : decode cX10_runs 16 = .ok (.goto (-14), 3) := dec_of (decode cX10_runs) da_318 10 rfl
theorem dX10_runs_19 : decode cX10_runs 19 = .ok (.return_, 1) := dec_of (decode cX10_runs) da_318 11 rfl
abbrev dl_319 : List (Nat × Except DecodeError (Instr × Nat)) := [(0, .ok (.aload_n 0, 1)), (1, .ok (.aload_n 0, 1)), (2, .ok (.iload_n 1, 1)), (3, .ok (.invokevirtual 356, 3)), (6, .ok (.ifCond .ne 7, 3)), (9, .ok (.iconst 1, 1)), (10, .ok (.goto 18, 3)), (13, .ok (.iload_n 2, 1)), (14, .ok (.ifCond .lt 9, 3)), (17, .ok (.iload_n 2, 1)), (18, .ok (.bipush 10, 2)), (20, .ok (.if_icmp .le 7, 3)), (23, .ok (.iconst 2, 1)), (24, .ok (.goto 4, 3)), (27, .ok (.iconst 0, 1)), (28, .ok (.putfield 154, 3)), (31, .ok (.aload_n 0, 1)), (32, .ok (.getfield 154, 3)), (35, .ok (.ifCond .eq 5, 3)), (38, .ok (.iconst 0, 1)), (39, .ok (.ireturn, 1)), (40, .ok (.iload_n 2, 1)), (41, .ok (.tableswitch 168 0 9 #[55, 62, 69, 76, 83, 90, 97, 104, 150, 157], 55)), (96, .ok (.aload_n 0, 1)), (97, .ok (.getfield 19, 3)), (100, .ok (.iload_n 1, 1)), (101, .ok (.iaload, 1)), (102, .ok (.ireturn, 1)), (103, .ok (.aload_n 0, 1)), (104, .ok (.getfield 22, 3)), (107, .ok (.iload_n 1, 1)), (108, .ok (.iaload, 1)), (109, .ok (.ireturn, 1)), (110, .ok (.aload_n 0, 1)), (111, .ok (.getfield 90, 3)), (114, .ok (.iload_n 1, 1)), (115, .ok (.iaload, 1)), (116, .ok (.ireturn, 1)), (117, .ok (.aload_n 0, 1)), (118, .ok (.getfield 93, 3))]
theorem da_319 : dl_319.all (fun q => decide (decode cX10_look q.1 = q.2)) = true := by decide +kernel
theorem dX10_look_0 : decode cX10_look 0 = .ok (.aload_n 0, 1) := dec_of (decode cX10_look) da_319 0 rfl
theorem dX10_look_1 : decode cX10_look 1 = .ok (.aload_n 0, 1) := dec_of (decode cX10_look) da_319 1 rfl
theorem dX10_look_2 : decode cX10_look 2 = .ok (.iload_n 1, 1) := dec_of (decode cX10_look) da_319 2 rfl
theorem dX10_look_3 : decode cX10_look 3 = .ok (.invokevirtual 356, 3) := dec_of (decode cX10_look) da_319 3 rfl
theorem dX10_look_6 : decode cX10_look 6 = .ok (.ifCond .ne 7, 3) := dec_of (decode cX10_look) da_319 4 rfl
theorem dX10_look_9 : decode cX10_look 9 = .ok (.iconst 1, 1) := dec_of (decode cX10_look) da_319 5 rfl
theorem dX10_look_10 : decode cX10_look 10 = .ok (.goto 18, 3) := dec_of (decode cX10_look) da_319 6 rfl
theorem dX10_look_13 : decode cX10_look 13 = .ok (.iload_n 2, 1) := dec_of (decode cX10_look) da_319 7 rfl
theorem dX10_look_14 : decode cX10_look 14 = .ok (.ifCond .lt 9, 3) := dec_of (decode cX10_look) da_319 8 rfl
theorem dX10_look_17 : decode cX10_look 17 = .ok (.iload_n 2, 1) := dec_of (decode cX10_look) da_319 9 rfl
theorem dX10_look_18 : decode cX10_look 18 = .ok (.bipush 10, 2) := dec_of (decode cX10_look) da_319 10 rfl
theorem dX10_look_20 : decode cX10_look 20 = .ok (.if_icmp .le 7, 3) := dec_of (decode cX10_look) da_319 11 rfl
theorem dX10_look_23 : decode cX10_look 23 = .ok (.iconst 2, 1) := dec_of (decode cX10_look) da_319 12 rfl
theorem dX10_look_24 : decode cX10_look 24 = .ok (.goto 4, 3) := dec_of (decode cX10_look) da_319 13 rfl
theorem dX10_look_27 : decode cX10_look 27 = .ok (.iconst 0, 1) := dec_of (decode cX10_look) da_319 14 rfl
theorem dX10_look_28 : decode cX10_look 28 = .ok (.putfield 154, 3) := dec_of (decode cX10_look) da_319 15 rfl
theorem dX10_look_31 : decode cX10_look 31 = .ok (.aload_n 0, 1) := dec_of (decode cX10_look) da_319 16 rfl
theorem dX10_look_32 : decode cX10_look 32 = .ok (.getfield 154, 3) := dec_of (decode cX10_look) da_319 17 rfl
theorem dX10_look_35 : decode cX10_look 35 = .ok (.ifCond .eq 5, 3) := dec_of (decode cX10_look) da_319 18 rfl
theorem dX10_look_38 : decode cX10_look 38 = .ok (.iconst 0, 1) := dec_of (decode cX10_look) da_319 19 rfl
theorem dX10_look_39 : decode cX10_look 39 = .ok (.ireturn, 1) := dec_of (decode cX10_look) da_319 20 rfl
theorem dX10_look_40 : decode cX10_look 40 = .ok (.iload_n 2, 1) := dec_of (decode cX10_look) da_319 21 rfl
theorem dX10_look_41 : decode cX10_look 41 = .ok (.tableswitch 168 0 9 #[55, 62, 69, 76, 83, 90, 97, 104, 150, 157], 55) := dec_of (decode cX10_look) da_319 22 rfl
theorem dX10_look_96 : decode cX10_look 96 = .ok (.aload_n 0, 1) := dec_of (decode cX10_look) da_319 23 rfl
theorem dX10_look_97 : decode cX10_look 97 = .ok (.getfield 19, 3) := dec_of (decode cX10_look) da_319 24 rfl
theorem dX10_look_100 : decode cX10_look 100 = .ok (.iload_n 1, 1) := dec_of (decode cX10_look) da_319 25 rfl
theorem dX10_look_101 : decode cX10_look 101 = .ok (.iaload, 1) := dec_of (decode cX10_look) da_319 26 rfl
theorem dX10_look_102 : decode cX10_look 102 = .ok (.ireturn, 1) := dec_of (decode cX10_look) da_319 27 rfl
theorem dX10_look_103 : decode cX10_look 103 = .ok (.aload_n 0, 1) := dec_of (decode cX10_look) da_319 28 rfl
theorem dX10_look_104 : decode cX10_look 104 = .ok (.getfield 22, 3) := dec_of (decode cX10_look) da_319 29 rfl
theorem dX10_look_107 : decode cX10_look 107 = .ok (.iload_n 1, 1) := dec_of (decode cX10_look) da_319 30 rfl
theorem dX10_look_108 : decode cX10_look 108 = .ok (.iaload, 1) := dec_of (decode cX10_look) da_319 31 rfl
theorem dX10_look_109 : decode cX10_look 109 = .ok (.ireturn, 1) := dec_of (decode cX10_look) da_319 32 rfl
theorem dX10_look_110 : decode cX10_look 110 = .ok (.aload_n 0, 1) := dec_of (decode cX10_look) da_319 33 rfl
theorem dX10_look_111 : decode cX10_look 111 = .ok (.getfield 90, 3) := dec_of (decode cX10_look) da_319 34 rfl
theorem dX10_look_114 : decode cX10_look 114 = .ok (.iload_n 1, 1) := dec_of (decode cX10_look) da_319 35 rfl
theorem dX10_look_115 : decode cX10_look 115 = .ok (.iaload, 1) := dec_of (decode cX10_look) da_319 36 rfl
theorem dX10_look_116 : decode cX10_look 116 = .ok (.ireturn, 1) := dec_of (decode cX10_look) da_319 37 rfl
theorem dX10_look_117 : decode cX10_look 117 = .ok (.aload_n 0, 1) := dec_of (decode cX10_look) da_319 38 rfl
theorem dX10_look_118 : decode cX10_look 118 = .ok (.getfield 93, 3) := dec_of (decode cX10_look) da_319 39 rfl
abbrev dl_320 : List (Nat × Except DecodeError (Instr × Nat)) := [(121, .ok (.iload_n 1, 1)), (122, .ok (.iaload, 1)), (123, .ok (.ireturn, 1)), (124, .ok (.aload_n 0, 1)), (125, .ok (.getfield 96, 3)), (128, .ok (.iload_n 1, 1)), (129, .ok (.iaload, 1)), (130, .ok (.ireturn, 1)), (131, .ok (.aload_n 0, 1)), (132, .ok (.iconst 0, 1)), (133, .ok (.iload_n 1, 1)), (134, .ok (.invokevirtual 411, 3)), (137, .ok (.ireturn, 1)), (138, .ok (.aload_n 0, 1)), (139, .ok (.getfield 87, 3)), (142, .ok (.iload_n 1, 1)), (143, .ok (.iaload, 1)), (144, .ok (.ireturn, 1)), (145, .ok (.aload_n 0, 1)), (146, .ok (.getfield 87, 3)), (149, .ok (.iload_n 1, 1)), (150, .ok (.iaload, 1)), (151, .ok (.ifCond .ne 7, 3)), (154, .ok (.iconst 0, 1)), (155, .ok (.goto 35, 3)), (158, .ok (.aload_n 0, 1)), (159, .ok (.getfield 87, 3)), (162, .ok (.iload_n 1, 1)), (163, .ok (.iaload, 1)), (164, .ok (.iconst 1, 1)), (165, .ok (.if_icmp .ne 12, 3)), (168, .ok (.aload_n 0, 1)), (169, .ok (.getfield 69, 3)), (172, .ok (.iconst 0, 1)), (173, .ok (.iaload, 1)), (174, .ok (.goto 9, 3)), (177, .ok (.aload_n 0, 1)), (178, .ok (.getfield 105, 3)), (181, .ok (.iload_n 1, 1)), (182, .ok (.iaload, 1))]
theorem da_320 : dl_320.all (fun q => decide (decode cX10_look q.1 = q.2)) = true := by decide +kernel
theorem dX10_look_121 : decode cX10_look 121 = .ok (.iload_n 1, 1) := dec_of (decode cX10_look) da_320 0 rfl
theorem dX10_look_122 : decode cX10_look 122 = .ok (.iaload, 1) := dec_of (decode cX10_look) da_320 1 rfl
theorem dX10_look_123 : decode cX10_look 123 = .ok (.ireturn, 1) := dec_of (decode cX10_look) da_320 2 rfl
theorem dX10_look_124 : decode cX10_look 124 = .ok (.aload_n 0, 1) := dec_of (decode cX10_look) da_320 3 rfl
theorem dX10_look_125 : decode cX10_look 125 = .ok (.getfield 96, 3) := dec_of (decode cX10_look) da_320 4 rfl
theorem dX10_look_128 : decode cX10_look 128 = .ok (.iload_n 1, 1) := dec_of (decode cX10_look) da_320 5 rfl
theorem dX10_look_129 : decode cX10_look 129 = .ok (.iaload, 1) := dec_of (decode cX10_look) da_320 6 rfl
theorem dX10_look_130 : decode cX10_look 130 = .ok (.ireturn, 1) := dec_of (decode cX10_look) da_320 7 rfl
theorem dX10_look_131 : decode cX10_look 131 = .ok (.aload_n 0, 1) := dec_of (decode cX10_look) da_320 8 rfl
theorem dX10_look_132 : decode cX10_look 132 = .ok (.iconst 0, 1) := dec_of (decode cX10_look) da_320 9 rfl
theorem dX10_look_133 : decode cX10_look 133 = .ok (.iload_n 1, 1) := dec_of (decode cX10_look) da_320 10 rfl
theorem dX10_look_134 : decode cX10_look 134 = .ok (.invokevirtual 411, 3) := dec_of (decode cX10_look) da_320 11 rfl
theorem dX10_look_137 : decode cX10_look 137 = .ok (.ireturn, 1) := dec_of (decode cX10_look) da_320 12 rfl
theorem dX10_look_138 : decode cX10_look 138 = .ok (.aload_n 0, 1) := dec_of (decode cX10_look) da_320 13 rfl
theorem dX10_look_139 : decode cX10_look 139 = .ok (.getfield 87, 3) := dec_of (decode cX10_look) da_320 14 rfl
theorem dX10_look_142 : decode cX10_look 142 = .ok (.iload_n 1, 1) := dec_of (decode cX10_look) da_320 15 rfl
theorem dX10_look_143 : decode cX10_look 143 = .ok (.iaload, 1) := dec_of (decode cX10_look) da_320 16 rfl
theorem dX10_look_144 : decode cX10_look 144 = .ok (.ireturn, 1) := dec_of (decode cX10_look) da_320 17 rfl
theorem dX10_look_145 : decode cX10_look 145 = .ok (.aload_n 0, 1) := dec_of (decode cX10_look) da_320 18 rfl
theorem dX10_look_146 : decode cX10_look 146 = .ok (.getfield 87, 3) := dec_of (decode cX10_look) da_320 19 rfl
theorem dX10_look_149 : decode cX10_look 149 = .ok (.iload_n 1, 1) := dec_of (decode cX10_look) da_320 20 rfl
theorem dX10_look_150 : decode cX10_look 150 = .ok (.iaload, 1) := dec_of (decode cX10_look) da_320 21 rfl
theorem dX10_look_151 : decode cX10_look 151 = .ok (.ifCond .ne 7, 3) := dec_of (decode cX10_look) da_320 22 rfl
theorem dX10_look_154 : decode cX10_look 154 = .ok (.iconst 0, 1) := dec_of (decode cX10_look) da_320 23 rfl
theorem dX10_look_155 : decode cX10_look 155 = .ok (.goto 35, 3) := dec_of (decode cX10_look) da_320 24 rfl
theorem dX10_look_158 : decode cX10_look 158 = .ok (.aload_n 0, 1) := dec_of (decode cX10_look) da_320 25 rfl
theorem dX10_look_159 : decode cX10_look 159 = .ok (.getfield 87, 3) := dec_of (decode cX10_look) da_320 26 rfl
theorem dX10_look_162 : decode cX10_look 162 = .ok (.iload_n 1, 1) := dec_of (decode cX10_look) da_320 27 rfl
theorem dX10_look_163 : decode cX10_look 163 = .ok (.iaload, 1) := dec_of (decode cX10_look) da_320 28 rfl
theorem dX10_look_164 : decode cX10_look 164 = .ok (.iconst 1, 1) := dec_of (decode cX10_look) da_320 29 rfl
theorem dX10_look_165 : decode cX10_look 165 = .ok (.if_icmp .ne 12, 3) := dec_of (decode cX10_look) da_320 30 rfl
theorem dX10_look_168 : decode cX10_look 168 = .ok (.aload_n 0, 1) := dec_of (decode cX10_look) da_320 31 rfl
theorem dX10_look_169 : decode cX10_look 169 = .ok (.getfield 69, 3) := dec_of (decode cX10_look) da_320 32 rfl
theorem dX10_look_172 : decode cX10_look 172 = .ok (.iconst 0, 1) := dec_of (decode cX10_look) da_320 33 rfl
theorem dX10_look_173 : decode cX10_look 173 = .ok (.iaload, 1) := dec_of (decode cX10_look) da_320 34 rfl
theorem dX10_look_174 : decode cX10_look 174 = .ok (.goto 9, 3) := dec_of (decode cX10_look) da_320 35 rfl
theorem dX10_look_177 : decode cX10_look 177 = .ok (.aload_n 0, 1) := dec_of (decode cX10_look) da_320 36 rfl
theorem dX10_look_178 : decode cX10_look 178 = .ok (.getfield 105, 3) := dec_of (decode cX10_look) da_320 37 rfl
theorem dX10_look_181 : decode cX10_look 181 = .ok (.iload_n 1, 1) := dec_of (decode cX10_look) da_320 38 rfl
theorem dX10_look_182 : decode cX10_look 182 = .ok (.iaload, 1) := dec_of (decode cX10_look) da_320 39 rfl
abbrev dl_321 : List (Nat × Except DecodeError (Instr × Nat)) := [(183, .ok (.aload_n 0, 1)), (184, .ok (.getfield 102, 3)), (187, .ok (.iload_n 1, 1)), (188, .ok (.iaload, 1)), (189, .ok (.isub, 1)), (190, .ok (.ireturn, 1)), (191, .ok (.aload_n 0, 1)), (192, .ok (.getfield 108, 3)), (195, .ok (.iload_n 1, 1)), (196, .ok (.iaload, 1)), (197, .ok (.ireturn, 1)), (198, .ok (.aload_n 0, 1)), (199, .ok (.getfield 78, 3)), (202, .ok (.iconst 0, 1)), (203, .ok (.iaload, 1)), (204, .ok (.iload_n 1, 1)), (205, .ok (.ishr, 1)), (206, .ok (.iconst 1, 1)), (207, .ok (.iand, 1)), (208, .ok (.ireturn, 1)), (209, .ok (.aload_n 0, 1)), (210, .ok (.getfield 43, 3)), (213, .ok (.iload_n 1, 1)), (214, .ok (.iaload, 1)), (215, .ok (.iconst 1, 1)), (216, .ok (.isub, 1)), (217, .ok (.ireturn, 1))]
theorem da_321 : dl_321.all (fun q => decide (decode cX10_look q.1 = q.2)) = true := by decide +kernel
theorem dX10_look_183 : decode cX10_look 183 = .ok (.aload_n 0, 1) := dec_of (decode cX10_look) da_321 0 rfl
theorem dX10_look_184 : decode cX10_look 184 = .ok (.getfield 102, 3) := dec_of (decode cX10_look) da_321 1 rfl
theorem dX10_look_187 : decode cX10_look 187 = .ok (.iload_n 1, 1) := dec_of (decode cX10_look) da_321 2 rfl
theorem dX10_look_188 : decode cX10_look 188 = .ok (.iaload, 1) := dec_of (decode cX10_look) da_321 3 rfl
theorem dX10_look_189 : decode cX10_look 189 = .ok (.isub, 1) := dec_of (decode cX10_look) da_321 4 rfl
theorem dX10_look_190 : decode cX10_look 190 = .ok (.ireturn, 1) := dec_of (decode cX10_look) da_321 5 rfl
theorem dX10_look_191 : decode cX10_look 191 = .ok (.aload_n 0, 1) := dec_of (decode cX10_look) da_321 6 rfl
theorem dX10_look_192 : decode cX10_look 192 = .ok (.getfield 108, 3) := dec_of (decode cX10_look) da_321 7 rfl
theorem dX10_look_195 : decode cX10_look 195 = .ok (.iload_n 1, 1) := dec_of (decode cX10_look) da_321 8 rfl
theorem dX10_look_196 : decode cX10_look 196 = .ok (.iaload, 1) := dec_of (decode cX10_look) da_321 9 rfl
theorem dX10_look_197 : decode cX10_look 197 = .ok (.ireturn, 1) := dec_of (decode cX10_look) da_321 10 rfl
theorem dX10_look_198 : decode cX10_look 198 = .ok (.aload_n 0, 1) := dec_of (decode cX10_look) da_321 11 rfl
theorem dX10_look_199 : decode cX10_look 199 = .ok (.getfield 78, 3) := dec_of (decode cX10_look) da_321 12 rfl
theorem dX10_look_202 : decode cX10_look 202 = .ok (.iconst 0, 1) := dec_of (decode cX10_look) da_321 13 rfl
theorem dX10_look_203 : decode cX10_look 203 = .ok (.iaload, 1) := dec_of (decode cX10_look) da_321 14 rfl
theorem dX10_look_204 : decode cX10_look 204 = .ok (.iload_n 1, 1) := dec_of (decode cX10_look) da_321 15 rfl
theorem dX10_look_205 : decode cX10_look 205 = .ok (.ishr, 1) := dec_of (decode cX10_look) da_321 16 rfl
theorem dX10_look_206 : decode cX10_look 206 = .ok (.iconst 1, 1) := dec_of (decode cX10_look) da_321 17 rfl
theorem dX10_look_207 : decode cX10_look 207 = .ok (.iand, 1) := dec_of (decode cX10_look) da_321 18 rfl
theorem dX10_look_208 : decode cX10_look 208 = .ok (.ireturn, 1) := dec_of (decode cX10_look) da_321 19 rfl
theorem dX10_look_209 : decode cX10_look 209 = .ok (.aload_n 0, 1) := dec_of (decode cX10_look) da_321 20 rfl
theorem dX10_look_210 : decode cX10_look 210 = .ok (.getfield 43, 3) := dec_of (decode cX10_look) da_321 21 rfl
theorem dX10_look_213 : decode cX10_look 213 = .ok (.iload_n 1, 1) := dec_of (decode cX10_look) da_321 22 rfl
theorem dX10_look_214 : decode cX10_look 214 = .ok (.iaload, 1) := dec_of (decode cX10_look) da_321 23 rfl
theorem dX10_look_215 : decode cX10_look 215 = .ok (.iconst 1, 1) := dec_of (decode cX10_look) da_321 24 rfl
theorem dX10_look_216 : decode cX10_look 216 = .ok (.isub, 1) := dec_of (decode cX10_look) da_321 25 rfl
theorem dX10_look_217 : decode cX10_look 217 = .ok (.ireturn, 1) := dec_of (decode cX10_look) da_321 26 rfl
abbrev dl_322 : List (Nat × Except DecodeError (Instr × Nat)) := [(0, .ok (.aload_n 0, 1)), (1, .ok (.iconst 0, 1)), (2, .ok (.putfield 154, 3)), (5, .ok (.iload_n 1, 1)), (6, .ok (.invokestatic 414, 3)), (9, .ok (.ifCond .eq 12, 3)), (12, .ok (.aload_n 0, 1)), (13, .ok (.iconst 0, 1)), (14, .ok (.iload_n 1, 1)), (15, .ok (.invokevirtual 417, 3)), (18, .ok (.goto 4, 3)), (21, .ok (.iconst (-1), 1)), (22, .ok (.ireturn, 1))]
theorem da_322 : dl_322.all (fun q => decide (decode cX10_stands q.1 = q.2)) = true := by decide +kernel
theorem dX10_stands_0 : decode cX10_stands 0 = .ok (.aload_n 0, 1) := dec_of (decode cX10_stands) da_322 0 rfl
theorem dX10_stands_1 : decode cX10_stands 1 = .ok (.iconst 0, 1) := dec_of (decode cX10_stands) da_322 1 rfl
theorem dX10_stands_2 : decode cX10_stands 2 = .ok (.putfield 154, 3) := dec_of (decode cX10_stands) da_322 2 rfl
theorem dX10_stands_5 : decode cX10_stands 5 = .ok (.iload_n 1, 1) := dec_of (decode cX10_stands) da_322 3 rfl
theorem dX10_stands_6 : decode cX10_stands 6 = .ok (.invokestatic 414, 3) := dec_of (decode cX10_stands) da_322 4 rfl
theorem dX10_stands_9 : decode cX10_stands 9 = .ok (.ifCond .eq 12, 3) := dec_of (decode cX10_stands) da_322 5 rfl
theorem dX10_stands_12 : decode cX10_stands 12 = .ok (.aload_n 0, 1) := dec_of (decode cX10_stands) da_322 6 rfl
theorem dX10_stands_13 : decode cX10_stands 13 = .ok (.iconst 0, 1) := dec_of (decode cX10_stands) da_322 7 rfl
theorem dX10_stands_14 : decode cX10_stands 14 = .ok (.iload_n 1, 1) := dec_of (decode cX10_stands) da_322 8 rfl
theorem dX10_stands_15 : decode cX10_stands 15 = .ok (.invokevirtual 417, 3) := dec_of (decode cX10_stands) da_322 9 rfl
theorem dX10_stands_18 : decode cX10_stands 18 = .ok (.goto 4, 3) := dec_of (decode cX10_stands) da_322 10 rfl
theorem dX10_stands_21 : decode cX10_stands 21 = .ok (.iconst (-1), 1) := dec_of (decode cX10_stands) da_322 11 rfl
theorem dX10_stands_22 : decode cX10_stands 22 = .ok (.ireturn, 1) := dec_of (decode cX10_stands) da_322 12 rfl
abbrev dl_323 : List (Nat × Except DecodeError (Instr × Nat)) := [(0, .ok (.iload_n 0, 1)), (1, .ok (.ifCond .lt 12, 3)), (4, .ok (.iload_n 0, 1)), (5, .ok (.iconst 3, 1)), (6, .ok (.if_icmp .ge 7, 3)), (9, .ok (.iconst 1, 1)), (10, .ok (.goto 4, 3)), (13, .ok (.iconst 0, 1)), (14, .ok (.ireturn, 1))]
theorem da_323 : dl_323.all (fun q => decide (decode cX10_isPower q.1 = q.2)) = true := by decide +kernel
theorem dX10_isPower_0 : decode cX10_isPower 0 = .ok (.iload_n 0, 1) := dec_of (decode cX10_isPower) da_323 0 rfl
theorem dX10_isPower_1 : decode cX10_isPower 1 = .ok (.ifCond .lt 12, 3) := dec_of (decode cX10_isPower) da_323 1 rfl
theorem dX10_isPower_4 : decode cX10_isPower 4 = .ok (.iload_n 0, 1) := dec_of (decode cX10_isPower) da_323 2 rfl
theorem dX10_isPower_5 : decode cX10_isPower 5 = .ok (.iconst 3, 1) := dec_of (decode cX10_isPower) da_323 3 rfl
theorem dX10_isPower_6 : decode cX10_isPower 6 = .ok (.if_icmp .ge 7, 3) := dec_of (decode cX10_isPower) da_323 4 rfl
theorem dX10_isPower_9 : decode cX10_isPower 9 = .ok (.iconst 1, 1) := dec_of (decode cX10_isPower) da_323 5 rfl
theorem dX10_isPower_10 : decode cX10_isPower 10 = .ok (.goto 4, 3) := dec_of (decode cX10_isPower) da_323 6 rfl
theorem dX10_isPower_13 : decode cX10_isPower 13 = .ok (.iconst 0, 1) := dec_of (decode cX10_isPower) da_323 7 rfl
theorem dX10_isPower_14 : decode cX10_isPower 14 = .ok (.ireturn, 1) := dec_of (decode cX10_isPower) da_323 8 rfl
abbrev dl_324 : List (Nat × Except DecodeError (Instr × Nat)) := [(0, .ok (.aload_n 0, 1)), (1, .ok (.iconst 0, 1)), (2, .ok (.putfield 154, 3)), (5, .ok (.iload_n 1, 1)), (6, .ok (.invokestatic 420, 3)), (9, .ok (.ifCond .eq 17, 3)), (12, .ok (.aload_n 0, 1)), (13, .ok (.iconst 0, 1)), (14, .ok (.aload_n 0, 1)), (15, .ok (.getfield 114, 3)), (18, .ok (.iload_n 1, 1)), (19, .ok (.iaload, 1)), (20, .ok (.invokevirtual 417, 3)), (23, .ok (.goto 4, 3)), (26, .ok (.iconst (-1), 1)), (27, .ok (.ireturn, 1))]
theorem da_324 : dl_324.all (fun q => decide (decode cX10_holder q.1 = q.2)) = true := by decide +kernel
theorem dX10_holder_0 : decode cX10_holder 0 = .ok (.aload_n 0, 1) := dec_of (decode cX10_holder) da_324 0 rfl
theorem dX10_holder_1 : decode cX10_holder 1 = .ok (.iconst 0, 1) := dec_of (decode cX10_holder) da_324 1 rfl
theorem dX10_holder_2 : decode cX10_holder 2 = .ok (.putfield 154, 3) := dec_of (decode cX10_holder) da_324 2 rfl
theorem dX10_holder_5 : decode cX10_holder 5 = .ok (.iload_n 1, 1) := dec_of (decode cX10_holder) da_324 3 rfl
theorem dX10_holder_6 : decode cX10_holder 6 = .ok (.invokestatic 420, 3) := dec_of (decode cX10_holder) da_324 4 rfl
theorem dX10_holder_9 : decode cX10_holder 9 = .ok (.ifCond .eq 17, 3) := dec_of (decode cX10_holder) da_324 5 rfl
theorem dX10_holder_12 : decode cX10_holder 12 = .ok (.aload_n 0, 1) := dec_of (decode cX10_holder) da_324 6 rfl
theorem dX10_holder_13 : decode cX10_holder 13 = .ok (.iconst 0, 1) := dec_of (decode cX10_holder) da_324 7 rfl
theorem dX10_holder_14 : decode cX10_holder 14 = .ok (.aload_n 0, 1) := dec_of (decode cX10_holder) da_324 8 rfl
theorem dX10_holder_15 : decode cX10_holder 15 = .ok (.getfield 114, 3) := dec_of (decode cX10_holder) da_324 9 rfl
theorem dX10_holder_18 : decode cX10_holder 18 = .ok (.iload_n 1, 1) := dec_of (decode cX10_holder) da_324 10 rfl
theorem dX10_holder_19 : decode cX10_holder 19 = .ok (.iaload, 1) := dec_of (decode cX10_holder) da_324 11 rfl
theorem dX10_holder_20 : decode cX10_holder 20 = .ok (.invokevirtual 417, 3) := dec_of (decode cX10_holder) da_324 12 rfl
theorem dX10_holder_23 : decode cX10_holder 23 = .ok (.goto 4, 3) := dec_of (decode cX10_holder) da_324 13 rfl
theorem dX10_holder_26 : decode cX10_holder 26 = .ok (.iconst (-1), 1) := dec_of (decode cX10_holder) da_324 14 rfl
theorem dX10_holder_27 : decode cX10_holder 27 = .ok (.ireturn, 1) := dec_of (decode cX10_holder) da_324 15 rfl
abbrev dl_325 : List (Nat × Except DecodeError (Instr × Nat)) := [(0, .ok (.aload_n 0, 1)), (1, .ok (.iconst 0, 1)), (2, .ok (.putfield 154, 3)), (5, .ok (.iload_n 1, 1)), (6, .ok (.ifCond .lt 41, 3)), (9, .ok (.iload_n 1, 1)), (10, .ok (.iconst 2, 1)), (11, .ok (.if_icmp .gt 36, 3)), (14, .ok (.aload_n 0, 1)), (15, .ok (.iload_n 1, 1)), (16, .ok (.invokevirtual 340, 3)), (19, .ok (.ifCond .eq 28, 3)), (22, .ok (.iload_n 1, 1)), (23, .ok (.iconst 2, 1)), (24, .ok (.if_icmp .ne 15, 3)), (27, .ok (.aload_n 0, 1)), (28, .ok (.getfield 81, 3)), (31, .ok (.iconst 0, 1)), (32, .ok (.iaload, 1)), (33, .ok (.ifCond .ne 18, 3)), (36, .ok (.goto 11, 3)), (39, .ok (.aload_n 0, 1)), (40, .ok (.iload_n 2, 1)), (41, .ok (.invokevirtual 423, 3)), (44, .ok (.ifCond .ne 7, 3)), (47, .ok (.ldc2_w 428, 3)), (50, .ok (.lreturn, 1)), (51, .ok (.iload_n 1, 1)), (52, .ok (.iconst 2, 1)), (53, .ok (.if_icmp .ne 29, 3)), (56, .ok (.aload_n 0, 1)), (57, .ok (.iconst 0, 1)), (58, .ok (.aload_n 0, 1)), (59, .ok (.getfield 84, 3)), (62, .ok (.iconst 0, 1)), (63, .ok (.iaload, 1)), (64, .ok (.aload_n 0, 1)), (65, .ok (.getfield 81, 3)), (68, .ok (.iconst 0, 1)), (69, .ok (.iaload, 1))]
theorem da_325 : dl_325.all (fun q => decide (decode cX10_law q.1 = q.2)) = true := by decide +kernel
theorem dX10_law_0 : decode cX10_law 0 = .ok (.aload_n 0, 1) := dec_of (decode cX10_law) da_325 0 rfl
theorem dX10_law_1 : decode cX10_law 1 = .ok (.iconst 0, 1) := dec_of (decode cX10_law) da_325 1 rfl
theorem dX10_law_2 : decode cX10_law 2 = .ok (.putfield 154, 3) := dec_of (decode cX10_law) da_325 2 rfl
theorem dX10_law_5 : decode cX10_law 5 = .ok (.iload_n 1, 1) := dec_of (decode cX10_law) da_325 3 rfl
theorem dX10_law_6 : decode cX10_law 6 = .ok (.ifCond .lt 41, 3) := dec_of (decode cX10_law) da_325 4 rfl
theorem dX10_law_9 : decode cX10_law 9 = .ok (.iload_n 1, 1) := dec_of (decode cX10_law) da_325 5 rfl
theorem dX10_law_10 : decode cX10_law 10 = .ok (.iconst 2, 1) := dec_of (decode cX10_law) da_325 6 rfl
theorem dX10_law_11 : decode cX10_law 11 = .ok (.if_icmp .gt 36, 3) := dec_of (decode cX10_law) da_325 7 rfl
theorem dX10_law_14 : decode cX10_law 14 = .ok (.aload_n 0, 1) := dec_of (decode cX10_law) da_325 8 rfl
theorem dX10_law_15 : decode cX10_law 15 = .ok (.iload_n 1, 1) := dec_of (decode cX10_law) da_325 9 rfl
theorem dX10_law_16 : decode cX10_law 16 = .ok (.invokevirtual 340, 3) := dec_of (decode cX10_law) da_325 10 rfl
theorem dX10_law_19 : decode cX10_law 19 = .ok (.ifCond .eq 28, 3) := dec_of (decode cX10_law) da_325 11 rfl
theorem dX10_law_22 : decode cX10_law 22 = .ok (.iload_n 1, 1) := dec_of (decode cX10_law) da_325 12 rfl
theorem dX10_law_23 : decode cX10_law 23 = .ok (.iconst 2, 1) := dec_of (decode cX10_law) da_325 13 rfl
theorem dX10_law_24 : decode cX10_law 24 = .ok (.if_icmp .ne 15, 3) := dec_of (decode cX10_law) da_325 14 rfl
theorem dX10_law_27 : decode cX10_law 27 = .ok (.aload_n 0, 1) := dec_of (decode cX10_law) da_325 15 rfl
theorem dX10_law_28 : decode cX10_law 28 = .ok (.getfield 81, 3) := dec_of (decode cX10_law) da_325 16 rfl
theorem dX10_law_31 : decode cX10_law 31 = .ok (.iconst 0, 1) := dec_of (decode cX10_law) da_325 17 rfl
theorem dX10_law_32 : decode cX10_law 32 = .ok (.iaload, 1) := dec_of (decode cX10_law) da_325 18 rfl
theorem dX10_law_33 : decode cX10_law 33 = .ok (.ifCond .ne 18, 3) := dec_of (decode cX10_law) da_325 19 rfl
theorem dX10_law_36 : decode cX10_law 36 = .ok (.goto 11, 3) := dec_of (decode cX10_law) da_325 20 rfl
theorem dX10_law_39 : decode cX10_law 39 = .ok (.aload_n 0, 1) := dec_of (decode cX10_law) da_325 21 rfl
theorem dX10_law_40 : decode cX10_law 40 = .ok (.iload_n 2, 1) := dec_of (decode cX10_law) da_325 22 rfl
theorem dX10_law_41 : decode cX10_law 41 = .ok (.invokevirtual 423, 3) := dec_of (decode cX10_law) da_325 23 rfl
theorem dX10_law_44 : decode cX10_law 44 = .ok (.ifCond .ne 7, 3) := dec_of (decode cX10_law) da_325 24 rfl
theorem dX10_law_47 : decode cX10_law 47 = .ok (.ldc2_w 428, 3) := dec_of (decode cX10_law) da_325 25 rfl
theorem dX10_law_50 : decode cX10_law 50 = .ok (.lreturn, 1) := dec_of (decode cX10_law) da_325 26 rfl
theorem dX10_law_51 : decode cX10_law 51 = .ok (.iload_n 1, 1) := dec_of (decode cX10_law) da_325 27 rfl
theorem dX10_law_52 : decode cX10_law 52 = .ok (.iconst 2, 1) := dec_of (decode cX10_law) da_325 28 rfl
theorem dX10_law_53 : decode cX10_law 53 = .ok (.if_icmp .ne 29, 3) := dec_of (decode cX10_law) da_325 29 rfl
theorem dX10_law_56 : decode cX10_law 56 = .ok (.aload_n 0, 1) := dec_of (decode cX10_law) da_325 30 rfl
theorem dX10_law_57 : decode cX10_law 57 = .ok (.iconst 0, 1) := dec_of (decode cX10_law) da_325 31 rfl
theorem dX10_law_58 : decode cX10_law 58 = .ok (.aload_n 0, 1) := dec_of (decode cX10_law) da_325 32 rfl
theorem dX10_law_59 : decode cX10_law 59 = .ok (.getfield 84, 3) := dec_of (decode cX10_law) da_325 33 rfl
theorem dX10_law_62 : decode cX10_law 62 = .ok (.iconst 0, 1) := dec_of (decode cX10_law) da_325 34 rfl
theorem dX10_law_63 : decode cX10_law 63 = .ok (.iaload, 1) := dec_of (decode cX10_law) da_325 35 rfl
theorem dX10_law_64 : decode cX10_law 64 = .ok (.aload_n 0, 1) := dec_of (decode cX10_law) da_325 36 rfl
theorem dX10_law_65 : decode cX10_law 65 = .ok (.getfield 81, 3) := dec_of (decode cX10_law) da_325 37 rfl
theorem dX10_law_68 : decode cX10_law 68 = .ok (.iconst 0, 1) := dec_of (decode cX10_law) da_325 38 rfl
theorem dX10_law_69 : decode cX10_law 69 = .ok (.iaload, 1) := dec_of (decode cX10_law) da_325 39 rfl
abbrev dl_326 : List (Nat × Except DecodeError (Instr × Nat)) := [(70, .ok (.aload_n 0, 1)), (71, .ok (.getfield 69, 3)), (74, .ok (.iconst 0, 1)), (75, .ok (.iaload, 1)), (76, .ok (.invokevirtual 363, 3)), (79, .ok (.goto 21, 3)), (82, .ok (.aload_n 0, 1)), (83, .ok (.iconst 0, 1)), (84, .ok (.iload_n 2, 1)), (85, .ok (.aload_n 0, 1)), (86, .ok (.iconst 0, 1)), (87, .ok (.iload_n 2, 1)), (88, .ok (.invokevirtual 411, 3)), (91, .ok (.aload_n 0, 1)), (92, .ok (.getfield 69, 3)), (95, .ok (.iconst 0, 1)), (96, .ok (.iaload, 1)), (97, .ok (.invokevirtual 363, 3)), (100, .ok (.aload_n 0, 1)), (101, .ok (.iload_n 1, 1)), (102, .ok (.invokevirtual 343, 3)), (105, .ok (.ifCond .eq 12, 3)), (108, .ok (.aload_n 0, 1)), (109, .ok (.getfield 66, 3)), (112, .ok (.iconst 0, 1)), (113, .ok (.laload, 1)), (114, .ok (.goto 6, 3)), (117, .ok (.ldc2_w 428, 3)), (120, .ok (.lreturn, 1))]
theorem da_326 : dl_326.all (fun q => decide (decode cX10_law q.1 = q.2)) = true := by decide +kernel
theorem dX10_law_70 : decode cX10_law 70 = .ok (.aload_n 0, 1) := dec_of (decode cX10_law) da_326 0 rfl
theorem dX10_law_71 : decode cX10_law 71 = .ok (.getfield 69, 3) := dec_of (decode cX10_law) da_326 1 rfl
theorem dX10_law_74 : decode cX10_law 74 = .ok (.iconst 0, 1) := dec_of (decode cX10_law) da_326 2 rfl
theorem dX10_law_75 : decode cX10_law 75 = .ok (.iaload, 1) := dec_of (decode cX10_law) da_326 3 rfl
theorem dX10_law_76 : decode cX10_law 76 = .ok (.invokevirtual 363, 3) := dec_of (decode cX10_law) da_326 4 rfl
theorem dX10_law_79 : decode cX10_law 79 = .ok (.goto 21, 3) := dec_of (decode cX10_law) da_326 5 rfl
theorem dX10_law_82 : decode cX10_law 82 = .ok (.aload_n 0, 1) := dec_of (decode cX10_law) da_326 6 rfl
theorem dX10_law_83 : decode cX10_law 83 = .ok (.iconst 0, 1) := dec_of (decode cX10_law) da_326 7 rfl
theorem dX10_law_84 : decode cX10_law 84 = .ok (.iload_n 2, 1) := dec_of (decode cX10_law) da_326 8 rfl
theorem dX10_law_85 : decode cX10_law 85 = .ok (.aload_n 0, 1) := dec_of (decode cX10_law) da_326 9 rfl
theorem dX10_law_86 : decode cX10_law 86 = .ok (.iconst 0, 1) := dec_of (decode cX10_law) da_326 10 rfl
theorem dX10_law_87 : decode cX10_law 87 = .ok (.iload_n 2, 1) := dec_of (decode cX10_law) da_326 11 rfl
theorem dX10_law_88 : decode cX10_law 88 = .ok (.invokevirtual 411, 3) := dec_of (decode cX10_law) da_326 12 rfl
theorem dX10_law_91 : decode cX10_law 91 = .ok (.aload_n 0, 1) := dec_of (decode cX10_law) da_326 13 rfl
theorem dX10_law_92 : decode cX10_law 92 = .ok (.getfield 69, 3) := dec_of (decode cX10_law) da_326 14 rfl
theorem dX10_law_95 : decode cX10_law 95 = .ok (.iconst 0, 1) := dec_of (decode cX10_law) da_326 15 rfl
theorem dX10_law_96 : decode cX10_law 96 = .ok (.iaload, 1) := dec_of (decode cX10_law) da_326 16 rfl
theorem dX10_law_97 : decode cX10_law 97 = .ok (.invokevirtual 363, 3) := dec_of (decode cX10_law) da_326 17 rfl
theorem dX10_law_100 : decode cX10_law 100 = .ok (.aload_n 0, 1) := dec_of (decode cX10_law) da_326 18 rfl
theorem dX10_law_101 : decode cX10_law 101 = .ok (.iload_n 1, 1) := dec_of (decode cX10_law) da_326 19 rfl
theorem dX10_law_102 : decode cX10_law 102 = .ok (.invokevirtual 343, 3) := dec_of (decode cX10_law) da_326 20 rfl
theorem dX10_law_105 : decode cX10_law 105 = .ok (.ifCond .eq 12, 3) := dec_of (decode cX10_law) da_326 21 rfl
theorem dX10_law_108 : decode cX10_law 108 = .ok (.aload_n 0, 1) := dec_of (decode cX10_law) da_326 22 rfl
theorem dX10_law_109 : decode cX10_law 109 = .ok (.getfield 66, 3) := dec_of (decode cX10_law) da_326 23 rfl
theorem dX10_law_112 : decode cX10_law 112 = .ok (.iconst 0, 1) := dec_of (decode cX10_law) da_326 24 rfl
theorem dX10_law_113 : decode cX10_law 113 = .ok (.laload, 1) := dec_of (decode cX10_law) da_326 25 rfl
theorem dX10_law_114 : decode cX10_law 114 = .ok (.goto 6, 3) := dec_of (decode cX10_law) da_326 26 rfl
theorem dX10_law_117 : decode cX10_law 117 = .ok (.ldc2_w 428, 3) := dec_of (decode cX10_law) da_326 27 rfl
theorem dX10_law_120 : decode cX10_law 120 = .ok (.lreturn, 1) := dec_of (decode cX10_law) da_326 28 rfl
abbrev dl_327 : List (Nat × Except DecodeError (Instr × Nat)) := [(0, .ok (.bipush 120, 2)), (2, .ok (.aload_n 0, 1)), (3, .ok (.getfield 69, 3)), (6, .ok (.iconst 0, 1)), (7, .ok (.iaload, 1)), (8, .ok (.isub, 1)), (9, .ok (.ireturn, 1))]
theorem da_327 : dl_327.all (fun q => decide (decode cX10_minutesLeft q.1 = q.2)) = true := by decide +kernel
theorem dX10_minutesLeft_0 : decode cX10_minutesLeft 0 = .ok (.bipush 120, 2) := dec_of (decode cX10_minutesLeft) da_327 0 rfl
theorem dX10_minutesLeft_2 : decode cX10_minutesLeft 2 = .ok (.aload_n 0, 1) := dec_of (decode cX10_minutesLeft) da_327 1 rfl
theorem dX10_minutesLeft_3 : decode cX10_minutesLeft 3 = .ok (.getfield 69, 3) := dec_of (decode cX10_minutesLeft) da_327 2 rfl
theorem dX10_minutesLeft_6 : decode cX10_minutesLeft 6 = .ok (.iconst 0, 1) := dec_of (decode cX10_minutesLeft) da_327 3 rfl
theorem dX10_minutesLeft_7 : decode cX10_minutesLeft 7 = .ok (.iaload, 1) := dec_of (decode cX10_minutesLeft) da_327 4 rfl
theorem dX10_minutesLeft_8 : decode cX10_minutesLeft 8 = .ok (.isub, 1) := dec_of (decode cX10_minutesLeft) da_327 5 rfl
theorem dX10_minutesLeft_9 : decode cX10_minutesLeft 9 = .ok (.ireturn, 1) := dec_of (decode cX10_minutesLeft) da_327 6 rfl
abbrev dl_328 : List (Nat × Except DecodeError (Instr × Nat)) := [(0, .ok (.aload_n 0, 1)), (1, .ok (.iconst 0, 1)), (2, .ok (.putfield 154, 3)), (5, .ok (.iload_n 1, 1)), (6, .ok (.ifCond .lt 17, 3)), (9, .ok (.iload_n 1, 1)), (10, .ok (.bipush 120, 2)), (12, .ok (.if_icmp .gt 11, 3)), (15, .ok (.iload_n 1, 1)), (16, .ok (.aload_n 0, 1)), (17, .ok (.invokevirtual 430, 3)), (20, .ok (.if_icmp .le 5, 3)), (23, .ok (.iconst (-1), 1)), (24, .ok (.ireturn, 1)), (25, .ok (.iload_n 1, 1)), (26, .ok (.ifCond .le 8, 3)), (29, .ok (.aload_n 0, 1)), (30, .ok (.iconst 0, 1)), (31, .ok (.putfield 317, 3)), (34, .ok (.iconst 0, 1)), (35, .ok (.istore_n 2, 1)), (36, .ok (.iload_n 2, 1)), (37, .ok (.iload_n 1, 1)), (38, .ok (.if_icmp .ge 60, 3)), (41, .ok (.aload_n 0, 1)), (42, .ok (.getfield 69, 3)), (45, .ok (.iconst 0, 1)), (46, .ok (.iaload, 1)), (47, .ok (.istore_n 3, 1)), (48, .ok (.aload_n 0, 1)), (49, .ok (.iconst 0, 1)), (50, .ok (.iconst 1, 1)), (51, .ok (.invokevirtual 407, 3)), (54, .ok (.iconst 0, 1)), (55, .ok (.istore 4, 2)), (57, .ok (.iload 4, 2)), (59, .ok (.iconst 3, 1)), (60, .ok (.if_icmp .ge 32, 3)), (63, .ok (.aload_n 0, 1)), (64, .ok (.getfield 117, 3))]
theorem da_328 : dl_328.all (fun q => decide (decode cX10_go q.1 = q.2)) = true := by decide +kernel
theorem dX10_go_0 : decode cX10_go 0 = .ok (.aload_n 0, 1) := dec_of (decode cX10_go) da_328 0 rfl
theorem dX10_go_1 : decode cX10_go 1 = .ok (.iconst 0, 1) := dec_of (decode cX10_go) da_328 1 rfl
theorem dX10_go_2 : decode cX10_go 2 = .ok (.putfield 154, 3) := dec_of (decode cX10_go) da_328 2 rfl
theorem dX10_go_5 : decode cX10_go 5 = .ok (.iload_n 1, 1) := dec_of (decode cX10_go) da_328 3 rfl
theorem dX10_go_6 : decode cX10_go 6 = .ok (.ifCond .lt 17, 3) := dec_of (decode cX10_go) da_328 4 rfl
theorem dX10_go_9 : decode cX10_go 9 = .ok (.iload_n 1, 1) := dec_of (decode cX10_go) da_328 5 rfl
theorem dX10_go_10 : decode cX10_go 10 = .ok (.bipush 120, 2) := dec_of (decode cX10_go) da_328 6 rfl
theorem dX10_go_12 : decode cX10_go 12 = .ok (.if_icmp .gt 11, 3) := dec_of (decode cX10_go) da_328 7 rfl
theorem dX10_go_15 : decode cX10_go 15 = .ok (.iload_n 1, 1) := dec_of (decode cX10_go) da_328 8 rfl
theorem dX10_go_16 : decode cX10_go 16 = .ok (.aload_n 0, 1) := dec_of (decode cX10_go) da_328 9 rfl
theorem dX10_go_17 : decode cX10_go 17 = .ok (.invokevirtual 430, 3) := dec_of (decode cX10_go) da_328 10 rfl
theorem dX10_go_20 : decode cX10_go 20 = .ok (.if_icmp .le 5, 3) := dec_of (decode cX10_go) da_328 11 rfl
theorem dX10_go_23 : decode cX10_go 23 = .ok (.iconst (-1), 1) := dec_of (decode cX10_go) da_328 12 rfl
theorem dX10_go_24 : decode cX10_go 24 = .ok (.ireturn, 1) := dec_of (decode cX10_go) da_328 13 rfl
theorem dX10_go_25 : decode cX10_go 25 = .ok (.iload_n 1, 1) := dec_of (decode cX10_go) da_328 14 rfl
theorem dX10_go_26 : decode cX10_go 26 = .ok (.ifCond .le 8, 3) := dec_of (decode cX10_go) da_328 15 rfl
theorem dX10_go_29 : decode cX10_go 29 = .ok (.aload_n 0, 1) := dec_of (decode cX10_go) da_328 16 rfl
theorem dX10_go_30 : decode cX10_go 30 = .ok (.iconst 0, 1) := dec_of (decode cX10_go) da_328 17 rfl
theorem dX10_go_31 : decode cX10_go 31 = .ok (.putfield 317, 3) := dec_of (decode cX10_go) da_328 18 rfl
theorem dX10_go_34 : decode cX10_go 34 = .ok (.iconst 0, 1) := dec_of (decode cX10_go) da_328 19 rfl
theorem dX10_go_35 : decode cX10_go 35 = .ok (.istore_n 2, 1) := dec_of (decode cX10_go) da_328 20 rfl
theorem dX10_go_36 : decode cX10_go 36 = .ok (.iload_n 2, 1) := dec_of (decode cX10_go) da_328 21 rfl
theorem dX10_go_37 : decode cX10_go 37 = .ok (.iload_n 1, 1) := dec_of (decode cX10_go) da_328 22 rfl
theorem dX10_go_38 : decode cX10_go 38 = .ok (.if_icmp .ge 60, 3) := dec_of (decode cX10_go) da_328 23 rfl
theorem dX10_go_41 : decode cX10_go 41 = .ok (.aload_n 0, 1) := dec_of (decode cX10_go) da_328 24 rfl
theorem dX10_go_42 : decode cX10_go 42 = .ok (.getfield 69, 3) := dec_of (decode cX10_go) da_328 25 rfl
theorem dX10_go_45 : decode cX10_go 45 = .ok (.iconst 0, 1) := dec_of (decode cX10_go) da_328 26 rfl
theorem dX10_go_46 : decode cX10_go 46 = .ok (.iaload, 1) := dec_of (decode cX10_go) da_328 27 rfl
theorem dX10_go_47 : decode cX10_go 47 = .ok (.istore_n 3, 1) := dec_of (decode cX10_go) da_328 28 rfl
theorem dX10_go_48 : decode cX10_go 48 = .ok (.aload_n 0, 1) := dec_of (decode cX10_go) da_328 29 rfl
theorem dX10_go_49 : decode cX10_go 49 = .ok (.iconst 0, 1) := dec_of (decode cX10_go) da_328 30 rfl
theorem dX10_go_50 : decode cX10_go 50 = .ok (.iconst 1, 1) := dec_of (decode cX10_go) da_328 31 rfl
theorem dX10_go_51 : decode cX10_go 51 = .ok (.invokevirtual 407, 3) := dec_of (decode cX10_go) da_328 32 rfl
theorem dX10_go_54 : decode cX10_go 54 = .ok (.iconst 0, 1) := dec_of (decode cX10_go) da_328 33 rfl
theorem dX10_go_55 : decode cX10_go 55 = .ok (.istore 4, 2) := dec_of (decode cX10_go) da_328 34 rfl
theorem dX10_go_57 : decode cX10_go 57 = .ok (.iload 4, 2) := dec_of (decode cX10_go) da_328 35 rfl
theorem dX10_go_59 : decode cX10_go 59 = .ok (.iconst 3, 1) := dec_of (decode cX10_go) da_328 36 rfl
theorem dX10_go_60 : decode cX10_go 60 = .ok (.if_icmp .ge 32, 3) := dec_of (decode cX10_go) da_328 37 rfl
theorem dX10_go_63 : decode cX10_go 63 = .ok (.aload_n 0, 1) := dec_of (decode cX10_go) da_328 38 rfl
theorem dX10_go_64 : decode cX10_go 64 = .ok (.getfield 117, 3) := dec_of (decode cX10_go) da_328 39 rfl
abbrev dl_329 : List (Nat × Except DecodeError (Instr × Nat)) := [(67, .ok (.iconst 3, 1)), (68, .ok (.iload_n 3, 1)), (69, .ok (.imul, 1)), (70, .ok (.iload 4, 2)), (72, .ok (.iadd, 1)), (73, .ok (.aload_n 0, 1)), (74, .ok (.iconst 0, 1)), (75, .ok (.aload_n 0, 1)), (76, .ok (.getfield 114, 3)), (79, .ok (.iload 4, 2)), (81, .ok (.iaload, 1)), (82, .ok (.invokevirtual 417, 3)), (85, .ok (.iastore, 1)), (86, .ok (.iinc 4 1, 3)), (89, .ok (.goto (-32), 3)), (92, .ok (.iinc 2 1, 3)), (95, .ok (.goto (-59), 3)), (98, .ok (.aload_n 0, 1)), (99, .ok (.getfield 69, 3)), (102, .ok (.iconst 0, 1)), (103, .ok (.iaload, 1)), (104, .ok (.ireturn, 1))]
theorem da_329 : dl_329.all (fun q => decide (decode cX10_go q.1 = q.2)) = true := by decide +kernel
theorem dX10_go_67 : decode cX10_go 67 = .ok (.iconst 3, 1) := dec_of (decode cX10_go) da_329 0 rfl
theorem dX10_go_68 : decode cX10_go 68 = .ok (.iload_n 3, 1) := dec_of (decode cX10_go) da_329 1 rfl
theorem dX10_go_69 : decode cX10_go 69 = .ok (.imul, 1) := dec_of (decode cX10_go) da_329 2 rfl
theorem dX10_go_70 : decode cX10_go 70 = .ok (.iload 4, 2) := dec_of (decode cX10_go) da_329 3 rfl
theorem dX10_go_72 : decode cX10_go 72 = .ok (.iadd, 1) := dec_of (decode cX10_go) da_329 4 rfl
theorem dX10_go_73 : decode cX10_go 73 = .ok (.aload_n 0, 1) := dec_of (decode cX10_go) da_329 5 rfl
theorem dX10_go_74 : decode cX10_go 74 = .ok (.iconst 0, 1) := dec_of (decode cX10_go) da_329 6 rfl
theorem dX10_go_75 : decode cX10_go 75 = .ok (.aload_n 0, 1) := dec_of (decode cX10_go) da_329 7 rfl
theorem dX10_go_76 : decode cX10_go 76 = .ok (.getfield 114, 3) := dec_of (decode cX10_go) da_329 8 rfl
theorem dX10_go_79 : decode cX10_go 79 = .ok (.iload 4, 2) := dec_of (decode cX10_go) da_329 9 rfl
theorem dX10_go_81 : decode cX10_go 81 = .ok (.iaload, 1) := dec_of (decode cX10_go) da_329 10 rfl
theorem dX10_go_82 : decode cX10_go 82 = .ok (.invokevirtual 417, 3) := dec_of (decode cX10_go) da_329 11 rfl
theorem dX10_go_85 : decode cX10_go 85 = .ok (.iastore, 1) := dec_of (decode cX10_go) da_329 12 rfl
theorem dX10_go_86 : decode cX10_go 86 = .ok (.iinc 4 1, 3) := dec_of (decode cX10_go) da_329 13 rfl
theorem dX10_go_89 : decode cX10_go 89 = .ok (.goto (-32), 3) := dec_of (decode cX10_go) da_329 14 rfl
theorem dX10_go_92 : decode cX10_go 92 = .ok (.iinc 2 1, 3) := dec_of (decode cX10_go) da_329 15 rfl
theorem dX10_go_95 : decode cX10_go 95 = .ok (.goto (-59), 3) := dec_of (decode cX10_go) da_329 16 rfl
theorem dX10_go_98 : decode cX10_go 98 = .ok (.aload_n 0, 1) := dec_of (decode cX10_go) da_329 17 rfl
theorem dX10_go_99 : decode cX10_go 99 = .ok (.getfield 69, 3) := dec_of (decode cX10_go) da_329 18 rfl
theorem dX10_go_102 : decode cX10_go 102 = .ok (.iconst 0, 1) := dec_of (decode cX10_go) da_329 19 rfl
theorem dX10_go_103 : decode cX10_go 103 = .ok (.iaload, 1) := dec_of (decode cX10_go) da_329 20 rfl
theorem dX10_go_104 : decode cX10_go 104 = .ok (.ireturn, 1) := dec_of (decode cX10_go) da_329 21 rfl
abbrev dl_330 : List (Nat × Except DecodeError (Instr × Nat)) := [(0, .ok (.aload_n 0, 1)), (1, .ok (.getfield 317, 3)), (4, .ok (.bipush 20, 2)), (6, .ok (.if_icmp .ne 39, 3)), (9, .ok (.iconst 1, 1)), (10, .ok (.istore_n 1, 1)), (11, .ok (.iload_n 1, 1)), (12, .ok (.bipush 20, 2)), (14, .ok (.if_icmp .ge 21, 3)), (17, .ok (.aload_n 0, 1)), (18, .ok (.iconst 3, 1)), (19, .ok (.iload_n 1, 1)), (20, .ok (.iadd, 1)), (21, .ok (.iconst 1, 1)), (22, .ok (.isub, 1)), (23, .ok (.iconst 3, 1)), (24, .ok (.iload_n 1, 1)), (25, .ok (.iadd, 1)), (26, .ok (.invokevirtual 404, 3)), (29, .ok (.iinc 1 1, 3)), (32, .ok (.goto (-21), 3)), (35, .ok (.aload_n 0, 1)), (36, .ok (.dup, 1)), (37, .ok (.getfield 317, 3)), (40, .ok (.iconst 1, 1)), (41, .ok (.isub, 1)), (42, .ok (.putfield 317, 3)), (45, .ok (.aload_n 0, 1)), (46, .ok (.iconst 3, 1)), (47, .ok (.aload_n 0, 1)), (48, .ok (.getfield 317, 3)), (51, .ok (.iadd, 1)), (52, .ok (.iconst 0, 1)), (53, .ok (.invokevirtual 404, 3)), (56, .ok (.aload_n 0, 1)), (57, .ok (.dup, 1)), (58, .ok (.getfield 317, 3)), (61, .ok (.iconst 1, 1)), (62, .ok (.iadd, 1)), (63, .ok (.putfield 317, 3))]
theorem da_330 : dl_330.all (fun q => decide (decode cX10_keepNow q.1 = q.2)) = true := by decide +kernel
theorem dX10_keepNow_0 : decode cX10_keepNow 0 = .ok (.aload_n 0, 1) := dec_of (decode cX10_keepNow) da_330 0 rfl
theorem dX10_keepNow_1 : decode cX10_keepNow 1 = .ok (.getfield 317, 3) := dec_of (decode cX10_keepNow) da_330 1 rfl
theorem dX10_keepNow_4 : decode cX10_keepNow 4 = .ok (.bipush 20, 2) := dec_of (decode cX10_keepNow) da_330 2 rfl
theorem dX10_keepNow_6 : decode cX10_keepNow 6 = .ok (.if_icmp .ne 39, 3) := dec_of (decode cX10_keepNow) da_330 3 rfl
theorem dX10_keepNow_9 : decode cX10_keepNow 9 = .ok (.iconst 1, 1) := dec_of (decode cX10_keepNow) da_330 4 rfl
theorem dX10_keepNow_10 : decode cX10_keepNow 10 = .ok (.istore_n 1, 1) := dec_of (decode cX10_keepNow) da_330 5 rfl
theorem dX10_keepNow_11 : decode cX10_keepNow 11 = .ok (.iload_n 1, 1) := dec_of (decode cX10_keepNow) da_330 6 rfl
theorem dX10_keepNow_12 : decode cX10_keepNow 12 = .ok (.bipush 20, 2) := dec_of (decode cX10_keepNow) da_330 7 rfl
theorem dX10_keepNow_14 : decode cX10_keepNow 14 = .ok (.if_icmp .ge 21, 3) := dec_of (decode cX10_keepNow) da_330 8 rfl
theorem dX10_keepNow_17 : decode cX10_keepNow 17 = .ok (.aload_n 0, 1) := dec_of (decode cX10_keepNow) da_330 9 rfl
theorem dX10_keepNow_18 : decode cX10_keepNow 18 = .ok (.iconst 3, 1) := dec_of (decode cX10_keepNow) da_330 10 rfl
theorem dX10_keepNow_19 : decode cX10_keepNow 19 = .ok (.iload_n 1, 1) := dec_of (decode cX10_keepNow) da_330 11 rfl
theorem dX10_keepNow_20 : decode cX10_keepNow 20 = .ok (.iadd, 1) := dec_of (decode cX10_keepNow) da_330 12 rfl
theorem dX10_keepNow_21 : decode cX10_keepNow 21 = .ok (.iconst 1, 1) := dec_of (decode cX10_keepNow) da_330 13 rfl
theorem dX10_keepNow_22 : decode cX10_keepNow 22 = .ok (.isub, 1) := dec_of (decode cX10_keepNow) da_330 14 rfl
theorem dX10_keepNow_23 : decode cX10_keepNow 23 = .ok (.iconst 3, 1) := dec_of (decode cX10_keepNow) da_330 15 rfl
theorem dX10_keepNow_24 : decode cX10_keepNow 24 = .ok (.iload_n 1, 1) := dec_of (decode cX10_keepNow) da_330 16 rfl
theorem dX10_keepNow_25 : decode cX10_keepNow 25 = .ok (.iadd, 1) := dec_of (decode cX10_keepNow) da_330 17 rfl
theorem dX10_keepNow_26 : decode cX10_keepNow 26 = .ok (.invokevirtual 404, 3) := dec_of (decode cX10_keepNow) da_330 18 rfl
theorem dX10_keepNow_29 : decode cX10_keepNow 29 = .ok (.iinc 1 1, 3) := dec_of (decode cX10_keepNow) da_330 19 rfl
theorem dX10_keepNow_32 : decode cX10_keepNow 32 = .ok (.goto (-21), 3) := dec_of (decode cX10_keepNow) da_330 20 rfl
theorem dX10_keepNow_35 : decode cX10_keepNow 35 = .ok (.aload_n 0, 1) := dec_of (decode cX10_keepNow) da_330 21 rfl
theorem dX10_keepNow_36 : decode cX10_keepNow 36 = .ok (.dup, 1) := dec_of (decode cX10_keepNow) da_330 22 rfl
theorem dX10_keepNow_37 : decode cX10_keepNow 37 = .ok (.getfield 317, 3) := dec_of (decode cX10_keepNow) da_330 23 rfl
theorem dX10_keepNow_40 : decode cX10_keepNow 40 = .ok (.iconst 1, 1) := dec_of (decode cX10_keepNow) da_330 24 rfl
theorem dX10_keepNow_41 : decode cX10_keepNow 41 = .ok (.isub, 1) := dec_of (decode cX10_keepNow) da_330 25 rfl
theorem dX10_keepNow_42 : decode cX10_keepNow 42 = .ok (.putfield 317, 3) := dec_of (decode cX10_keepNow) da_330 26 rfl
theorem dX10_keepNow_45 : decode cX10_keepNow 45 = .ok (.aload_n 0, 1) := dec_of (decode cX10_keepNow) da_330 27 rfl
theorem dX10_keepNow_46 : decode cX10_keepNow 46 = .ok (.iconst 3, 1) := dec_of (decode cX10_keepNow) da_330 28 rfl
theorem dX10_keepNow_47 : decode cX10_keepNow 47 = .ok (.aload_n 0, 1) := dec_of (decode cX10_keepNow) da_330 29 rfl
theorem dX10_keepNow_48 : decode cX10_keepNow 48 = .ok (.getfield 317, 3) := dec_of (decode cX10_keepNow) da_330 30 rfl
theorem dX10_keepNow_51 : decode cX10_keepNow 51 = .ok (.iadd, 1) := dec_of (decode cX10_keepNow) da_330 31 rfl
theorem dX10_keepNow_52 : decode cX10_keepNow 52 = .ok (.iconst 0, 1) := dec_of (decode cX10_keepNow) da_330 32 rfl
theorem dX10_keepNow_53 : decode cX10_keepNow 53 = .ok (.invokevirtual 404, 3) := dec_of (decode cX10_keepNow) da_330 33 rfl
theorem dX10_keepNow_56 : decode cX10_keepNow 56 = .ok (.aload_n 0, 1) := dec_of (decode cX10_keepNow) da_330 34 rfl
theorem dX10_keepNow_57 : decode cX10_keepNow 57 = .ok (.dup, 1) := dec_of (decode cX10_keepNow) da_330 35 rfl
theorem dX10_keepNow_58 : decode cX10_keepNow 58 = .ok (.getfield 317, 3) := dec_of (decode cX10_keepNow) da_330 36 rfl
theorem dX10_keepNow_61 : decode cX10_keepNow 61 = .ok (.iconst 1, 1) := dec_of (decode cX10_keepNow) da_330 37 rfl
theorem dX10_keepNow_62 : decode cX10_keepNow 62 = .ok (.iadd, 1) := dec_of (decode cX10_keepNow) da_330 38 rfl
theorem dX10_keepNow_63 : decode cX10_keepNow 63 = .ok (.putfield 317, 3) := dec_of (decode cX10_keepNow) da_330 39 rfl
abbrev dl_331 : List (Nat × Except DecodeError (Instr × Nat)) := [(66, .ok (.return_, 1))]
theorem da_331 : dl_331.all (fun q => decide (decode cX10_keepNow q.1 = q.2)) = true := by decide +kernel
theorem dX10_keepNow_66 : decode cX10_keepNow 66 = .ok (.return_, 1) := dec_of (decode cX10_keepNow) da_331 0 rfl
abbrev dl_332 : List (Nat × Except DecodeError (Instr × Nat)) := [(0, .ok (.aload_n 0, 1)), (1, .ok (.iconst 0, 1)), (2, .ok (.putfield 154, 3)), (5, .ok (.aload_n 0, 1)), (6, .ok (.iload_n 1, 1)), (7, .ok (.invokevirtual 433, 3)), (10, .ok (.ifCond .ne 5, 3)), (13, .ok (.iconst (-1), 1)), (14, .ok (.ireturn, 1)), (15, .ok (.aload_n 0, 1)), (16, .ok (.invokevirtual 436, 3)), (19, .ok (.aload_n 0, 1)), (20, .ok (.iconst 0, 1)), (21, .ok (.iload_n 1, 1)), (22, .ok (.aload_n 0, 1)), (23, .ok (.getfield 69, 3)), (26, .ok (.iconst 0, 1)), (27, .ok (.iaload, 1)), (28, .ok (.invokevirtual 359, 3)), (31, .ok (.aload_n 0, 1)), (32, .ok (.getfield 81, 3)), (35, .ok (.iconst 0, 1)), (36, .ok (.iaload, 1)), (37, .ok (.iconst 1, 1)), (38, .ok (.isub, 1)), (39, .ok (.ireturn, 1))]
theorem da_332 : dl_332.all (fun q => decide (decode cX10_join q.1 = q.2)) = true := by decide +kernel
theorem dX10_join_0 : decode cX10_join 0 = .ok (.aload_n 0, 1) := dec_of (decode cX10_join) da_332 0 rfl
theorem dX10_join_1 : decode cX10_join 1 = .ok (.iconst 0, 1) := dec_of (decode cX10_join) da_332 1 rfl
theorem dX10_join_2 : decode cX10_join 2 = .ok (.putfield 154, 3) := dec_of (decode cX10_join) da_332 2 rfl
theorem dX10_join_5 : decode cX10_join 5 = .ok (.aload_n 0, 1) := dec_of (decode cX10_join) da_332 3 rfl
theorem dX10_join_6 : decode cX10_join 6 = .ok (.iload_n 1, 1) := dec_of (decode cX10_join) da_332 4 rfl
theorem dX10_join_7 : decode cX10_join 7 = .ok (.invokevirtual 433, 3) := dec_of (decode cX10_join) da_332 5 rfl
theorem dX10_join_10 : decode cX10_join 10 = .ok (.ifCond .ne 5, 3) := dec_of (decode cX10_join) da_332 6 rfl
theorem dX10_join_13 : decode cX10_join 13 = .ok (.iconst (-1), 1) := dec_of (decode cX10_join) da_332 7 rfl
theorem dX10_join_14 : decode cX10_join 14 = .ok (.ireturn, 1) := dec_of (decode cX10_join) da_332 8 rfl
theorem dX10_join_15 : decode cX10_join 15 = .ok (.aload_n 0, 1) := dec_of (decode cX10_join) da_332 9 rfl
theorem dX10_join_16 : decode cX10_join 16 = .ok (.invokevirtual 436, 3) := dec_of (decode cX10_join) da_332 10 rfl
theorem dX10_join_19 : decode cX10_join 19 = .ok (.aload_n 0, 1) := dec_of (decode cX10_join) da_332 11 rfl
theorem dX10_join_20 : decode cX10_join 20 = .ok (.iconst 0, 1) := dec_of (decode cX10_join) da_332 12 rfl
theorem dX10_join_21 : decode cX10_join 21 = .ok (.iload_n 1, 1) := dec_of (decode cX10_join) da_332 13 rfl
theorem dX10_join_22 : decode cX10_join 22 = .ok (.aload_n 0, 1) := dec_of (decode cX10_join) da_332 14 rfl
theorem dX10_join_23 : decode cX10_join 23 = .ok (.getfield 69, 3) := dec_of (decode cX10_join) da_332 15 rfl
theorem dX10_join_26 : decode cX10_join 26 = .ok (.iconst 0, 1) := dec_of (decode cX10_join) da_332 16 rfl
theorem dX10_join_27 : decode cX10_join 27 = .ok (.iaload, 1) := dec_of (decode cX10_join) da_332 17 rfl
theorem dX10_join_28 : decode cX10_join 28 = .ok (.invokevirtual 359, 3) := dec_of (decode cX10_join) da_332 18 rfl
theorem dX10_join_31 : decode cX10_join 31 = .ok (.aload_n 0, 1) := dec_of (decode cX10_join) da_332 19 rfl
theorem dX10_join_32 : decode cX10_join 32 = .ok (.getfield 81, 3) := dec_of (decode cX10_join) da_332 20 rfl
theorem dX10_join_35 : decode cX10_join 35 = .ok (.iconst 0, 1) := dec_of (decode cX10_join) da_332 21 rfl
theorem dX10_join_36 : decode cX10_join 36 = .ok (.iaload, 1) := dec_of (decode cX10_join) da_332 22 rfl
theorem dX10_join_37 : decode cX10_join 37 = .ok (.iconst 1, 1) := dec_of (decode cX10_join) da_332 23 rfl
theorem dX10_join_38 : decode cX10_join 38 = .ok (.isub, 1) := dec_of (decode cX10_join) da_332 24 rfl
theorem dX10_join_39 : decode cX10_join 39 = .ok (.ireturn, 1) := dec_of (decode cX10_join) da_332 25 rfl
abbrev dl_333 : List (Nat × Except DecodeError (Instr × Nat)) := [(0, .ok (.aload_n 0, 1)), (1, .ok (.iconst 0, 1)), (2, .ok (.putfield 154, 3)), (5, .ok (.aload_n 0, 1)), (6, .ok (.iload_n 1, 1)), (7, .ok (.invokevirtual 423, 3)), (10, .ok (.ifCond .ne 5, 3)), (13, .ok (.iconst 0, 1)), (14, .ok (.ireturn, 1)), (15, .ok (.aload_n 0, 1)), (16, .ok (.invokevirtual 436, 3)), (19, .ok (.aload_n 0, 1)), (20, .ok (.iconst 0, 1)), (21, .ok (.aload_n 0, 1)), (22, .ok (.iconst 0, 1)), (23, .ok (.iload_n 1, 1)), (24, .ok (.invokevirtual 411, 3)), (27, .ok (.iconst 3, 1)), (28, .ok (.aload_n 0, 1)), (29, .ok (.getfield 69, 3)), (32, .ok (.iconst 0, 1)), (33, .ok (.iaload, 1)), (34, .ok (.invokevirtual 377, 3)), (37, .ok (.iconst 1, 1)), (38, .ok (.ireturn, 1))]
theorem da_333 : dl_333.all (fun q => decide (decode cX10_out q.1 = q.2)) = true := by decide +kernel
theorem dX10_out_0 : decode cX10_out 0 = .ok (.aload_n 0, 1) := dec_of (decode cX10_out) da_333 0 rfl
theorem dX10_out_1 : decode cX10_out 1 = .ok (.iconst 0, 1) := dec_of (decode cX10_out) da_333 1 rfl
theorem dX10_out_2 : decode cX10_out 2 = .ok (.putfield 154, 3) := dec_of (decode cX10_out) da_333 2 rfl
theorem dX10_out_5 : decode cX10_out 5 = .ok (.aload_n 0, 1) := dec_of (decode cX10_out) da_333 3 rfl
theorem dX10_out_6 : decode cX10_out 6 = .ok (.iload_n 1, 1) := dec_of (decode cX10_out) da_333 4 rfl
theorem dX10_out_7 : decode cX10_out 7 = .ok (.invokevirtual 423, 3) := dec_of (decode cX10_out) da_333 5 rfl
theorem dX10_out_10 : decode cX10_out 10 = .ok (.ifCond .ne 5, 3) := dec_of (decode cX10_out) da_333 6 rfl
theorem dX10_out_13 : decode cX10_out 13 = .ok (.iconst 0, 1) := dec_of (decode cX10_out) da_333 7 rfl
theorem dX10_out_14 : decode cX10_out 14 = .ok (.ireturn, 1) := dec_of (decode cX10_out) da_333 8 rfl
theorem dX10_out_15 : decode cX10_out 15 = .ok (.aload_n 0, 1) := dec_of (decode cX10_out) da_333 9 rfl
theorem dX10_out_16 : decode cX10_out 16 = .ok (.invokevirtual 436, 3) := dec_of (decode cX10_out) da_333 10 rfl
theorem dX10_out_19 : decode cX10_out 19 = .ok (.aload_n 0, 1) := dec_of (decode cX10_out) da_333 11 rfl
theorem dX10_out_20 : decode cX10_out 20 = .ok (.iconst 0, 1) := dec_of (decode cX10_out) da_333 12 rfl
theorem dX10_out_21 : decode cX10_out 21 = .ok (.aload_n 0, 1) := dec_of (decode cX10_out) da_333 13 rfl
theorem dX10_out_22 : decode cX10_out 22 = .ok (.iconst 0, 1) := dec_of (decode cX10_out) da_333 14 rfl
theorem dX10_out_23 : decode cX10_out 23 = .ok (.iload_n 1, 1) := dec_of (decode cX10_out) da_333 15 rfl
theorem dX10_out_24 : decode cX10_out 24 = .ok (.invokevirtual 411, 3) := dec_of (decode cX10_out) da_333 16 rfl
theorem dX10_out_27 : decode cX10_out 27 = .ok (.iconst 3, 1) := dec_of (decode cX10_out) da_333 17 rfl
theorem dX10_out_28 : decode cX10_out 28 = .ok (.aload_n 0, 1) := dec_of (decode cX10_out) da_333 18 rfl
theorem dX10_out_29 : decode cX10_out 29 = .ok (.getfield 69, 3) := dec_of (decode cX10_out) da_333 19 rfl
theorem dX10_out_32 : decode cX10_out 32 = .ok (.iconst 0, 1) := dec_of (decode cX10_out) da_333 20 rfl
theorem dX10_out_33 : decode cX10_out 33 = .ok (.iaload, 1) := dec_of (decode cX10_out) da_333 21 rfl
theorem dX10_out_34 : decode cX10_out 34 = .ok (.invokevirtual 377, 3) := dec_of (decode cX10_out) da_333 22 rfl
theorem dX10_out_37 : decode cX10_out 37 = .ok (.iconst 1, 1) := dec_of (decode cX10_out) da_333 23 rfl
theorem dX10_out_38 : decode cX10_out 38 = .ok (.ireturn, 1) := dec_of (decode cX10_out) da_333 24 rfl
abbrev dl_334 : List (Nat × Except DecodeError (Instr × Nat)) := [(0, .ok (.aload_n 0, 1)), (1, .ok (.iconst 0, 1)), (2, .ok (.putfield 154, 3)), (5, .ok (.aload_n 0, 1)), (6, .ok (.iload_n 1, 1)), (7, .ok (.invokevirtual 423, 3)), (10, .ok (.ifCond .eq 36, 3)), (13, .ok (.aload_n 0, 1)), (14, .ok (.iload_n 2, 1)), (15, .ok (.invokevirtual 423, 3)), (18, .ok (.ifCond .eq 28, 3)), (21, .ok (.iload_n 1, 1)), (22, .ok (.iload_n 2, 1)), (23, .ok (.if_icmp .eq 23, 3)), (26, .ok (.iload_n 3, 1)), (27, .ok (.ifCond .lt 19, 3)), (30, .ok (.iload_n 3, 1)), (31, .ok (.bipush 99, 2)), (33, .ok (.if_icmp .gt 13, 3)), (36, .ok (.aload_n 0, 1)), (37, .ok (.getfield 96, 3)), (40, .ok (.iload_n 1, 1)), (41, .ok (.iaload, 1)), (42, .ok (.iload_n 3, 1)), (43, .ok (.if_icmp .ge 5, 3)), (46, .ok (.iconst 0, 1)), (47, .ok (.ireturn, 1)), (48, .ok (.aload_n 0, 1)), (49, .ok (.invokevirtual 436, 3)), (52, .ok (.aload_n 0, 1)), (53, .ok (.iconst 0, 1)), (54, .ok (.iload_n 1, 1)), (55, .ok (.invokevirtual 411, 3)), (58, .ok (.istore 4, 2)), (60, .ok (.aload_n 0, 1)), (61, .ok (.iconst 0, 1)), (62, .ok (.iload_n 2, 1)), (63, .ok (.invokevirtual 411, 3)), (66, .ok (.istore 5, 2)), (68, .ok (.aload_n 0, 1))]
theorem da_334 : dl_334.all (fun q => decide (decode cX10_swap q.1 = q.2)) = true := by decide +kernel
theorem dX10_swap_0 : decode cX10_swap 0 = .ok (.aload_n 0, 1) := dec_of (decode cX10_swap) da_334 0 rfl
theorem dX10_swap_1 : decode cX10_swap 1 = .ok (.iconst 0, 1) := dec_of (decode cX10_swap) da_334 1 rfl
theorem dX10_swap_2 : decode cX10_swap 2 = .ok (.putfield 154, 3) := dec_of (decode cX10_swap) da_334 2 rfl
theorem dX10_swap_5 : decode cX10_swap 5 = .ok (.aload_n 0, 1) := dec_of (decode cX10_swap) da_334 3 rfl
theorem dX10_swap_6 : decode cX10_swap 6 = .ok (.iload_n 1, 1) := dec_of (decode cX10_swap) da_334 4 rfl
theorem dX10_swap_7 : decode cX10_swap 7 = .ok (.invokevirtual 423, 3) := dec_of (decode cX10_swap) da_334 5 rfl
theorem dX10_swap_10 : decode cX10_swap 10 = .ok (.ifCond .eq 36, 3) := dec_of (decode cX10_swap) da_334 6 rfl
theorem dX10_swap_13 : decode cX10_swap 13 = .ok (.aload_n 0, 1) := dec_of (decode cX10_swap) da_334 7 rfl
theorem dX10_swap_14 : decode cX10_swap 14 = .ok (.iload_n 2, 1) := dec_of (decode cX10_swap) da_334 8 rfl
theorem dX10_swap_15 : decode cX10_swap 15 = .ok (.invokevirtual 423, 3) := dec_of (decode cX10_swap) da_334 9 rfl
theorem dX10_swap_18 : decode cX10_swap 18 = .ok (.ifCond .eq 28, 3) := dec_of (decode cX10_swap) da_334 10 rfl
theorem dX10_swap_21 : decode cX10_swap 21 = .ok (.iload_n 1, 1) := dec_of (decode cX10_swap) da_334 11 rfl
theorem dX10_swap_22 : decode cX10_swap 22 = .ok (.iload_n 2, 1) := dec_of (decode cX10_swap) da_334 12 rfl
theorem dX10_swap_23 : decode cX10_swap 23 = .ok (.if_icmp .eq 23, 3) := dec_of (decode cX10_swap) da_334 13 rfl
theorem dX10_swap_26 : decode cX10_swap 26 = .ok (.iload_n 3, 1) := dec_of (decode cX10_swap) da_334 14 rfl
theorem dX10_swap_27 : decode cX10_swap 27 = .ok (.ifCond .lt 19, 3) := dec_of (decode cX10_swap) da_334 15 rfl
theorem dX10_swap_30 : decode cX10_swap 30 = .ok (.iload_n 3, 1) := dec_of (decode cX10_swap) da_334 16 rfl
theorem dX10_swap_31 : decode cX10_swap 31 = .ok (.bipush 99, 2) := dec_of (decode cX10_swap) da_334 17 rfl
theorem dX10_swap_33 : decode cX10_swap 33 = .ok (.if_icmp .gt 13, 3) := dec_of (decode cX10_swap) da_334 18 rfl
theorem dX10_swap_36 : decode cX10_swap 36 = .ok (.aload_n 0, 1) := dec_of (decode cX10_swap) da_334 19 rfl
theorem dX10_swap_37 : decode cX10_swap 37 = .ok (.getfield 96, 3) := dec_of (decode cX10_swap) da_334 20 rfl
theorem dX10_swap_40 : decode cX10_swap 40 = .ok (.iload_n 1, 1) := dec_of (decode cX10_swap) da_334 21 rfl
theorem dX10_swap_41 : decode cX10_swap 41 = .ok (.iaload, 1) := dec_of (decode cX10_swap) da_334 22 rfl
theorem dX10_swap_42 : decode cX10_swap 42 = .ok (.iload_n 3, 1) := dec_of (decode cX10_swap) da_334 23 rfl
theorem dX10_swap_43 : decode cX10_swap 43 = .ok (.if_icmp .ge 5, 3) := dec_of (decode cX10_swap) da_334 24 rfl
theorem dX10_swap_46 : decode cX10_swap 46 = .ok (.iconst 0, 1) := dec_of (decode cX10_swap) da_334 25 rfl
theorem dX10_swap_47 : decode cX10_swap 47 = .ok (.ireturn, 1) := dec_of (decode cX10_swap) da_334 26 rfl
theorem dX10_swap_48 : decode cX10_swap 48 = .ok (.aload_n 0, 1) := dec_of (decode cX10_swap) da_334 27 rfl
theorem dX10_swap_49 : decode cX10_swap 49 = .ok (.invokevirtual 436, 3) := dec_of (decode cX10_swap) da_334 28 rfl
theorem dX10_swap_52 : decode cX10_swap 52 = .ok (.aload_n 0, 1) := dec_of (decode cX10_swap) da_334 29 rfl
theorem dX10_swap_53 : decode cX10_swap 53 = .ok (.iconst 0, 1) := dec_of (decode cX10_swap) da_334 30 rfl
theorem dX10_swap_54 : decode cX10_swap 54 = .ok (.iload_n 1, 1) := dec_of (decode cX10_swap) da_334 31 rfl
theorem dX10_swap_55 : decode cX10_swap 55 = .ok (.invokevirtual 411, 3) := dec_of (decode cX10_swap) da_334 32 rfl
theorem dX10_swap_58 : decode cX10_swap 58 = .ok (.istore 4, 2) := dec_of (decode cX10_swap) da_334 33 rfl
theorem dX10_swap_60 : decode cX10_swap 60 = .ok (.aload_n 0, 1) := dec_of (decode cX10_swap) da_334 34 rfl
theorem dX10_swap_61 : decode cX10_swap 61 = .ok (.iconst 0, 1) := dec_of (decode cX10_swap) da_334 35 rfl
theorem dX10_swap_62 : decode cX10_swap 62 = .ok (.iload_n 2, 1) := dec_of (decode cX10_swap) da_334 36 rfl
theorem dX10_swap_63 : decode cX10_swap 63 = .ok (.invokevirtual 411, 3) := dec_of (decode cX10_swap) da_334 37 rfl
theorem dX10_swap_66 : decode cX10_swap 66 = .ok (.istore 5, 2) := dec_of (decode cX10_swap) da_334 38 rfl
theorem dX10_swap_68 : decode cX10_swap 68 = .ok (.aload_n 0, 1) := dec_of (decode cX10_swap) da_334 39 rfl
abbrev dl_335 : List (Nat × Except DecodeError (Instr × Nat)) := [(69, .ok (.getfield 84, 3)), (72, .ok (.iload 4, 2)), (74, .ok (.iload_n 2, 1)), (75, .ok (.iastore, 1)), (76, .ok (.aload_n 0, 1)), (77, .ok (.getfield 84, 3)), (80, .ok (.iload 5, 2)), (82, .ok (.iload_n 1, 1)), (83, .ok (.iastore, 1)), (84, .ok (.aload_n 0, 1)), (85, .ok (.getfield 96, 3)), (88, .ok (.iload_n 1, 1)), (89, .ok (.dup2, 1)), (90, .ok (.iaload, 1)), (91, .ok (.iload_n 3, 1)), (92, .ok (.isub, 1)), (93, .ok (.iastore, 1)), (94, .ok (.aload_n 0, 1)), (95, .ok (.getfield 96, 3)), (98, .ok (.iload_n 2, 1)), (99, .ok (.dup2, 1)), (100, .ok (.iaload, 1)), (101, .ok (.iload_n 3, 1)), (102, .ok (.iadd, 1)), (103, .ok (.iastore, 1)), (104, .ok (.iconst 1, 1)), (105, .ok (.ireturn, 1))]
theorem da_335 : dl_335.all (fun q => decide (decode cX10_swap q.1 = q.2)) = true := by decide +kernel
theorem dX10_swap_69 : decode cX10_swap 69 = .ok (.getfield 84, 3) := dec_of (decode cX10_swap) da_335 0 rfl
theorem dX10_swap_72 : decode cX10_swap 72 = .ok (.iload 4, 2) := dec_of (decode cX10_swap) da_335 1 rfl
theorem dX10_swap_74 : decode cX10_swap 74 = .ok (.iload_n 2, 1) := dec_of (decode cX10_swap) da_335 2 rfl
theorem dX10_swap_75 : decode cX10_swap 75 = .ok (.iastore, 1) := dec_of (decode cX10_swap) da_335 3 rfl
theorem dX10_swap_76 : decode cX10_swap 76 = .ok (.aload_n 0, 1) := dec_of (decode cX10_swap) da_335 4 rfl
theorem dX10_swap_77 : decode cX10_swap 77 = .ok (.getfield 84, 3) := dec_of (decode cX10_swap) da_335 5 rfl
theorem dX10_swap_80 : decode cX10_swap 80 = .ok (.iload 5, 2) := dec_of (decode cX10_swap) da_335 6 rfl
theorem dX10_swap_82 : decode cX10_swap 82 = .ok (.iload_n 1, 1) := dec_of (decode cX10_swap) da_335 7 rfl
theorem dX10_swap_83 : decode cX10_swap 83 = .ok (.iastore, 1) := dec_of (decode cX10_swap) da_335 8 rfl
theorem dX10_swap_84 : decode cX10_swap 84 = .ok (.aload_n 0, 1) := dec_of (decode cX10_swap) da_335 9 rfl
theorem dX10_swap_85 : decode cX10_swap 85 = .ok (.getfield 96, 3) := dec_of (decode cX10_swap) da_335 10 rfl
theorem dX10_swap_88 : decode cX10_swap 88 = .ok (.iload_n 1, 1) := dec_of (decode cX10_swap) da_335 11 rfl
theorem dX10_swap_89 : decode cX10_swap 89 = .ok (.dup2, 1) := dec_of (decode cX10_swap) da_335 12 rfl
theorem dX10_swap_90 : decode cX10_swap 90 = .ok (.iaload, 1) := dec_of (decode cX10_swap) da_335 13 rfl
theorem dX10_swap_91 : decode cX10_swap 91 = .ok (.iload_n 3, 1) := dec_of (decode cX10_swap) da_335 14 rfl
theorem dX10_swap_92 : decode cX10_swap 92 = .ok (.isub, 1) := dec_of (decode cX10_swap) da_335 15 rfl
theorem dX10_swap_93 : decode cX10_swap 93 = .ok (.iastore, 1) := dec_of (decode cX10_swap) da_335 16 rfl
theorem dX10_swap_94 : decode cX10_swap 94 = .ok (.aload_n 0, 1) := dec_of (decode cX10_swap) da_335 17 rfl
theorem dX10_swap_95 : decode cX10_swap 95 = .ok (.getfield 96, 3) := dec_of (decode cX10_swap) da_335 18 rfl
theorem dX10_swap_98 : decode cX10_swap 98 = .ok (.iload_n 2, 1) := dec_of (decode cX10_swap) da_335 19 rfl
theorem dX10_swap_99 : decode cX10_swap 99 = .ok (.dup2, 1) := dec_of (decode cX10_swap) da_335 20 rfl
theorem dX10_swap_100 : decode cX10_swap 100 = .ok (.iaload, 1) := dec_of (decode cX10_swap) da_335 21 rfl
theorem dX10_swap_101 : decode cX10_swap 101 = .ok (.iload_n 3, 1) := dec_of (decode cX10_swap) da_335 22 rfl
theorem dX10_swap_102 : decode cX10_swap 102 = .ok (.iadd, 1) := dec_of (decode cX10_swap) da_335 23 rfl
theorem dX10_swap_103 : decode cX10_swap 103 = .ok (.iastore, 1) := dec_of (decode cX10_swap) da_335 24 rfl
theorem dX10_swap_104 : decode cX10_swap 104 = .ok (.iconst 1, 1) := dec_of (decode cX10_swap) da_335 25 rfl
theorem dX10_swap_105 : decode cX10_swap 105 = .ok (.ireturn, 1) := dec_of (decode cX10_swap) da_335 26 rfl
abbrev dl_336 : List (Nat × Except DecodeError (Instr × Nat)) := [(0, .ok (.aload_n 0, 1)), (1, .ok (.iconst 0, 1)), (2, .ok (.putfield 154, 3)), (5, .ok (.aload_n 0, 1)), (6, .ok (.iload_n 1, 1)), (7, .ok (.invokevirtual 423, 3)), (10, .ok (.ifCond .eq 24, 3)), (13, .ok (.iload_n 2, 1)), (14, .ok (.iconst 1, 1)), (15, .ok (.if_icmp .lt 19, 3)), (18, .ok (.iload_n 2, 1)), (19, .ok (.bipush 20, 2)), (21, .ok (.if_icmp .gt 13, 3)), (24, .ok (.aload_n 0, 1)), (25, .ok (.getfield 108, 3)), (28, .ok (.iload_n 1, 1)), (29, .ok (.iaload, 1)), (30, .ok (.iload_n 2, 1)), (31, .ok (.if_icmp .ne 5, 3)), (34, .ok (.iconst 0, 1)), (35, .ok (.ireturn, 1)), (36, .ok (.aload_n 0, 1)), (37, .ok (.invokevirtual 436, 3)), (40, .ok (.aload_n 0, 1)), (41, .ok (.getfield 108, 3)), (44, .ok (.iload_n 1, 1)), (45, .ok (.iload_n 2, 1)), (46, .ok (.iastore, 1)), (47, .ok (.iconst 1, 1)), (48, .ok (.ireturn, 1))]
theorem da_336 : dl_336.all (fun q => decide (decode cX10_kneel q.1 = q.2)) = true := by decide +kernel
theorem dX10_kneel_0 : decode cX10_kneel 0 = .ok (.aload_n 0, 1) := dec_of (decode cX10_kneel) da_336 0 rfl
theorem dX10_kneel_1 : decode cX10_kneel 1 = .ok (.iconst 0, 1) := dec_of (decode cX10_kneel) da_336 1 rfl
theorem dX10_kneel_2 : decode cX10_kneel 2 = .ok (.putfield 154, 3) := dec_of (decode cX10_kneel) da_336 2 rfl
theorem dX10_kneel_5 : decode cX10_kneel 5 = .ok (.aload_n 0, 1) := dec_of (decode cX10_kneel) da_336 3 rfl
theorem dX10_kneel_6 : decode cX10_kneel 6 = .ok (.iload_n 1, 1) := dec_of (decode cX10_kneel) da_336 4 rfl
theorem dX10_kneel_7 : decode cX10_kneel 7 = .ok (.invokevirtual 423, 3) := dec_of (decode cX10_kneel) da_336 5 rfl
theorem dX10_kneel_10 : decode cX10_kneel 10 = .ok (.ifCond .eq 24, 3) := dec_of (decode cX10_kneel) da_336 6 rfl
theorem dX10_kneel_13 : decode cX10_kneel 13 = .ok (.iload_n 2, 1) := dec_of (decode cX10_kneel) da_336 7 rfl
theorem dX10_kneel_14 : decode cX10_kneel 14 = .ok (.iconst 1, 1) := dec_of (decode cX10_kneel) da_336 8 rfl
theorem dX10_kneel_15 : decode cX10_kneel 15 = .ok (.if_icmp .lt 19, 3) := dec_of (decode cX10_kneel) da_336 9 rfl
theorem dX10_kneel_18 : decode cX10_kneel 18 = .ok (.iload_n 2, 1) := dec_of (decode cX10_kneel) da_336 10 rfl
theorem dX10_kneel_19 : decode cX10_kneel 19 = .ok (.bipush 20, 2) := dec_of (decode cX10_kneel) da_336 11 rfl
theorem dX10_kneel_21 : decode cX10_kneel 21 = .ok (.if_icmp .gt 13, 3) := dec_of (decode cX10_kneel) da_336 12 rfl
theorem dX10_kneel_24 : decode cX10_kneel 24 = .ok (.aload_n 0, 1) := dec_of (decode cX10_kneel) da_336 13 rfl
theorem dX10_kneel_25 : decode cX10_kneel 25 = .ok (.getfield 108, 3) := dec_of (decode cX10_kneel) da_336 14 rfl
theorem dX10_kneel_28 : decode cX10_kneel 28 = .ok (.iload_n 1, 1) := dec_of (decode cX10_kneel) da_336 15 rfl
theorem dX10_kneel_29 : decode cX10_kneel 29 = .ok (.iaload, 1) := dec_of (decode cX10_kneel) da_336 16 rfl
theorem dX10_kneel_30 : decode cX10_kneel 30 = .ok (.iload_n 2, 1) := dec_of (decode cX10_kneel) da_336 17 rfl
theorem dX10_kneel_31 : decode cX10_kneel 31 = .ok (.if_icmp .ne 5, 3) := dec_of (decode cX10_kneel) da_336 18 rfl
theorem dX10_kneel_34 : decode cX10_kneel 34 = .ok (.iconst 0, 1) := dec_of (decode cX10_kneel) da_336 19 rfl
theorem dX10_kneel_35 : decode cX10_kneel 35 = .ok (.ireturn, 1) := dec_of (decode cX10_kneel) da_336 20 rfl
theorem dX10_kneel_36 : decode cX10_kneel 36 = .ok (.aload_n 0, 1) := dec_of (decode cX10_kneel) da_336 21 rfl
theorem dX10_kneel_37 : decode cX10_kneel 37 = .ok (.invokevirtual 436, 3) := dec_of (decode cX10_kneel) da_336 22 rfl
theorem dX10_kneel_40 : decode cX10_kneel 40 = .ok (.aload_n 0, 1) := dec_of (decode cX10_kneel) da_336 23 rfl
theorem dX10_kneel_41 : decode cX10_kneel 41 = .ok (.getfield 108, 3) := dec_of (decode cX10_kneel) da_336 24 rfl
theorem dX10_kneel_44 : decode cX10_kneel 44 = .ok (.iload_n 1, 1) := dec_of (decode cX10_kneel) da_336 25 rfl
theorem dX10_kneel_45 : decode cX10_kneel 45 = .ok (.iload_n 2, 1) := dec_of (decode cX10_kneel) da_336 26 rfl
theorem dX10_kneel_46 : decode cX10_kneel 46 = .ok (.iastore, 1) := dec_of (decode cX10_kneel) da_336 27 rfl
theorem dX10_kneel_47 : decode cX10_kneel 47 = .ok (.iconst 1, 1) := dec_of (decode cX10_kneel) da_336 28 rfl
theorem dX10_kneel_48 : decode cX10_kneel 48 = .ok (.ireturn, 1) := dec_of (decode cX10_kneel) da_336 29 rfl
abbrev dl_337 : List (Nat × Except DecodeError (Instr × Nat)) := [(0, .ok (.aload_n 0, 1)), (1, .ok (.iconst 0, 1)), (2, .ok (.putfield 154, 3)), (5, .ok (.aload_n 0, 1)), (6, .ok (.iload_n 1, 1)), (7, .ok (.invokevirtual 423, 3)), (10, .ok (.ifCond .eq 17, 3)), (13, .ok (.aload_n 0, 1)), (14, .ok (.getfield 78, 3)), (17, .ok (.iconst 0, 1)), (18, .ok (.iaload, 1)), (19, .ok (.iload_n 1, 1)), (20, .ok (.ishr, 1)), (21, .ok (.iconst 1, 1)), (22, .ok (.iand, 1)), (23, .ok (.iconst 1, 1)), (24, .ok (.if_icmp .ne 5, 3)), (27, .ok (.iconst 0, 1)), (28, .ok (.ireturn, 1)), (29, .ok (.aload_n 0, 1)), (30, .ok (.invokevirtual 436, 3)), (33, .ok (.aload_n 0, 1)), (34, .ok (.getfield 78, 3)), (37, .ok (.iconst 0, 1)), (38, .ok (.dup2, 1)), (39, .ok (.iaload, 1)), (40, .ok (.iconst 1, 1)), (41, .ok (.iload_n 1, 1)), (42, .ok (.ishl, 1)), (43, .ok (.ior, 1)), (44, .ok (.iastore, 1)), (45, .ok (.iconst 1, 1)), (46, .ok (.ireturn, 1))]
theorem da_337 : dl_337.all (fun q => decide (decode cX10_cough q.1 = q.2)) = true := by decide +kernel
theorem dX10_cough_0 : decode cX10_cough 0 = .ok (.aload_n 0, 1) := dec_of (decode cX10_cough) da_337 0 rfl
theorem dX10_cough_1 : decode cX10_cough 1 = .ok (.iconst 0, 1) := dec_of (decode cX10_cough) da_337 1 rfl
theorem dX10_cough_2 : decode cX10_cough 2 = .ok (.putfield 154, 3) := dec_of (decode cX10_cough) da_337 2 rfl
theorem dX10_cough_5 : decode cX10_cough 5 = .ok (.aload_n 0, 1) := dec_of (decode cX10_cough) da_337 3 rfl
theorem dX10_cough_6 : decode cX10_cough 6 = .ok (.iload_n 1, 1) := dec_of (decode cX10_cough) da_337 4 rfl
theorem dX10_cough_7 : decode cX10_cough 7 = .ok (.invokevirtual 423, 3) := dec_of (decode cX10_cough) da_337 5 rfl
theorem dX10_cough_10 : decode cX10_cough 10 = .ok (.ifCond .eq 17, 3) := dec_of (decode cX10_cough) da_337 6 rfl
theorem dX10_cough_13 : decode cX10_cough 13 = .ok (.aload_n 0, 1) := dec_of (decode cX10_cough) da_337 7 rfl
theorem dX10_cough_14 : decode cX10_cough 14 = .ok (.getfield 78, 3) := dec_of (decode cX10_cough) da_337 8 rfl
theorem dX10_cough_17 : decode cX10_cough 17 = .ok (.iconst 0, 1) := dec_of (decode cX10_cough) da_337 9 rfl
theorem dX10_cough_18 : decode cX10_cough 18 = .ok (.iaload, 1) := dec_of (decode cX10_cough) da_337 10 rfl
theorem dX10_cough_19 : decode cX10_cough 19 = .ok (.iload_n 1, 1) := dec_of (decode cX10_cough) da_337 11 rfl
theorem dX10_cough_20 : decode cX10_cough 20 = .ok (.ishr, 1) := dec_of (decode cX10_cough) da_337 12 rfl
theorem dX10_cough_21 : decode cX10_cough 21 = .ok (.iconst 1, 1) := dec_of (decode cX10_cough) da_337 13 rfl
theorem dX10_cough_22 : decode cX10_cough 22 = .ok (.iand, 1) := dec_of (decode cX10_cough) da_337 14 rfl
theorem dX10_cough_23 : decode cX10_cough 23 = .ok (.iconst 1, 1) := dec_of (decode cX10_cough) da_337 15 rfl
theorem dX10_cough_24 : decode cX10_cough 24 = .ok (.if_icmp .ne 5, 3) := dec_of (decode cX10_cough) da_337 16 rfl
theorem dX10_cough_27 : decode cX10_cough 27 = .ok (.iconst 0, 1) := dec_of (decode cX10_cough) da_337 17 rfl
theorem dX10_cough_28 : decode cX10_cough 28 = .ok (.ireturn, 1) := dec_of (decode cX10_cough) da_337 18 rfl
theorem dX10_cough_29 : decode cX10_cough 29 = .ok (.aload_n 0, 1) := dec_of (decode cX10_cough) da_337 19 rfl
theorem dX10_cough_30 : decode cX10_cough 30 = .ok (.invokevirtual 436, 3) := dec_of (decode cX10_cough) da_337 20 rfl
theorem dX10_cough_33 : decode cX10_cough 33 = .ok (.aload_n 0, 1) := dec_of (decode cX10_cough) da_337 21 rfl
theorem dX10_cough_34 : decode cX10_cough 34 = .ok (.getfield 78, 3) := dec_of (decode cX10_cough) da_337 22 rfl
theorem dX10_cough_37 : decode cX10_cough 37 = .ok (.iconst 0, 1) := dec_of (decode cX10_cough) da_337 23 rfl
theorem dX10_cough_38 : decode cX10_cough 38 = .ok (.dup2, 1) := dec_of (decode cX10_cough) da_337 24 rfl
theorem dX10_cough_39 : decode cX10_cough 39 = .ok (.iaload, 1) := dec_of (decode cX10_cough) da_337 25 rfl
theorem dX10_cough_40 : decode cX10_cough 40 = .ok (.iconst 1, 1) := dec_of (decode cX10_cough) da_337 26 rfl
theorem dX10_cough_41 : decode cX10_cough 41 = .ok (.iload_n 1, 1) := dec_of (decode cX10_cough) da_337 27 rfl
theorem dX10_cough_42 : decode cX10_cough 42 = .ok (.ishl, 1) := dec_of (decode cX10_cough) da_337 28 rfl
theorem dX10_cough_43 : decode cX10_cough 43 = .ok (.ior, 1) := dec_of (decode cX10_cough) da_337 29 rfl
theorem dX10_cough_44 : decode cX10_cough 44 = .ok (.iastore, 1) := dec_of (decode cX10_cough) da_337 30 rfl
theorem dX10_cough_45 : decode cX10_cough 45 = .ok (.iconst 1, 1) := dec_of (decode cX10_cough) da_337 31 rfl
theorem dX10_cough_46 : decode cX10_cough 46 = .ok (.ireturn, 1) := dec_of (decode cX10_cough) da_337 32 rfl
abbrev dl_338 : List (Nat × Except DecodeError (Instr × Nat)) := [(0, .ok (.aload_n 0, 1)), (1, .ok (.iconst 0, 1)), (2, .ok (.putfield 154, 3)), (5, .ok (.iload_n 1, 1)), (6, .ok (.invokestatic 420, 3)), (9, .ok (.ifCond .eq 20, 3)), (12, .ok (.iload_n 2, 1)), (13, .ok (.invokestatic 414, 3)), (16, .ok (.ifCond .eq 13, 3)), (19, .ok (.aload_n 0, 1)), (20, .ok (.getfield 114, 3)), (23, .ok (.iload_n 1, 1)), (24, .ok (.iaload, 1)), (25, .ok (.iload_n 2, 1)), (26, .ok (.if_icmp .ne 5, 3)), (29, .ok (.iconst 0, 1)), (30, .ok (.ireturn, 1)), (31, .ok (.aload_n 0, 1)), (32, .ok (.invokevirtual 436, 3)), (35, .ok (.aload_n 0, 1)), (36, .ok (.getfield 114, 3)), (39, .ok (.iload_n 1, 1)), (40, .ok (.iload_n 2, 1)), (41, .ok (.iastore, 1)), (42, .ok (.iconst 1, 1)), (43, .ok (.ireturn, 1))]
theorem da_338 : dl_338.all (fun q => decide (decode cX10_move q.1 = q.2)) = true := by decide +kernel
theorem dX10_move_0 : decode cX10_move 0 = .ok (.aload_n 0, 1) := dec_of (decode cX10_move) da_338 0 rfl
theorem dX10_move_1 : decode cX10_move 1 = .ok (.iconst 0, 1) := dec_of (decode cX10_move) da_338 1 rfl
theorem dX10_move_2 : decode cX10_move 2 = .ok (.putfield 154, 3) := dec_of (decode cX10_move) da_338 2 rfl
theorem dX10_move_5 : decode cX10_move 5 = .ok (.iload_n 1, 1) := dec_of (decode cX10_move) da_338 3 rfl
theorem dX10_move_6 : decode cX10_move 6 = .ok (.invokestatic 420, 3) := dec_of (decode cX10_move) da_338 4 rfl
theorem dX10_move_9 : decode cX10_move 9 = .ok (.ifCond .eq 20, 3) := dec_of (decode cX10_move) da_338 5 rfl
theorem dX10_move_12 : decode cX10_move 12 = .ok (.iload_n 2, 1) := dec_of (decode cX10_move) da_338 6 rfl
theorem dX10_move_13 : decode cX10_move 13 = .ok (.invokestatic 414, 3) := dec_of (decode cX10_move) da_338 7 rfl
theorem dX10_move_16 : decode cX10_move 16 = .ok (.ifCond .eq 13, 3) := dec_of (decode cX10_move) da_338 8 rfl
theorem dX10_move_19 : decode cX10_move 19 = .ok (.aload_n 0, 1) := dec_of (decode cX10_move) da_338 9 rfl
theorem dX10_move_20 : decode cX10_move 20 = .ok (.getfield 114, 3) := dec_of (decode cX10_move) da_338 10 rfl
theorem dX10_move_23 : decode cX10_move 23 = .ok (.iload_n 1, 1) := dec_of (decode cX10_move) da_338 11 rfl
theorem dX10_move_24 : decode cX10_move 24 = .ok (.iaload, 1) := dec_of (decode cX10_move) da_338 12 rfl
theorem dX10_move_25 : decode cX10_move 25 = .ok (.iload_n 2, 1) := dec_of (decode cX10_move) da_338 13 rfl
theorem dX10_move_26 : decode cX10_move 26 = .ok (.if_icmp .ne 5, 3) := dec_of (decode cX10_move) da_338 14 rfl
theorem dX10_move_29 : decode cX10_move 29 = .ok (.iconst 0, 1) := dec_of (decode cX10_move) da_338 15 rfl
theorem dX10_move_30 : decode cX10_move 30 = .ok (.ireturn, 1) := dec_of (decode cX10_move) da_338 16 rfl
theorem dX10_move_31 : decode cX10_move 31 = .ok (.aload_n 0, 1) := dec_of (decode cX10_move) da_338 17 rfl
theorem dX10_move_32 : decode cX10_move 32 = .ok (.invokevirtual 436, 3) := dec_of (decode cX10_move) da_338 18 rfl
theorem dX10_move_35 : decode cX10_move 35 = .ok (.aload_n 0, 1) := dec_of (decode cX10_move) da_338 19 rfl
theorem dX10_move_36 : decode cX10_move 36 = .ok (.getfield 114, 3) := dec_of (decode cX10_move) da_338 20 rfl
theorem dX10_move_39 : decode cX10_move 39 = .ok (.iload_n 1, 1) := dec_of (decode cX10_move) da_338 21 rfl
theorem dX10_move_40 : decode cX10_move 40 = .ok (.iload_n 2, 1) := dec_of (decode cX10_move) da_338 22 rfl
theorem dX10_move_41 : decode cX10_move 41 = .ok (.iastore, 1) := dec_of (decode cX10_move) da_338 23 rfl
theorem dX10_move_42 : decode cX10_move 42 = .ok (.iconst 1, 1) := dec_of (decode cX10_move) da_338 24 rfl
theorem dX10_move_43 : decode cX10_move 43 = .ok (.ireturn, 1) := dec_of (decode cX10_move) da_338 25 rfl
abbrev dl_339 : List (Nat × Except DecodeError (Instr × Nat)) := [(0, .ok (.iload_n 1, 1)), (1, .ok (.ifCond .lt 17, 3)), (4, .ok (.iload_n 1, 1)), (5, .ok (.aload_n 0, 1)), (6, .ok (.getfield 69, 3)), (9, .ok (.iconst 0, 1)), (10, .ok (.iaload, 1)), (11, .ok (.if_icmp .ge 7, 3)), (14, .ok (.iconst 1, 1)), (15, .ok (.goto 4, 3)), (18, .ok (.iconst 0, 1)), (19, .ok (.ireturn, 1))]
theorem da_339 : dl_339.all (fun q => decide (decode cX10_isGone q.1 = q.2)) = true := by decide +kernel
theorem dX10_isGone_0 : decode cX10_isGone 0 = .ok (.iload_n 1, 1) := dec_of (decode cX10_isGone) da_339 0 rfl
theorem dX10_isGone_1 : decode cX10_isGone 1 = .ok (.ifCond .lt 17, 3) := dec_of (decode cX10_isGone) da_339 1 rfl
theorem dX10_isGone_4 : decode cX10_isGone 4 = .ok (.iload_n 1, 1) := dec_of (decode cX10_isGone) da_339 2 rfl
theorem dX10_isGone_5 : decode cX10_isGone 5 = .ok (.aload_n 0, 1) := dec_of (decode cX10_isGone) da_339 3 rfl
theorem dX10_isGone_6 : decode cX10_isGone 6 = .ok (.getfield 69, 3) := dec_of (decode cX10_isGone) da_339 4 rfl
theorem dX10_isGone_9 : decode cX10_isGone 9 = .ok (.iconst 0, 1) := dec_of (decode cX10_isGone) da_339 5 rfl
theorem dX10_isGone_10 : decode cX10_isGone 10 = .ok (.iaload, 1) := dec_of (decode cX10_isGone) da_339 6 rfl
theorem dX10_isGone_11 : decode cX10_isGone 11 = .ok (.if_icmp .ge 7, 3) := dec_of (decode cX10_isGone) da_339 7 rfl
theorem dX10_isGone_14 : decode cX10_isGone 14 = .ok (.iconst 1, 1) := dec_of (decode cX10_isGone) da_339 8 rfl
theorem dX10_isGone_15 : decode cX10_isGone 15 = .ok (.goto 4, 3) := dec_of (decode cX10_isGone) da_339 9 rfl
theorem dX10_isGone_18 : decode cX10_isGone 18 = .ok (.iconst 0, 1) := dec_of (decode cX10_isGone) da_339 10 rfl
theorem dX10_isGone_19 : decode cX10_isGone 19 = .ok (.ireturn, 1) := dec_of (decode cX10_isGone) da_339 11 rfl
abbrev dl_340 : List (Nat × Except DecodeError (Instr × Nat)) := [(0, .ok (.aload_n 0, 1)), (1, .ok (.iconst 0, 1)), (2, .ok (.putfield 154, 3)), (5, .ok (.iload_n 1, 1)), (6, .ok (.invokestatic 420, 3)), (9, .ok (.ifCond .eq 24, 3)), (12, .ok (.aload_n 0, 1)), (13, .ok (.iload_n 2, 1)), (14, .ok (.invokevirtual 439, 3)), (17, .ok (.ifCond .eq 16, 3)), (20, .ok (.aload_n 0, 1)), (21, .ok (.getfield 117, 3)), (24, .ok (.iconst 3, 1)), (25, .ok (.iload_n 2, 1)), (26, .ok (.imul, 1)), (27, .ok (.iload_n 1, 1)), (28, .ok (.iadd, 1)), (29, .ok (.iaload, 1)), (30, .ok (.goto 4, 3)), (33, .ok (.iconst (-1), 1)), (34, .ok (.ireturn, 1))]
theorem da_340 : dl_340.all (fun q => decide (decode cX10_was q.1 = q.2)) = true := by decide +kernel
theorem dX10_was_0 : decode cX10_was 0 = .ok (.aload_n 0, 1) := dec_of (decode cX10_was) da_340 0 rfl
theorem dX10_was_1 : decode cX10_was 1 = .ok (.iconst 0, 1) := dec_of (decode cX10_was) da_340 1 rfl
theorem dX10_was_2 : decode cX10_was 2 = .ok (.putfield 154, 3) := dec_of (decode cX10_was) da_340 2 rfl
theorem dX10_was_5 : decode cX10_was 5 = .ok (.iload_n 1, 1) := dec_of (decode cX10_was) da_340 3 rfl
theorem dX10_was_6 : decode cX10_was 6 = .ok (.invokestatic 420, 3) := dec_of (decode cX10_was) da_340 4 rfl
theorem dX10_was_9 : decode cX10_was 9 = .ok (.ifCond .eq 24, 3) := dec_of (decode cX10_was) da_340 5 rfl
theorem dX10_was_12 : decode cX10_was 12 = .ok (.aload_n 0, 1) := dec_of (decode cX10_was) da_340 6 rfl
theorem dX10_was_13 : decode cX10_was 13 = .ok (.iload_n 2, 1) := dec_of (decode cX10_was) da_340 7 rfl
theorem dX10_was_14 : decode cX10_was 14 = .ok (.invokevirtual 439, 3) := dec_of (decode cX10_was) da_340 8 rfl
theorem dX10_was_17 : decode cX10_was 17 = .ok (.ifCond .eq 16, 3) := dec_of (decode cX10_was) da_340 9 rfl
theorem dX10_was_20 : decode cX10_was 20 = .ok (.aload_n 0, 1) := dec_of (decode cX10_was) da_340 10 rfl
theorem dX10_was_21 : decode cX10_was 21 = .ok (.getfield 117, 3) := dec_of (decode cX10_was) da_340 11 rfl
theorem dX10_was_24 : decode cX10_was 24 = .ok (.iconst 3, 1) := dec_of (decode cX10_was) da_340 12 rfl
theorem dX10_was_25 : decode cX10_was 25 = .ok (.iload_n 2, 1) := dec_of (decode cX10_was) da_340 13 rfl
theorem dX10_was_26 : decode cX10_was 26 = .ok (.imul, 1) := dec_of (decode cX10_was) da_340 14 rfl
theorem dX10_was_27 : decode cX10_was 27 = .ok (.iload_n 1, 1) := dec_of (decode cX10_was) da_340 15 rfl
theorem dX10_was_28 : decode cX10_was 28 = .ok (.iadd, 1) := dec_of (decode cX10_was) da_340 16 rfl
theorem dX10_was_29 : decode cX10_was 29 = .ok (.iaload, 1) := dec_of (decode cX10_was) da_340 17 rfl
theorem dX10_was_30 : decode cX10_was 30 = .ok (.goto 4, 3) := dec_of (decode cX10_was) da_340 18 rfl
theorem dX10_was_33 : decode cX10_was 33 = .ok (.iconst (-1), 1) := dec_of (decode cX10_was) da_340 19 rfl
theorem dX10_was_34 : decode cX10_was 34 = .ok (.ireturn, 1) := dec_of (decode cX10_was) da_340 20 rfl
abbrev dl_341 : List (Nat × Except DecodeError (Instr × Nat)) := [(0, .ok (.aload_n 0, 1)), (1, .ok (.iconst 0, 1)), (2, .ok (.putfield 154, 3)), (5, .ok (.aload_n 0, 1)), (6, .ok (.iload_n 1, 1)), (7, .ok (.invokevirtual 356, 3)), (10, .ok (.ifCond .eq 10, 3)), (13, .ok (.iload_n 2, 1)), (14, .ok (.invokestatic 420, 3)), (17, .ok (.ifCond .ne 5, 3)), (20, .ok (.iconst (-1), 1)), (21, .ok (.ireturn, 1)), (22, .ok (.iconst 0, 1)), (23, .ok (.istore_n 3, 1)), (24, .ok (.iconst 0, 1)), (25, .ok (.istore 4, 2)), (27, .ok (.iload 4, 2)), (29, .ok (.aload_n 0, 1)), (30, .ok (.getfield 69, 3)), (33, .ok (.iconst 0, 1)), (34, .ok (.iaload, 1)), (35, .ok (.if_icmp .ge 32, 3)), (38, .ok (.iload_n 3, 1)), (39, .ok (.aload_n 0, 1)), (40, .ok (.getfield 117, 3)), (43, .ok (.iconst 3, 1)), (44, .ok (.iload 4, 2)), (46, .ok (.imul, 1)), (47, .ok (.iload_n 2, 1)), (48, .ok (.iadd, 1)), (49, .ok (.iaload, 1)), (50, .ok (.iload_n 1, 1)), (51, .ok (.if_icmp .ne 7, 3)), (54, .ok (.iconst 1, 1)), (55, .ok (.goto 4, 3)), (58, .ok (.iconst 0, 1)), (59, .ok (.iadd, 1)), (60, .ok (.istore_n 3, 1)), (61, .ok (.iinc 4 1, 3)), (64, .ok (.goto (-37), 3))]
theorem da_341 : dl_341.all (fun q => decide (decode cX10_ruled q.1 = q.2)) = true := by decide +kernel
theorem dX10_ruled_0 : decode cX10_ruled 0 = .ok (.aload_n 0, 1) := dec_of (decode cX10_ruled) da_341 0 rfl
theorem dX10_ruled_1 : decode cX10_ruled 1 = .ok (.iconst 0, 1) := dec_of (decode cX10_ruled) da_341 1 rfl
theorem dX10_ruled_2 : decode cX10_ruled 2 = .ok (.putfield 154, 3) := dec_of (decode cX10_ruled) da_341 2 rfl
theorem dX10_ruled_5 : decode cX10_ruled 5 = .ok (.aload_n 0, 1) := dec_of (decode cX10_ruled) da_341 3 rfl
theorem dX10_ruled_6 : decode cX10_ruled 6 = .ok (.iload_n 1, 1) := dec_of (decode cX10_ruled) da_341 4 rfl
theorem dX10_ruled_7 : decode cX10_ruled 7 = .ok (.invokevirtual 356, 3) := dec_of (decode cX10_ruled) da_341 5 rfl
theorem dX10_ruled_10 : decode cX10_ruled 10 = .ok (.ifCond .eq 10, 3) := dec_of (decode cX10_ruled) da_341 6 rfl
theorem dX10_ruled_13 : decode cX10_ruled 13 = .ok (.iload_n 2, 1) := dec_of (decode cX10_ruled) da_341 7 rfl
theorem dX10_ruled_14 : decode cX10_ruled 14 = .ok (.invokestatic 420, 3) := dec_of (decode cX10_ruled) da_341 8 rfl
theorem dX10_ruled_17 : decode cX10_ruled 17 = .ok (.ifCond .ne 5, 3) := dec_of (decode cX10_ruled) da_341 9 rfl
theorem dX10_ruled_20 : decode cX10_ruled 20 = .ok (.iconst (-1), 1) := dec_of (decode cX10_ruled) da_341 10 rfl
theorem dX10_ruled_21 : decode cX10_ruled 21 = .ok (.ireturn, 1) := dec_of (decode cX10_ruled) da_341 11 rfl
theorem dX10_ruled_22 : decode cX10_ruled 22 = .ok (.iconst 0, 1) := dec_of (decode cX10_ruled) da_341 12 rfl
theorem dX10_ruled_23 : decode cX10_ruled 23 = .ok (.istore_n 3, 1) := dec_of (decode cX10_ruled) da_341 13 rfl
theorem dX10_ruled_24 : decode cX10_ruled 24 = .ok (.iconst 0, 1) := dec_of (decode cX10_ruled) da_341 14 rfl
theorem dX10_ruled_25 : decode cX10_ruled 25 = .ok (.istore 4, 2) := dec_of (decode cX10_ruled) da_341 15 rfl
theorem dX10_ruled_27 : decode cX10_ruled 27 = .ok (.iload 4, 2) := dec_of (decode cX10_ruled) da_341 16 rfl
theorem dX10_ruled_29 : decode cX10_ruled 29 = .ok (.aload_n 0, 1) := dec_of (decode cX10_ruled) da_341 17 rfl
theorem dX10_ruled_30 : decode cX10_ruled 30 = .ok (.getfield 69, 3) := dec_of (decode cX10_ruled) da_341 18 rfl
theorem dX10_ruled_33 : decode cX10_ruled 33 = .ok (.iconst 0, 1) := dec_of (decode cX10_ruled) da_341 19 rfl
theorem dX10_ruled_34 : decode cX10_ruled 34 = .ok (.iaload, 1) := dec_of (decode cX10_ruled) da_341 20 rfl
theorem dX10_ruled_35 : decode cX10_ruled 35 = .ok (.if_icmp .ge 32, 3) := dec_of (decode cX10_ruled) da_341 21 rfl
theorem dX10_ruled_38 : decode cX10_ruled 38 = .ok (.iload_n 3, 1) := dec_of (decode cX10_ruled) da_341 22 rfl
theorem dX10_ruled_39 : decode cX10_ruled 39 = .ok (.aload_n 0, 1) := dec_of (decode cX10_ruled) da_341 23 rfl
theorem dX10_ruled_40 : decode cX10_ruled 40 = .ok (.getfield 117, 3) := dec_of (decode cX10_ruled) da_341 24 rfl
theorem dX10_ruled_43 : decode cX10_ruled 43 = .ok (.iconst 3, 1) := dec_of (decode cX10_ruled) da_341 25 rfl
theorem dX10_ruled_44 : decode cX10_ruled 44 = .ok (.iload 4, 2) := dec_of (decode cX10_ruled) da_341 26 rfl
theorem dX10_ruled_46 : decode cX10_ruled 46 = .ok (.imul, 1) := dec_of (decode cX10_ruled) da_341 27 rfl
theorem dX10_ruled_47 : decode cX10_ruled 47 = .ok (.iload_n 2, 1) := dec_of (decode cX10_ruled) da_341 28 rfl
theorem dX10_ruled_48 : decode cX10_ruled 48 = .ok (.iadd, 1) := dec_of (decode cX10_ruled) da_341 29 rfl
theorem dX10_ruled_49 : decode cX10_ruled 49 = .ok (.iaload, 1) := dec_of (decode cX10_ruled) da_341 30 rfl
theorem dX10_ruled_50 : decode cX10_ruled 50 = .ok (.iload_n 1, 1) := dec_of (decode cX10_ruled) da_341 31 rfl
theorem dX10_ruled_51 : decode cX10_ruled 51 = .ok (.if_icmp .ne 7, 3) := dec_of (decode cX10_ruled) da_341 32 rfl
theorem dX10_ruled_54 : decode cX10_ruled 54 = .ok (.iconst 1, 1) := dec_of (decode cX10_ruled) da_341 33 rfl
theorem dX10_ruled_55 : decode cX10_ruled 55 = .ok (.goto 4, 3) := dec_of (decode cX10_ruled) da_341 34 rfl
theorem dX10_ruled_58 : decode cX10_ruled 58 = .ok (.iconst 0, 1) := dec_of (decode cX10_ruled) da_341 35 rfl
theorem dX10_ruled_59 : decode cX10_ruled 59 = .ok (.iadd, 1) := dec_of (decode cX10_ruled) da_341 36 rfl
theorem dX10_ruled_60 : decode cX10_ruled 60 = .ok (.istore_n 3, 1) := dec_of (decode cX10_ruled) da_341 37 rfl
theorem dX10_ruled_61 : decode cX10_ruled 61 = .ok (.iinc 4 1, 3) := dec_of (decode cX10_ruled) da_341 38 rfl
theorem dX10_ruled_64 : decode cX10_ruled 64 = .ok (.goto (-37), 3) := dec_of (decode cX10_ruled) da_341 39 rfl
abbrev dl_342 : List (Nat × Except DecodeError (Instr × Nat)) := [(67, .ok (.iload_n 3, 1)), (68, .ok (.ireturn, 1))]
theorem da_342 : dl_342.all (fun q => decide (decode cX10_ruled q.1 = q.2)) = true := by decide +kernel
theorem dX10_ruled_67 : decode cX10_ruled 67 = .ok (.iload_n 3, 1) := dec_of (decode cX10_ruled) da_342 0 rfl
theorem dX10_ruled_68 : decode cX10_ruled 68 = .ok (.ireturn, 1) := dec_of (decode cX10_ruled) da_342 1 rfl
abbrev dl_343 : List (Nat × Except DecodeError (Instr × Nat)) := [(0, .ok (.aload_n 0, 1)), (1, .ok (.iconst 0, 1)), (2, .ok (.putfield 154, 3)), (5, .ok (.aload_n 0, 1)), (6, .ok (.iload_n 1, 1)), (7, .ok (.invokevirtual 356, 3)), (10, .ok (.ifCond .ne 5, 3)), (13, .ok (.iconst (-1), 1)), (14, .ok (.ireturn, 1)), (15, .ok (.aload_n 0, 1)), (16, .ok (.invokevirtual 442, 3)), (19, .ok (.aload_n 0, 1)), (20, .ok (.aload_n 0, 1)), (21, .ok (.invokevirtual 430, 3)), (24, .ok (.invokevirtual 445, 3)), (27, .ok (.aload_n 0, 1)), (28, .ok (.getfield 111, 3)), (31, .ok (.bipush 8, 2)), (33, .ok (.iload_n 1, 1)), (34, .ok (.iadd, 1)), (35, .ok (.iaload, 1)), (36, .ok (.ireturn, 1))]
theorem da_343 : dl_343.all (fun q => decide (decode cX10_served q.1 = q.2)) = true := by decide +kernel
theorem dX10_served_0 : decode cX10_served 0 = .ok (.aload_n 0, 1) := dec_of (decode cX10_served) da_343 0 rfl
theorem dX10_served_1 : decode cX10_served 1 = .ok (.iconst 0, 1) := dec_of (decode cX10_served) da_343 1 rfl
theorem dX10_served_2 : decode cX10_served 2 = .ok (.putfield 154, 3) := dec_of (decode cX10_served) da_343 2 rfl
theorem dX10_served_5 : decode cX10_served 5 = .ok (.aload_n 0, 1) := dec_of (decode cX10_served) da_343 3 rfl
theorem dX10_served_6 : decode cX10_served 6 = .ok (.iload_n 1, 1) := dec_of (decode cX10_served) da_343 4 rfl
theorem dX10_served_7 : decode cX10_served 7 = .ok (.invokevirtual 356, 3) := dec_of (decode cX10_served) da_343 5 rfl
theorem dX10_served_10 : decode cX10_served 10 = .ok (.ifCond .ne 5, 3) := dec_of (decode cX10_served) da_343 6 rfl
theorem dX10_served_13 : decode cX10_served 13 = .ok (.iconst (-1), 1) := dec_of (decode cX10_served) da_343 7 rfl
theorem dX10_served_14 : decode cX10_served 14 = .ok (.ireturn, 1) := dec_of (decode cX10_served) da_343 8 rfl
theorem dX10_served_15 : decode cX10_served 15 = .ok (.aload_n 0, 1) := dec_of (decode cX10_served) da_343 9 rfl
theorem dX10_served_16 : decode cX10_served 16 = .ok (.invokevirtual 442, 3) := dec_of (decode cX10_served) da_343 10 rfl
theorem dX10_served_19 : decode cX10_served 19 = .ok (.aload_n 0, 1) := dec_of (decode cX10_served) da_343 11 rfl
theorem dX10_served_20 : decode cX10_served 20 = .ok (.aload_n 0, 1) := dec_of (decode cX10_served) da_343 12 rfl
theorem dX10_served_21 : decode cX10_served 21 = .ok (.invokevirtual 430, 3) := dec_of (decode cX10_served) da_343 13 rfl
theorem dX10_served_24 : decode cX10_served 24 = .ok (.invokevirtual 445, 3) := dec_of (decode cX10_served) da_343 14 rfl
theorem dX10_served_27 : decode cX10_served 27 = .ok (.aload_n 0, 1) := dec_of (decode cX10_served) da_343 15 rfl
theorem dX10_served_28 : decode cX10_served 28 = .ok (.getfield 111, 3) := dec_of (decode cX10_served) da_343 16 rfl
theorem dX10_served_31 : decode cX10_served 31 = .ok (.bipush 8, 2) := dec_of (decode cX10_served) da_343 17 rfl
theorem dX10_served_33 : decode cX10_served 33 = .ok (.iload_n 1, 1) := dec_of (decode cX10_served) da_343 18 rfl
theorem dX10_served_34 : decode cX10_served 34 = .ok (.iadd, 1) := dec_of (decode cX10_served) da_343 19 rfl
theorem dX10_served_35 : decode cX10_served 35 = .ok (.iaload, 1) := dec_of (decode cX10_served) da_343 20 rfl
theorem dX10_served_36 : decode cX10_served 36 = .ok (.ireturn, 1) := dec_of (decode cX10_served) da_343 21 rfl
abbrev dl_344 : List (Nat × Except DecodeError (Instr × Nat)) := [(0, .ok (.aload_n 0, 1)), (1, .ok (.iconst 0, 1)), (2, .ok (.putfield 154, 3)), (5, .ok (.aload_n 0, 1)), (6, .ok (.iload_n 1, 1)), (7, .ok (.invokevirtual 433, 3)), (10, .ok (.ifCond .eq 26, 3)), (13, .ok (.iload_n 2, 1)), (14, .ok (.invokestatic 414, 3)), (17, .ok (.ifCond .eq 19, 3)), (20, .ok (.iload_n 3, 1)), (21, .ok (.aload_n 0, 1)), (22, .ok (.getfield 69, 3)), (25, .ok (.iconst 0, 1)), (26, .ok (.iaload, 1)), (27, .ok (.if_icmp .lt 9, 3)), (30, .ok (.iload_n 3, 1)), (31, .ok (.bipush 120, 2)), (33, .ok (.if_icmp .lt 5, 3)), (36, .ok (.iconst (-1), 1)), (37, .ok (.ireturn, 1)), (38, .ok (.aload_n 0, 1)), (39, .ok (.getfield 69, 3)), (42, .ok (.iconst 0, 1)), (43, .ok (.iaload, 1)), (44, .ok (.istore 4, 2)), (46, .ok (.iload 4, 2)), (48, .ok (.iload_n 3, 1)), (49, .ok (.if_icmp .gt 51, 3)), (52, .ok (.aload_n 0, 1)), (53, .ok (.invokevirtual 442, 3)), (56, .ok (.aload_n 0, 1)), (57, .ok (.getfield 99, 3)), (60, .ok (.bipush 8, 2)), (62, .ok (.iload_n 1, 1)), (63, .ok (.iadd, 1)), (64, .ok (.iload 4, 2)), (66, .ok (.iastore, 1)), (67, .ok (.aload_n 0, 1)), (68, .ok (.iload_n 3, 1))]
theorem da_344 : dl_344.all (fun q => decide (decode cX10_coming q.1 = q.2)) = true := by decide +kernel
theorem dX10_coming_0 : decode cX10_coming 0 = .ok (.aload_n 0, 1) := dec_of (decode cX10_coming) da_344 0 rfl
theorem dX10_coming_1 : decode cX10_coming 1 = .ok (.iconst 0, 1) := dec_of (decode cX10_coming) da_344 1 rfl
theorem dX10_coming_2 : decode cX10_coming 2 = .ok (.putfield 154, 3) := dec_of (decode cX10_coming) da_344 2 rfl
theorem dX10_coming_5 : decode cX10_coming 5 = .ok (.aload_n 0, 1) := dec_of (decode cX10_coming) da_344 3 rfl
theorem dX10_coming_6 : decode cX10_coming 6 = .ok (.iload_n 1, 1) := dec_of (decode cX10_coming) da_344 4 rfl
theorem dX10_coming_7 : decode cX10_coming 7 = .ok (.invokevirtual 433, 3) := dec_of (decode cX10_coming) da_344 5 rfl
theorem dX10_coming_10 : decode cX10_coming 10 = .ok (.ifCond .eq 26, 3) := dec_of (decode cX10_coming) da_344 6 rfl
theorem dX10_coming_13 : decode cX10_coming 13 = .ok (.iload_n 2, 1) := dec_of (decode cX10_coming) da_344 7 rfl
theorem dX10_coming_14 : decode cX10_coming 14 = .ok (.invokestatic 414, 3) := dec_of (decode cX10_coming) da_344 8 rfl
theorem dX10_coming_17 : decode cX10_coming 17 = .ok (.ifCond .eq 19, 3) := dec_of (decode cX10_coming) da_344 9 rfl
theorem dX10_coming_20 : decode cX10_coming 20 = .ok (.iload_n 3, 1) := dec_of (decode cX10_coming) da_344 10 rfl
theorem dX10_coming_21 : decode cX10_coming 21 = .ok (.aload_n 0, 1) := dec_of (decode cX10_coming) da_344 11 rfl
theorem dX10_coming_22 : decode cX10_coming 22 = .ok (.getfield 69, 3) := dec_of (decode cX10_coming) da_344 12 rfl
theorem dX10_coming_25 : decode cX10_coming 25 = .ok (.iconst 0, 1) := dec_of (decode cX10_coming) da_344 13 rfl
theorem dX10_coming_26 : decode cX10_coming 26 = .ok (.iaload, 1) := dec_of (decode cX10_coming) da_344 14 rfl
theorem dX10_coming_27 : decode cX10_coming 27 = .ok (.if_icmp .lt 9, 3) := dec_of (decode cX10_coming) da_344 15 rfl
theorem dX10_coming_30 : decode cX10_coming 30 = .ok (.iload_n 3, 1) := dec_of (decode cX10_coming) da_344 16 rfl
theorem dX10_coming_31 : decode cX10_coming 31 = .ok (.bipush 120, 2) := dec_of (decode cX10_coming) da_344 17 rfl
theorem dX10_coming_33 : decode cX10_coming 33 = .ok (.if_icmp .lt 5, 3) := dec_of (decode cX10_coming) da_344 18 rfl
theorem dX10_coming_36 : decode cX10_coming 36 = .ok (.iconst (-1), 1) := dec_of (decode cX10_coming) da_344 19 rfl
theorem dX10_coming_37 : decode cX10_coming 37 = .ok (.ireturn, 1) := dec_of (decode cX10_coming) da_344 20 rfl
theorem dX10_coming_38 : decode cX10_coming 38 = .ok (.aload_n 0, 1) := dec_of (decode cX10_coming) da_344 21 rfl
theorem dX10_coming_39 : decode cX10_coming 39 = .ok (.getfield 69, 3) := dec_of (decode cX10_coming) da_344 22 rfl
theorem dX10_coming_42 : decode cX10_coming 42 = .ok (.iconst 0, 1) := dec_of (decode cX10_coming) da_344 23 rfl
theorem dX10_coming_43 : decode cX10_coming 43 = .ok (.iaload, 1) := dec_of (decode cX10_coming) da_344 24 rfl
theorem dX10_coming_44 : decode cX10_coming 44 = .ok (.istore 4, 2) := dec_of (decode cX10_coming) da_344 25 rfl
theorem dX10_coming_46 : decode cX10_coming 46 = .ok (.iload 4, 2) := dec_of (decode cX10_coming) da_344 26 rfl
theorem dX10_coming_48 : decode cX10_coming 48 = .ok (.iload_n 3, 1) := dec_of (decode cX10_coming) da_344 27 rfl
theorem dX10_coming_49 : decode cX10_coming 49 = .ok (.if_icmp .gt 51, 3) := dec_of (decode cX10_coming) da_344 28 rfl
theorem dX10_coming_52 : decode cX10_coming 52 = .ok (.aload_n 0, 1) := dec_of (decode cX10_coming) da_344 29 rfl
theorem dX10_coming_53 : decode cX10_coming 53 = .ok (.invokevirtual 442, 3) := dec_of (decode cX10_coming) da_344 30 rfl
theorem dX10_coming_56 : decode cX10_coming 56 = .ok (.aload_n 0, 1) := dec_of (decode cX10_coming) da_344 31 rfl
theorem dX10_coming_57 : decode cX10_coming 57 = .ok (.getfield 99, 3) := dec_of (decode cX10_coming) da_344 32 rfl
theorem dX10_coming_60 : decode cX10_coming 60 = .ok (.bipush 8, 2) := dec_of (decode cX10_coming) da_344 33 rfl
theorem dX10_coming_62 : decode cX10_coming 62 = .ok (.iload_n 1, 1) := dec_of (decode cX10_coming) da_344 34 rfl
theorem dX10_coming_63 : decode cX10_coming 63 = .ok (.iadd, 1) := dec_of (decode cX10_coming) da_344 35 rfl
theorem dX10_coming_64 : decode cX10_coming 64 = .ok (.iload 4, 2) := dec_of (decode cX10_coming) da_344 36 rfl
theorem dX10_coming_66 : decode cX10_coming 66 = .ok (.iastore, 1) := dec_of (decode cX10_coming) da_344 37 rfl
theorem dX10_coming_67 : decode cX10_coming 67 = .ok (.aload_n 0, 1) := dec_of (decode cX10_coming) da_344 38 rfl
theorem dX10_coming_68 : decode cX10_coming 68 = .ok (.iload_n 3, 1) := dec_of (decode cX10_coming) da_344 39 rfl
abbrev dl_345 : List (Nat × Except DecodeError (Instr × Nat)) := [(69, .ok (.iconst 1, 1)), (70, .ok (.iadd, 1)), (71, .ok (.aload_n 0, 1)), (72, .ok (.getfield 69, 3)), (75, .ok (.iconst 0, 1)), (76, .ok (.iaload, 1)), (77, .ok (.isub, 1)), (78, .ok (.invokevirtual 445, 3)), (81, .ok (.aload_n 0, 1)), (82, .ok (.iconst 1, 1)), (83, .ok (.iload_n 2, 1)), (84, .ok (.invokevirtual 417, 3)), (87, .ok (.iload_n 1, 1)), (88, .ok (.if_icmp .ne 6, 3)), (91, .ok (.iload 4, 2)), (93, .ok (.ireturn, 1)), (94, .ok (.iinc 4 1, 3)), (97, .ok (.goto (-51), 3)), (100, .ok (.bipush (-2), 2)), (102, .ok (.ireturn, 1))]
theorem da_345 : dl_345.all (fun q => decide (decode cX10_coming q.1 = q.2)) = true := by decide +kernel
theorem dX10_coming_69 : decode cX10_coming 69 = .ok (.iconst 1, 1) := dec_of (decode cX10_coming) da_345 0 rfl
theorem dX10_coming_70 : decode cX10_coming 70 = .ok (.iadd, 1) := dec_of (decode cX10_coming) da_345 1 rfl
theorem dX10_coming_71 : decode cX10_coming 71 = .ok (.aload_n 0, 1) := dec_of (decode cX10_coming) da_345 2 rfl
theorem dX10_coming_72 : decode cX10_coming 72 = .ok (.getfield 69, 3) := dec_of (decode cX10_coming) da_345 3 rfl
theorem dX10_coming_75 : decode cX10_coming 75 = .ok (.iconst 0, 1) := dec_of (decode cX10_coming) da_345 4 rfl
theorem dX10_coming_76 : decode cX10_coming 76 = .ok (.iaload, 1) := dec_of (decode cX10_coming) da_345 5 rfl
theorem dX10_coming_77 : decode cX10_coming 77 = .ok (.isub, 1) := dec_of (decode cX10_coming) da_345 6 rfl
theorem dX10_coming_78 : decode cX10_coming 78 = .ok (.invokevirtual 445, 3) := dec_of (decode cX10_coming) da_345 7 rfl
theorem dX10_coming_81 : decode cX10_coming 81 = .ok (.aload_n 0, 1) := dec_of (decode cX10_coming) da_345 8 rfl
theorem dX10_coming_82 : decode cX10_coming 82 = .ok (.iconst 1, 1) := dec_of (decode cX10_coming) da_345 9 rfl
theorem dX10_coming_83 : decode cX10_coming 83 = .ok (.iload_n 2, 1) := dec_of (decode cX10_coming) da_345 10 rfl
theorem dX10_coming_84 : decode cX10_coming 84 = .ok (.invokevirtual 417, 3) := dec_of (decode cX10_coming) da_345 11 rfl
theorem dX10_coming_87 : decode cX10_coming 87 = .ok (.iload_n 1, 1) := dec_of (decode cX10_coming) da_345 12 rfl
theorem dX10_coming_88 : decode cX10_coming 88 = .ok (.if_icmp .ne 6, 3) := dec_of (decode cX10_coming) da_345 13 rfl
theorem dX10_coming_91 : decode cX10_coming 91 = .ok (.iload 4, 2) := dec_of (decode cX10_coming) da_345 14 rfl
theorem dX10_coming_93 : decode cX10_coming 93 = .ok (.ireturn, 1) := dec_of (decode cX10_coming) da_345 15 rfl
theorem dX10_coming_94 : decode cX10_coming 94 = .ok (.iinc 4 1, 3) := dec_of (decode cX10_coming) da_345 16 rfl
theorem dX10_coming_97 : decode cX10_coming 97 = .ok (.goto (-51), 3) := dec_of (decode cX10_coming) da_345 17 rfl
theorem dX10_coming_100 : decode cX10_coming 100 = .ok (.bipush (-2), 2) := dec_of (decode cX10_coming) da_345 18 rfl
theorem dX10_coming_102 : decode cX10_coming 102 = .ok (.ireturn, 1) := dec_of (decode cX10_coming) da_345 19 rfl
abbrev dl_346 : List (Nat × Except DecodeError (Instr × Nat)) := [(0, .ok (.iconst 0, 1)), (1, .ok (.istore_n 1, 1)), (2, .ok (.iconst 0, 1)), (3, .ok (.istore_n 2, 1)), (4, .ok (.iload_n 2, 1)), (5, .ok (.bipush 8, 2)), (7, .ok (.if_icmp .ge 17, 3)), (10, .ok (.iload_n 1, 1)), (11, .ok (.iload_n 0, 1)), (12, .ok (.iload_n 2, 1)), (13, .ok (.ishr, 1)), (14, .ok (.iconst 1, 1)), (15, .ok (.iand, 1)), (16, .ok (.iadd, 1)), (17, .ok (.istore_n 1, 1)), (18, .ok (.iinc 2 1, 3)), (21, .ok (.goto (-17), 3)), (24, .ok (.iload_n 1, 1)), (25, .ok (.ireturn, 1))]
theorem da_346 : dl_346.all (fun q => decide (decode cX10_bitsOf q.1 = q.2)) = true := by decide +kernel
theorem dX10_bitsOf_0 : decode cX10_bitsOf 0 = .ok (.iconst 0, 1) := dec_of (decode cX10_bitsOf) da_346 0 rfl
theorem dX10_bitsOf_1 : decode cX10_bitsOf 1 = .ok (.istore_n 1, 1) := dec_of (decode cX10_bitsOf) da_346 1 rfl
theorem dX10_bitsOf_2 : decode cX10_bitsOf 2 = .ok (.iconst 0, 1) := dec_of (decode cX10_bitsOf) da_346 2 rfl
theorem dX10_bitsOf_3 : decode cX10_bitsOf 3 = .ok (.istore_n 2, 1) := dec_of (decode cX10_bitsOf) da_346 3 rfl
theorem dX10_bitsOf_4 : decode cX10_bitsOf 4 = .ok (.iload_n 2, 1) := dec_of (decode cX10_bitsOf) da_346 4 rfl
theorem dX10_bitsOf_5 : decode cX10_bitsOf 5 = .ok (.bipush 8, 2) := dec_of (decode cX10_bitsOf) da_346 5 rfl
theorem dX10_bitsOf_7 : decode cX10_bitsOf 7 = .ok (.if_icmp .ge 17, 3) := dec_of (decode cX10_bitsOf) da_346 6 rfl
theorem dX10_bitsOf_10 : decode cX10_bitsOf 10 = .ok (.iload_n 1, 1) := dec_of (decode cX10_bitsOf) da_346 7 rfl
theorem dX10_bitsOf_11 : decode cX10_bitsOf 11 = .ok (.iload_n 0, 1) := dec_of (decode cX10_bitsOf) da_346 8 rfl
theorem dX10_bitsOf_12 : decode cX10_bitsOf 12 = .ok (.iload_n 2, 1) := dec_of (decode cX10_bitsOf) da_346 9 rfl
theorem dX10_bitsOf_13 : decode cX10_bitsOf 13 = .ok (.ishr, 1) := dec_of (decode cX10_bitsOf) da_346 10 rfl
theorem dX10_bitsOf_14 : decode cX10_bitsOf 14 = .ok (.iconst 1, 1) := dec_of (decode cX10_bitsOf) da_346 11 rfl
theorem dX10_bitsOf_15 : decode cX10_bitsOf 15 = .ok (.iand, 1) := dec_of (decode cX10_bitsOf) da_346 12 rfl
theorem dX10_bitsOf_16 : decode cX10_bitsOf 16 = .ok (.iadd, 1) := dec_of (decode cX10_bitsOf) da_346 13 rfl
theorem dX10_bitsOf_17 : decode cX10_bitsOf 17 = .ok (.istore_n 1, 1) := dec_of (decode cX10_bitsOf) da_346 14 rfl
theorem dX10_bitsOf_18 : decode cX10_bitsOf 18 = .ok (.iinc 2 1, 3) := dec_of (decode cX10_bitsOf) da_346 15 rfl
theorem dX10_bitsOf_21 : decode cX10_bitsOf 21 = .ok (.goto (-17), 3) := dec_of (decode cX10_bitsOf) da_346 16 rfl
theorem dX10_bitsOf_24 : decode cX10_bitsOf 24 = .ok (.iload_n 1, 1) := dec_of (decode cX10_bitsOf) da_346 17 rfl
theorem dX10_bitsOf_25 : decode cX10_bitsOf 25 = .ok (.ireturn, 1) := dec_of (decode cX10_bitsOf) da_346 18 rfl
abbrev dl_347 : List (Nat × Except DecodeError (Instr × Nat)) := [(0, .ok (.aload_n 0, 1)), (1, .ok (.iconst 0, 1)), (2, .ok (.putfield 154, 3)), (5, .ok (.iload_n 1, 1)), (6, .ok (.iconst 1, 1)), (7, .ok (.if_icmp .lt 27, 3)), (10, .ok (.iload_n 1, 1)), (11, .ok (.bipush 8, 2)), (13, .ok (.if_icmp .gt 21, 3)), (16, .ok (.iload_n 2, 1)), (17, .ok (.ifCond .lt 17, 3)), (20, .ok (.iload_n 2, 1)), (21, .ok (.iload_n 1, 1)), (22, .ok (.if_icmp .gt 12, 3)), (25, .ok (.iload_n 3, 1)), (26, .ok (.ifCond .lt 8, 3)), (29, .ok (.iload_n 3, 1)), (30, .ok (.iconst 1, 1)), (31, .ok (.if_icmp .le 5, 3)), (34, .ok (.iconst (-1), 1)), (35, .ok (.ireturn, 1)), (36, .ok (.iconst 0, 1)), (37, .ok (.istore 4, 2)), (39, .ok (.iconst 0, 1)), (40, .ok (.istore 5, 2)), (42, .ok (.iconst 0, 1)), (43, .ok (.istore 6, 2)), (45, .ok (.iload 6, 2)), (47, .ok (.iload_n 1, 1)), (48, .ok (.if_icmp .ge 56, 3)), (51, .ok (.iload 6, 2)), (53, .ok (.aload_n 0, 1)), (54, .ok (.getfield 81, 3)), (57, .ok (.iconst 0, 1)), (58, .ok (.iaload, 1)), (59, .ok (.if_icmp .ge 45, 3)), (62, .ok (.aload_n 0, 1)), (63, .ok (.getfield 40, 3)), (66, .ok (.aload_n 0, 1)), (67, .ok (.getfield 84, 3))]
theorem da_347 : dl_347.all (fun q => decide (decode cX10_decree q.1 = q.2)) = true := by decide +kernel
theorem dX10_decree_0 : decode cX10_decree 0 = .ok (.aload_n 0, 1) := dec_of (decode cX10_decree) da_347 0 rfl
theorem dX10_decree_1 : decode cX10_decree 1 = .ok (.iconst 0, 1) := dec_of (decode cX10_decree) da_347 1 rfl
theorem dX10_decree_2 : decode cX10_decree 2 = .ok (.putfield 154, 3) := dec_of (decode cX10_decree) da_347 2 rfl
theorem dX10_decree_5 : decode cX10_decree 5 = .ok (.iload_n 1, 1) := dec_of (decode cX10_decree) da_347 3 rfl
theorem dX10_decree_6 : decode cX10_decree 6 = .ok (.iconst 1, 1) := dec_of (decode cX10_decree) da_347 4 rfl
theorem dX10_decree_7 : decode cX10_decree 7 = .ok (.if_icmp .lt 27, 3) := dec_of (decode cX10_decree) da_347 5 rfl
theorem dX10_decree_10 : decode cX10_decree 10 = .ok (.iload_n 1, 1) := dec_of (decode cX10_decree) da_347 6 rfl
theorem dX10_decree_11 : decode cX10_decree 11 = .ok (.bipush 8, 2) := dec_of (decode cX10_decree) da_347 7 rfl
theorem dX10_decree_13 : decode cX10_decree 13 = .ok (.if_icmp .gt 21, 3) := dec_of (decode cX10_decree) da_347 8 rfl
theorem dX10_decree_16 : decode cX10_decree 16 = .ok (.iload_n 2, 1) := dec_of (decode cX10_decree) da_347 9 rfl
theorem dX10_decree_17 : decode cX10_decree 17 = .ok (.ifCond .lt 17, 3) := dec_of (decode cX10_decree) da_347 10 rfl
theorem dX10_decree_20 : decode cX10_decree 20 = .ok (.iload_n 2, 1) := dec_of (decode cX10_decree) da_347 11 rfl
theorem dX10_decree_21 : decode cX10_decree 21 = .ok (.iload_n 1, 1) := dec_of (decode cX10_decree) da_347 12 rfl
theorem dX10_decree_22 : decode cX10_decree 22 = .ok (.if_icmp .gt 12, 3) := dec_of (decode cX10_decree) da_347 13 rfl
theorem dX10_decree_25 : decode cX10_decree 25 = .ok (.iload_n 3, 1) := dec_of (decode cX10_decree) da_347 14 rfl
theorem dX10_decree_26 : decode cX10_decree 26 = .ok (.ifCond .lt 8, 3) := dec_of (decode cX10_decree) da_347 15 rfl
theorem dX10_decree_29 : decode cX10_decree 29 = .ok (.iload_n 3, 1) := dec_of (decode cX10_decree) da_347 16 rfl
theorem dX10_decree_30 : decode cX10_decree 30 = .ok (.iconst 1, 1) := dec_of (decode cX10_decree) da_347 17 rfl
theorem dX10_decree_31 : decode cX10_decree 31 = .ok (.if_icmp .le 5, 3) := dec_of (decode cX10_decree) da_347 18 rfl
theorem dX10_decree_34 : decode cX10_decree 34 = .ok (.iconst (-1), 1) := dec_of (decode cX10_decree) da_347 19 rfl
theorem dX10_decree_35 : decode cX10_decree 35 = .ok (.ireturn, 1) := dec_of (decode cX10_decree) da_347 20 rfl
theorem dX10_decree_36 : decode cX10_decree 36 = .ok (.iconst 0, 1) := dec_of (decode cX10_decree) da_347 21 rfl
theorem dX10_decree_37 : decode cX10_decree 37 = .ok (.istore 4, 2) := dec_of (decode cX10_decree) da_347 22 rfl
theorem dX10_decree_39 : decode cX10_decree 39 = .ok (.iconst 0, 1) := dec_of (decode cX10_decree) da_347 23 rfl
theorem dX10_decree_40 : decode cX10_decree 40 = .ok (.istore 5, 2) := dec_of (decode cX10_decree) da_347 24 rfl
theorem dX10_decree_42 : decode cX10_decree 42 = .ok (.iconst 0, 1) := dec_of (decode cX10_decree) da_347 25 rfl
theorem dX10_decree_43 : decode cX10_decree 43 = .ok (.istore 6, 2) := dec_of (decode cX10_decree) da_347 26 rfl
theorem dX10_decree_45 : decode cX10_decree 45 = .ok (.iload 6, 2) := dec_of (decode cX10_decree) da_347 27 rfl
theorem dX10_decree_47 : decode cX10_decree 47 = .ok (.iload_n 1, 1) := dec_of (decode cX10_decree) da_347 28 rfl
theorem dX10_decree_48 : decode cX10_decree 48 = .ok (.if_icmp .ge 56, 3) := dec_of (decode cX10_decree) da_347 29 rfl
theorem dX10_decree_51 : decode cX10_decree 51 = .ok (.iload 6, 2) := dec_of (decode cX10_decree) da_347 30 rfl
theorem dX10_decree_53 : decode cX10_decree 53 = .ok (.aload_n 0, 1) := dec_of (decode cX10_decree) da_347 31 rfl
theorem dX10_decree_54 : decode cX10_decree 54 = .ok (.getfield 81, 3) := dec_of (decode cX10_decree) da_347 32 rfl
theorem dX10_decree_57 : decode cX10_decree 57 = .ok (.iconst 0, 1) := dec_of (decode cX10_decree) da_347 33 rfl
theorem dX10_decree_58 : decode cX10_decree 58 = .ok (.iaload, 1) := dec_of (decode cX10_decree) da_347 34 rfl
theorem dX10_decree_59 : decode cX10_decree 59 = .ok (.if_icmp .ge 45, 3) := dec_of (decode cX10_decree) da_347 35 rfl
theorem dX10_decree_62 : decode cX10_decree 62 = .ok (.aload_n 0, 1) := dec_of (decode cX10_decree) da_347 36 rfl
theorem dX10_decree_63 : decode cX10_decree 63 = .ok (.getfield 40, 3) := dec_of (decode cX10_decree) da_347 37 rfl
theorem dX10_decree_66 : decode cX10_decree 66 = .ok (.aload_n 0, 1) := dec_of (decode cX10_decree) da_347 38 rfl
theorem dX10_decree_67 : decode cX10_decree 67 = .ok (.getfield 84, 3) := dec_of (decode cX10_decree) da_347 39 rfl
abbrev dl_348 : List (Nat × Except DecodeError (Instr × Nat)) := [(70, .ok (.iload 6, 2)), (72, .ok (.iaload, 1)), (73, .ok (.iaload, 1)), (74, .ok (.iconst 1, 1)), (75, .ok (.if_icmp .ne 9, 3)), (78, .ok (.iinc 5 1, 3)), (81, .ok (.goto 17, 3)), (84, .ok (.iload 4, 2)), (86, .ok (.iconst 1, 1)), (87, .ok (.aload_n 0, 1)), (88, .ok (.getfield 84, 3)), (91, .ok (.iload 6, 2)), (93, .ok (.iaload, 1)), (94, .ok (.ishl, 1)), (95, .ok (.ior, 1)), (96, .ok (.istore 4, 2)), (98, .ok (.iinc 6 1, 3)), (101, .ok (.goto (-56), 3)), (104, .ok (.iconst (-1), 1)), (105, .ok (.istore 6, 2)), (107, .ok (.iconst 0, 1)), (108, .ok (.istore 7, 2)), (110, .ok (.iconst 0, 1)), (111, .ok (.istore 8, 2)), (113, .ok (.iload 8, 2)), (115, .ok (.sipush 256, 3)), (118, .ok (.if_icmp .ge 108, 3)), (121, .ok (.iload 8, 2)), (123, .ok (.iload 4, 2)), (125, .ok (.iconst (-1), 1)), (126, .ok (.ixor, 1)), (127, .ok (.iand, 1)), (128, .ok (.ifCond .ne 92, 3)), (131, .ok (.iload 5, 2)), (133, .ok (.iload 8, 2)), (135, .ok (.invokestatic 448, 3)), (138, .ok (.iadd, 1)), (139, .ok (.iload_n 2, 1)), (140, .ok (.if_icmp .ge 6, 3)), (143, .ok (.goto 77, 3))]
theorem da_348 : dl_348.all (fun q => decide (decode cX10_decree q.1 = q.2)) = true := by decide +kernel
theorem dX10_decree_70 : decode cX10_decree 70 = .ok (.iload 6, 2) := dec_of (decode cX10_decree) da_348 0 rfl
theorem dX10_decree_72 : decode cX10_decree 72 = .ok (.iaload, 1) := dec_of (decode cX10_decree) da_348 1 rfl
theorem dX10_decree_73 : decode cX10_decree 73 = .ok (.iaload, 1) := dec_of (decode cX10_decree) da_348 2 rfl
theorem dX10_decree_74 : decode cX10_decree 74 = .ok (.iconst 1, 1) := dec_of (decode cX10_decree) da_348 3 rfl
theorem dX10_decree_75 : decode cX10_decree 75 = .ok (.if_icmp .ne 9, 3) := dec_of (decode cX10_decree) da_348 4 rfl
theorem dX10_decree_78 : decode cX10_decree 78 = .ok (.iinc 5 1, 3) := dec_of (decode cX10_decree) da_348 5 rfl
theorem dX10_decree_81 : decode cX10_decree 81 = .ok (.goto 17, 3) := dec_of (decode cX10_decree) da_348 6 rfl
theorem dX10_decree_84 : decode cX10_decree 84 = .ok (.iload 4, 2) := dec_of (decode cX10_decree) da_348 7 rfl
theorem dX10_decree_86 : decode cX10_decree 86 = .ok (.iconst 1, 1) := dec_of (decode cX10_decree) da_348 8 rfl
theorem dX10_decree_87 : decode cX10_decree 87 = .ok (.aload_n 0, 1) := dec_of (decode cX10_decree) da_348 9 rfl
theorem dX10_decree_88 : decode cX10_decree 88 = .ok (.getfield 84, 3) := dec_of (decode cX10_decree) da_348 10 rfl
theorem dX10_decree_91 : decode cX10_decree 91 = .ok (.iload 6, 2) := dec_of (decode cX10_decree) da_348 11 rfl
theorem dX10_decree_93 : decode cX10_decree 93 = .ok (.iaload, 1) := dec_of (decode cX10_decree) da_348 12 rfl
theorem dX10_decree_94 : decode cX10_decree 94 = .ok (.ishl, 1) := dec_of (decode cX10_decree) da_348 13 rfl
theorem dX10_decree_95 : decode cX10_decree 95 = .ok (.ior, 1) := dec_of (decode cX10_decree) da_348 14 rfl
theorem dX10_decree_96 : decode cX10_decree 96 = .ok (.istore 4, 2) := dec_of (decode cX10_decree) da_348 15 rfl
theorem dX10_decree_98 : decode cX10_decree 98 = .ok (.iinc 6 1, 3) := dec_of (decode cX10_decree) da_348 16 rfl
theorem dX10_decree_101 : decode cX10_decree 101 = .ok (.goto (-56), 3) := dec_of (decode cX10_decree) da_348 17 rfl
theorem dX10_decree_104 : decode cX10_decree 104 = .ok (.iconst (-1), 1) := dec_of (decode cX10_decree) da_348 18 rfl
theorem dX10_decree_105 : decode cX10_decree 105 = .ok (.istore 6, 2) := dec_of (decode cX10_decree) da_348 19 rfl
theorem dX10_decree_107 : decode cX10_decree 107 = .ok (.iconst 0, 1) := dec_of (decode cX10_decree) da_348 20 rfl
theorem dX10_decree_108 : decode cX10_decree 108 = .ok (.istore 7, 2) := dec_of (decode cX10_decree) da_348 21 rfl
theorem dX10_decree_110 : decode cX10_decree 110 = .ok (.iconst 0, 1) := dec_of (decode cX10_decree) da_348 22 rfl
theorem dX10_decree_111 : decode cX10_decree 111 = .ok (.istore 8, 2) := dec_of (decode cX10_decree) da_348 23 rfl
theorem dX10_decree_113 : decode cX10_decree 113 = .ok (.iload 8, 2) := dec_of (decode cX10_decree) da_348 24 rfl
theorem dX10_decree_115 : decode cX10_decree 115 = .ok (.sipush 256, 3) := dec_of (decode cX10_decree) da_348 25 rfl
theorem dX10_decree_118 : decode cX10_decree 118 = .ok (.if_icmp .ge 108, 3) := dec_of (decode cX10_decree) da_348 26 rfl
theorem dX10_decree_121 : decode cX10_decree 121 = .ok (.iload 8, 2) := dec_of (decode cX10_decree) da_348 27 rfl
theorem dX10_decree_123 : decode cX10_decree 123 = .ok (.iload 4, 2) := dec_of (decode cX10_decree) da_348 28 rfl
theorem dX10_decree_125 : decode cX10_decree 125 = .ok (.iconst (-1), 1) := dec_of (decode cX10_decree) da_348 29 rfl
theorem dX10_decree_126 : decode cX10_decree 126 = .ok (.ixor, 1) := dec_of (decode cX10_decree) da_348 30 rfl
theorem dX10_decree_127 : decode cX10_decree 127 = .ok (.iand, 1) := dec_of (decode cX10_decree) da_348 31 rfl
theorem dX10_decree_128 : decode cX10_decree 128 = .ok (.ifCond .ne 92, 3) := dec_of (decode cX10_decree) da_348 32 rfl
theorem dX10_decree_131 : decode cX10_decree 131 = .ok (.iload 5, 2) := dec_of (decode cX10_decree) da_348 33 rfl
theorem dX10_decree_133 : decode cX10_decree 133 = .ok (.iload 8, 2) := dec_of (decode cX10_decree) da_348 34 rfl
theorem dX10_decree_135 : decode cX10_decree 135 = .ok (.invokestatic 448, 3) := dec_of (decode cX10_decree) da_348 35 rfl
theorem dX10_decree_138 : decode cX10_decree 138 = .ok (.iadd, 1) := dec_of (decode cX10_decree) da_348 36 rfl
theorem dX10_decree_139 : decode cX10_decree 139 = .ok (.iload_n 2, 1) := dec_of (decode cX10_decree) da_348 37 rfl
theorem dX10_decree_140 : decode cX10_decree 140 = .ok (.if_icmp .ge 6, 3) := dec_of (decode cX10_decree) da_348 38 rfl
theorem dX10_decree_143 : decode cX10_decree 143 = .ok (.goto 77, 3) := dec_of (decode cX10_decree) da_348 39 rfl
abbrev dl_349 : List (Nat × Except DecodeError (Instr × Nat)) := [(146, .ok (.iconst 0, 1)), (147, .ok (.istore 9, 2)), (149, .ok (.iconst 0, 1)), (150, .ok (.istore 10, 2)), (152, .ok (.iload 10, 2)), (154, .ok (.aload_n 0, 1)), (155, .ok (.getfield 13, 3)), (158, .ok (.iconst 0, 1)), (159, .ok (.iaload, 1)), (160, .ok (.if_icmp .ge 36, 3)), (163, .ok (.iload 9, 2)), (165, .ok (.iload 8, 2)), (167, .ok (.iload 10, 2)), (169, .ok (.ishr, 1)), (170, .ok (.iconst 1, 1)), (171, .ok (.iand, 1)), (172, .ok (.iconst 1, 1)), (173, .ok (.if_icmp .ne 13, 3)), (176, .ok (.aload_n 0, 1)), (177, .ok (.getfield 34, 3)), (180, .ok (.iload 10, 2)), (182, .ok (.iaload, 1)), (183, .ok (.goto 4, 3)), (186, .ok (.iconst 0, 1)), (187, .ok (.iadd, 1)), (188, .ok (.istore 9, 2)), (190, .ok (.iinc 10 1, 3)), (193, .ok (.goto (-41), 3)), (196, .ok (.iload 6, 2)), (198, .ok (.iconst (-1), 1)), (199, .ok (.if_icmp .eq 13, 3)), (202, .ok (.iload 9, 2)), (204, .ok (.iload 7, 2)), (206, .ok (.if_icmp .lt 6, 3)), (209, .ok (.goto 11, 3)), (212, .ok (.iload 8, 2)), (214, .ok (.istore 6, 2)), (216, .ok (.iload 9, 2)), (218, .ok (.istore 7, 2)), (220, .ok (.iinc 8 1, 3))]
theorem da_349 : dl_349.all (fun q => decide (decode cX10_decree q.1 = q.2)) = true := by decide +kernel
theorem dX10_decree_146 : decode cX10_decree 146 = .ok (.iconst 0, 1) := dec_of (decode cX10_decree) da_349 0 rfl
theorem dX10_decree_147 : decode cX10_decree 147 = .ok (.istore 9, 2) := dec_of (decode cX10_decree) da_349 1 rfl
theorem dX10_decree_149 : decode cX10_decree 149 = .ok (.iconst 0, 1) := dec_of (decode cX10_decree) da_349 2 rfl
theorem dX10_decree_150 : decode cX10_decree 150 = .ok (.istore 10, 2) := dec_of (decode cX10_decree) da_349 3 rfl
theorem dX10_decree_152 : decode cX10_decree 152 = .ok (.iload 10, 2) := dec_of (decode cX10_decree) da_349 4 rfl
theorem dX10_decree_154 : decode cX10_decree 154 = .ok (.aload_n 0, 1) := dec_of (decode cX10_decree) da_349 5 rfl
theorem dX10_decree_155 : decode cX10_decree 155 = .ok (.getfield 13, 3) := dec_of (decode cX10_decree) da_349 6 rfl
theorem dX10_decree_158 : decode cX10_decree 158 = .ok (.iconst 0, 1) := dec_of (decode cX10_decree) da_349 7 rfl
theorem dX10_decree_159 : decode cX10_decree 159 = .ok (.iaload, 1) := dec_of (decode cX10_decree) da_349 8 rfl
theorem dX10_decree_160 : decode cX10_decree 160 = .ok (.if_icmp .ge 36, 3) := dec_of (decode cX10_decree) da_349 9 rfl
theorem dX10_decree_163 : decode cX10_decree 163 = .ok (.iload 9, 2) := dec_of (decode cX10_decree) da_349 10 rfl
theorem dX10_decree_165 : decode cX10_decree 165 = .ok (.iload 8, 2) := dec_of (decode cX10_decree) da_349 11 rfl
theorem dX10_decree_167 : decode cX10_decree 167 = .ok (.iload 10, 2) := dec_of (decode cX10_decree) da_349 12 rfl
theorem dX10_decree_169 : decode cX10_decree 169 = .ok (.ishr, 1) := dec_of (decode cX10_decree) da_349 13 rfl
theorem dX10_decree_170 : decode cX10_decree 170 = .ok (.iconst 1, 1) := dec_of (decode cX10_decree) da_349 14 rfl
theorem dX10_decree_171 : decode cX10_decree 171 = .ok (.iand, 1) := dec_of (decode cX10_decree) da_349 15 rfl
theorem dX10_decree_172 : decode cX10_decree 172 = .ok (.iconst 1, 1) := dec_of (decode cX10_decree) da_349 16 rfl
theorem dX10_decree_173 : decode cX10_decree 173 = .ok (.if_icmp .ne 13, 3) := dec_of (decode cX10_decree) da_349 17 rfl
theorem dX10_decree_176 : decode cX10_decree 176 = .ok (.aload_n 0, 1) := dec_of (decode cX10_decree) da_349 18 rfl
theorem dX10_decree_177 : decode cX10_decree 177 = .ok (.getfield 34, 3) := dec_of (decode cX10_decree) da_349 19 rfl
theorem dX10_decree_180 : decode cX10_decree 180 = .ok (.iload 10, 2) := dec_of (decode cX10_decree) da_349 20 rfl
theorem dX10_decree_182 : decode cX10_decree 182 = .ok (.iaload, 1) := dec_of (decode cX10_decree) da_349 21 rfl
theorem dX10_decree_183 : decode cX10_decree 183 = .ok (.goto 4, 3) := dec_of (decode cX10_decree) da_349 22 rfl
theorem dX10_decree_186 : decode cX10_decree 186 = .ok (.iconst 0, 1) := dec_of (decode cX10_decree) da_349 23 rfl
theorem dX10_decree_187 : decode cX10_decree 187 = .ok (.iadd, 1) := dec_of (decode cX10_decree) da_349 24 rfl
theorem dX10_decree_188 : decode cX10_decree 188 = .ok (.istore 9, 2) := dec_of (decode cX10_decree) da_349 25 rfl
theorem dX10_decree_190 : decode cX10_decree 190 = .ok (.iinc 10 1, 3) := dec_of (decode cX10_decree) da_349 26 rfl
theorem dX10_decree_193 : decode cX10_decree 193 = .ok (.goto (-41), 3) := dec_of (decode cX10_decree) da_349 27 rfl
theorem dX10_decree_196 : decode cX10_decree 196 = .ok (.iload 6, 2) := dec_of (decode cX10_decree) da_349 28 rfl
theorem dX10_decree_198 : decode cX10_decree 198 = .ok (.iconst (-1), 1) := dec_of (decode cX10_decree) da_349 29 rfl
theorem dX10_decree_199 : decode cX10_decree 199 = .ok (.if_icmp .eq 13, 3) := dec_of (decode cX10_decree) da_349 30 rfl
theorem dX10_decree_202 : decode cX10_decree 202 = .ok (.iload 9, 2) := dec_of (decode cX10_decree) da_349 31 rfl
theorem dX10_decree_204 : decode cX10_decree 204 = .ok (.iload 7, 2) := dec_of (decode cX10_decree) da_349 32 rfl
theorem dX10_decree_206 : decode cX10_decree 206 = .ok (.if_icmp .lt 6, 3) := dec_of (decode cX10_decree) da_349 33 rfl
theorem dX10_decree_209 : decode cX10_decree 209 = .ok (.goto 11, 3) := dec_of (decode cX10_decree) da_349 34 rfl
theorem dX10_decree_212 : decode cX10_decree 212 = .ok (.iload 8, 2) := dec_of (decode cX10_decree) da_349 35 rfl
theorem dX10_decree_214 : decode cX10_decree 214 = .ok (.istore 6, 2) := dec_of (decode cX10_decree) da_349 36 rfl
theorem dX10_decree_216 : decode cX10_decree 216 = .ok (.iload 9, 2) := dec_of (decode cX10_decree) da_349 37 rfl
theorem dX10_decree_218 : decode cX10_decree 218 = .ok (.istore 7, 2) := dec_of (decode cX10_decree) da_349 38 rfl
theorem dX10_decree_220 : decode cX10_decree 220 = .ok (.iinc 8 1, 3) := dec_of (decode cX10_decree) da_349 39 rfl
abbrev dl_350 : List (Nat × Except DecodeError (Instr × Nat)) := [(223, .ok (.goto (-110), 3)), (226, .ok (.iload 6, 2)), (228, .ok (.iconst (-1), 1)), (229, .ok (.if_icmp .ne 8, 3)), (232, .ok (.bipush (-2), 2)), (234, .ok (.goto 14, 3)), (237, .ok (.iload_n 3, 1)), (238, .ok (.ifCond .ne 8, 3)), (241, .ok (.iload 7, 2)), (243, .ok (.goto 5, 3)), (246, .ok (.iload 6, 2)), (248, .ok (.ireturn, 1))]
theorem da_350 : dl_350.all (fun q => decide (decode cX10_decree q.1 = q.2)) = true := by decide +kernel
theorem dX10_decree_223 : decode cX10_decree 223 = .ok (.goto (-110), 3) := dec_of (decode cX10_decree) da_350 0 rfl
theorem dX10_decree_226 : decode cX10_decree 226 = .ok (.iload 6, 2) := dec_of (decode cX10_decree) da_350 1 rfl
theorem dX10_decree_228 : decode cX10_decree 228 = .ok (.iconst (-1), 1) := dec_of (decode cX10_decree) da_350 2 rfl
theorem dX10_decree_229 : decode cX10_decree 229 = .ok (.if_icmp .ne 8, 3) := dec_of (decode cX10_decree) da_350 3 rfl
theorem dX10_decree_232 : decode cX10_decree 232 = .ok (.bipush (-2), 2) := dec_of (decode cX10_decree) da_350 4 rfl
theorem dX10_decree_234 : decode cX10_decree 234 = .ok (.goto 14, 3) := dec_of (decode cX10_decree) da_350 5 rfl
theorem dX10_decree_237 : decode cX10_decree 237 = .ok (.iload_n 3, 1) := dec_of (decode cX10_decree) da_350 6 rfl
theorem dX10_decree_238 : decode cX10_decree 238 = .ok (.ifCond .ne 8, 3) := dec_of (decode cX10_decree) da_350 7 rfl
theorem dX10_decree_241 : decode cX10_decree 241 = .ok (.iload 7, 2) := dec_of (decode cX10_decree) da_350 8 rfl
theorem dX10_decree_243 : decode cX10_decree 243 = .ok (.goto 5, 3) := dec_of (decode cX10_decree) da_350 9 rfl
theorem dX10_decree_246 : decode cX10_decree 246 = .ok (.iload 6, 2) := dec_of (decode cX10_decree) da_350 10 rfl
theorem dX10_decree_248 : decode cX10_decree 248 = .ok (.ireturn, 1) := dec_of (decode cX10_decree) da_350 11 rfl
abbrev dl_351 : List (Nat × Except DecodeError (Instr × Nat)) := [(0, .ok (.aload_n 0, 1)), (1, .ok (.iconst 0, 1)), (2, .ok (.putfield 154, 3)), (5, .ok (.aload_n 0, 1)), (6, .ok (.getfield 81, 3)), (9, .ok (.iconst 0, 1)), (10, .ok (.iaload, 1)), (11, .ok (.ifCond .ne 5, 3)), (14, .ok (.iconst (-1), 1)), (15, .ok (.ireturn, 1)), (16, .ok (.aload_n 0, 1)), (17, .ok (.iconst 0, 1)), (18, .ok (.aload_n 0, 1)), (19, .ok (.getfield 69, 3)), (22, .ok (.iconst 0, 1)), (23, .ok (.iaload, 1)), (24, .ok (.invokevirtual 371, 3)), (27, .ok (.istore_n 1, 1)), (28, .ok (.aload_n 0, 1)), (29, .ok (.iconst 0, 1)), (30, .ok (.invokevirtual 374, 3)), (33, .ok (.ifCond .ne 25, 3)), (36, .ok (.iload_n 1, 1)), (37, .ok (.aload_n 0, 1)), (38, .ok (.getfield 13, 3)), (41, .ok (.iconst 4, 1)), (42, .ok (.iaload, 1)), (43, .ok (.if_icmp .gt 15, 3)), (46, .ok (.iload_n 1, 1)), (47, .ok (.aload_n 0, 1)), (48, .ok (.getfield 81, 3)), (51, .ok (.iconst 0, 1)), (52, .ok (.iaload, 1)), (53, .ok (.iconst 1, 1)), (54, .ok (.isub, 1)), (55, .ok (.if_icmp .le 6, 3)), (58, .ok (.bipush (-2), 2)), (60, .ok (.ireturn, 1)), (61, .ok (.iconst 0, 1)), (62, .ok (.istore_n 2, 1))]
theorem da_351 : dl_351.all (fun q => decide (decode cX10_coup q.1 = q.2)) = true := by decide +kernel
theorem dX10_coup_0 : decode cX10_coup 0 = .ok (.aload_n 0, 1) := dec_of (decode cX10_coup) da_351 0 rfl
theorem dX10_coup_1 : decode cX10_coup 1 = .ok (.iconst 0, 1) := dec_of (decode cX10_coup) da_351 1 rfl
theorem dX10_coup_2 : decode cX10_coup 2 = .ok (.putfield 154, 3) := dec_of (decode cX10_coup) da_351 2 rfl
theorem dX10_coup_5 : decode cX10_coup 5 = .ok (.aload_n 0, 1) := dec_of (decode cX10_coup) da_351 3 rfl
theorem dX10_coup_6 : decode cX10_coup 6 = .ok (.getfield 81, 3) := dec_of (decode cX10_coup) da_351 4 rfl
theorem dX10_coup_9 : decode cX10_coup 9 = .ok (.iconst 0, 1) := dec_of (decode cX10_coup) da_351 5 rfl
theorem dX10_coup_10 : decode cX10_coup 10 = .ok (.iaload, 1) := dec_of (decode cX10_coup) da_351 6 rfl
theorem dX10_coup_11 : decode cX10_coup 11 = .ok (.ifCond .ne 5, 3) := dec_of (decode cX10_coup) da_351 7 rfl
theorem dX10_coup_14 : decode cX10_coup 14 = .ok (.iconst (-1), 1) := dec_of (decode cX10_coup) da_351 8 rfl
theorem dX10_coup_15 : decode cX10_coup 15 = .ok (.ireturn, 1) := dec_of (decode cX10_coup) da_351 9 rfl
theorem dX10_coup_16 : decode cX10_coup 16 = .ok (.aload_n 0, 1) := dec_of (decode cX10_coup) da_351 10 rfl
theorem dX10_coup_17 : decode cX10_coup 17 = .ok (.iconst 0, 1) := dec_of (decode cX10_coup) da_351 11 rfl
theorem dX10_coup_18 : decode cX10_coup 18 = .ok (.aload_n 0, 1) := dec_of (decode cX10_coup) da_351 12 rfl
theorem dX10_coup_19 : decode cX10_coup 19 = .ok (.getfield 69, 3) := dec_of (decode cX10_coup) da_351 13 rfl
theorem dX10_coup_22 : decode cX10_coup 22 = .ok (.iconst 0, 1) := dec_of (decode cX10_coup) da_351 14 rfl
theorem dX10_coup_23 : decode cX10_coup 23 = .ok (.iaload, 1) := dec_of (decode cX10_coup) da_351 15 rfl
theorem dX10_coup_24 : decode cX10_coup 24 = .ok (.invokevirtual 371, 3) := dec_of (decode cX10_coup) da_351 16 rfl
theorem dX10_coup_27 : decode cX10_coup 27 = .ok (.istore_n 1, 1) := dec_of (decode cX10_coup) da_351 17 rfl
theorem dX10_coup_28 : decode cX10_coup 28 = .ok (.aload_n 0, 1) := dec_of (decode cX10_coup) da_351 18 rfl
theorem dX10_coup_29 : decode cX10_coup 29 = .ok (.iconst 0, 1) := dec_of (decode cX10_coup) da_351 19 rfl
theorem dX10_coup_30 : decode cX10_coup 30 = .ok (.invokevirtual 374, 3) := dec_of (decode cX10_coup) da_351 20 rfl
theorem dX10_coup_33 : decode cX10_coup 33 = .ok (.ifCond .ne 25, 3) := dec_of (decode cX10_coup) da_351 21 rfl
theorem dX10_coup_36 : decode cX10_coup 36 = .ok (.iload_n 1, 1) := dec_of (decode cX10_coup) da_351 22 rfl
theorem dX10_coup_37 : decode cX10_coup 37 = .ok (.aload_n 0, 1) := dec_of (decode cX10_coup) da_351 23 rfl
theorem dX10_coup_38 : decode cX10_coup 38 = .ok (.getfield 13, 3) := dec_of (decode cX10_coup) da_351 24 rfl
theorem dX10_coup_41 : decode cX10_coup 41 = .ok (.iconst 4, 1) := dec_of (decode cX10_coup) da_351 25 rfl
theorem dX10_coup_42 : decode cX10_coup 42 = .ok (.iaload, 1) := dec_of (decode cX10_coup) da_351 26 rfl
theorem dX10_coup_43 : decode cX10_coup 43 = .ok (.if_icmp .gt 15, 3) := dec_of (decode cX10_coup) da_351 27 rfl
theorem dX10_coup_46 : decode cX10_coup 46 = .ok (.iload_n 1, 1) := dec_of (decode cX10_coup) da_351 28 rfl
theorem dX10_coup_47 : decode cX10_coup 47 = .ok (.aload_n 0, 1) := dec_of (decode cX10_coup) da_351 29 rfl
theorem dX10_coup_48 : decode cX10_coup 48 = .ok (.getfield 81, 3) := dec_of (decode cX10_coup) da_351 30 rfl
theorem dX10_coup_51 : decode cX10_coup 51 = .ok (.iconst 0, 1) := dec_of (decode cX10_coup) da_351 31 rfl
theorem dX10_coup_52 : decode cX10_coup 52 = .ok (.iaload, 1) := dec_of (decode cX10_coup) da_351 32 rfl
theorem dX10_coup_53 : decode cX10_coup 53 = .ok (.iconst 1, 1) := dec_of (decode cX10_coup) da_351 33 rfl
theorem dX10_coup_54 : decode cX10_coup 54 = .ok (.isub, 1) := dec_of (decode cX10_coup) da_351 34 rfl
theorem dX10_coup_55 : decode cX10_coup 55 = .ok (.if_icmp .le 6, 3) := dec_of (decode cX10_coup) da_351 35 rfl
theorem dX10_coup_58 : decode cX10_coup 58 = .ok (.bipush (-2), 2) := dec_of (decode cX10_coup) da_351 36 rfl
theorem dX10_coup_60 : decode cX10_coup 60 = .ok (.ireturn, 1) := dec_of (decode cX10_coup) da_351 37 rfl
theorem dX10_coup_61 : decode cX10_coup 61 = .ok (.iconst 0, 1) := dec_of (decode cX10_coup) da_351 38 rfl
theorem dX10_coup_62 : decode cX10_coup 62 = .ok (.istore_n 2, 1) := dec_of (decode cX10_coup) da_351 39 rfl
abbrev dl_352 : List (Nat × Except DecodeError (Instr × Nat)) := [(63, .ok (.iconst 1, 1)), (64, .ok (.istore_n 3, 1)), (65, .ok (.iload_n 3, 1)), (66, .ok (.iload_n 1, 1)), (67, .ok (.if_icmp .gt 20, 3)), (70, .ok (.iload_n 2, 1)), (71, .ok (.iconst 1, 1)), (72, .ok (.aload_n 0, 1)), (73, .ok (.getfield 84, 3)), (76, .ok (.iload_n 3, 1)), (77, .ok (.iaload, 1)), (78, .ok (.ishl, 1)), (79, .ok (.ior, 1)), (80, .ok (.istore_n 2, 1)), (81, .ok (.iinc 3 1, 3)), (84, .ok (.goto (-19), 3)), (87, .ok (.iload_n 2, 1)), (88, .ok (.ireturn, 1))]
theorem da_352 : dl_352.all (fun q => decide (decode cX10_coup q.1 = q.2)) = true := by decide +kernel
theorem dX10_coup_63 : decode cX10_coup 63 = .ok (.iconst 1, 1) := dec_of (decode cX10_coup) da_352 0 rfl
theorem dX10_coup_64 : decode cX10_coup 64 = .ok (.istore_n 3, 1) := dec_of (decode cX10_coup) da_352 1 rfl
theorem dX10_coup_65 : decode cX10_coup 65 = .ok (.iload_n 3, 1) := dec_of (decode cX10_coup) da_352 2 rfl
theorem dX10_coup_66 : decode cX10_coup 66 = .ok (.iload_n 1, 1) := dec_of (decode cX10_coup) da_352 3 rfl
theorem dX10_coup_67 : decode cX10_coup 67 = .ok (.if_icmp .gt 20, 3) := dec_of (decode cX10_coup) da_352 4 rfl
theorem dX10_coup_70 : decode cX10_coup 70 = .ok (.iload_n 2, 1) := dec_of (decode cX10_coup) da_352 5 rfl
theorem dX10_coup_71 : decode cX10_coup 71 = .ok (.iconst 1, 1) := dec_of (decode cX10_coup) da_352 6 rfl
theorem dX10_coup_72 : decode cX10_coup 72 = .ok (.aload_n 0, 1) := dec_of (decode cX10_coup) da_352 7 rfl
theorem dX10_coup_73 : decode cX10_coup 73 = .ok (.getfield 84, 3) := dec_of (decode cX10_coup) da_352 8 rfl
theorem dX10_coup_76 : decode cX10_coup 76 = .ok (.iload_n 3, 1) := dec_of (decode cX10_coup) da_352 9 rfl
theorem dX10_coup_77 : decode cX10_coup 77 = .ok (.iaload, 1) := dec_of (decode cX10_coup) da_352 10 rfl
theorem dX10_coup_78 : decode cX10_coup 78 = .ok (.ishl, 1) := dec_of (decode cX10_coup) da_352 11 rfl
theorem dX10_coup_79 : decode cX10_coup 79 = .ok (.ior, 1) := dec_of (decode cX10_coup) da_352 12 rfl
theorem dX10_coup_80 : decode cX10_coup 80 = .ok (.istore_n 2, 1) := dec_of (decode cX10_coup) da_352 13 rfl
theorem dX10_coup_81 : decode cX10_coup 81 = .ok (.iinc 3 1, 3) := dec_of (decode cX10_coup) da_352 14 rfl
theorem dX10_coup_84 : decode cX10_coup 84 = .ok (.goto (-19), 3) := dec_of (decode cX10_coup) da_352 15 rfl
theorem dX10_coup_87 : decode cX10_coup 87 = .ok (.iload_n 2, 1) := dec_of (decode cX10_coup) da_352 16 rfl
theorem dX10_coup_88 : decode cX10_coup 88 = .ok (.ireturn, 1) := dec_of (decode cX10_coup) da_352 17 rfl
abbrev dl_353 : List (Nat × Except DecodeError (Instr × Nat)) := [(0, .ok (.bipush 8, 2)), (2, .ok (.iload_n 1, 1)), (3, .ok (.iadd, 1)), (4, .ok (.istore_n 3, 1)), (5, .ok (.aload_n 0, 1)), (6, .ok (.getfield 87, 3)), (9, .ok (.iload_n 3, 1)), (10, .ok (.iaload, 1)), (11, .ok (.iconst 2, 1)), (12, .ok (.if_icmp .ne 31, 3)), (15, .ok (.aload_n 0, 1)), (16, .ok (.getfield 111, 3)), (19, .ok (.iload_n 3, 1)), (20, .ok (.iaload, 1)), (21, .ok (.aload_n 0, 1)), (22, .ok (.getfield 69, 3)), (25, .ok (.iconst 0, 1)), (26, .ok (.iaload, 1)), (27, .ok (.iload_n 2, 1)), (28, .ok (.iadd, 1)), (29, .ok (.if_icmp .ge 14, 3)), (32, .ok (.sipush 1000, 3)), (35, .ok (.aload_n 0, 1)), (36, .ok (.getfield 111, 3)), (39, .ok (.iload_n 3, 1)), (40, .ok (.iaload, 1)), (41, .ok (.isub, 1)), (42, .ok (.ireturn, 1)), (43, .ok (.aload_n 0, 1)), (44, .ok (.iconst 1, 1)), (45, .ok (.iload_n 1, 1)), (46, .ok (.invokevirtual 411, 3)), (49, .ok (.istore 4, 2)), (51, .ok (.iload 4, 2)), (53, .ok (.iconst (-1), 1)), (54, .ok (.if_icmp .ne 7, 3)), (57, .ok (.iconst 0, 1)), (58, .ok (.goto 8, 3)), (61, .ok (.bipush 100, 2)), (63, .ok (.iload 4, 2))]
theorem da_353 : dl_353.all (fun q => decide (decode cX10_endOf q.1 = q.2)) = true := by decide +kernel
theorem dX10_endOf_0 : decode cX10_endOf 0 = .ok (.bipush 8, 2) := dec_of (decode cX10_endOf) da_353 0 rfl
theorem dX10_endOf_2 : decode cX10_endOf 2 = .ok (.iload_n 1, 1) := dec_of (decode cX10_endOf) da_353 1 rfl
theorem dX10_endOf_3 : decode cX10_endOf 3 = .ok (.iadd, 1) := dec_of (decode cX10_endOf) da_353 2 rfl
theorem dX10_endOf_4 : decode cX10_endOf 4 = .ok (.istore_n 3, 1) := dec_of (decode cX10_endOf) da_353 3 rfl
theorem dX10_endOf_5 : decode cX10_endOf 5 = .ok (.aload_n 0, 1) := dec_of (decode cX10_endOf) da_353 4 rfl
theorem dX10_endOf_6 : decode cX10_endOf 6 = .ok (.getfield 87, 3) := dec_of (decode cX10_endOf) da_353 5 rfl
theorem dX10_endOf_9 : decode cX10_endOf 9 = .ok (.iload_n 3, 1) := dec_of (decode cX10_endOf) da_353 6 rfl
theorem dX10_endOf_10 : decode cX10_endOf 10 = .ok (.iaload, 1) := dec_of (decode cX10_endOf) da_353 7 rfl
theorem dX10_endOf_11 : decode cX10_endOf 11 = .ok (.iconst 2, 1) := dec_of (decode cX10_endOf) da_353 8 rfl
theorem dX10_endOf_12 : decode cX10_endOf 12 = .ok (.if_icmp .ne 31, 3) := dec_of (decode cX10_endOf) da_353 9 rfl
theorem dX10_endOf_15 : decode cX10_endOf 15 = .ok (.aload_n 0, 1) := dec_of (decode cX10_endOf) da_353 10 rfl
theorem dX10_endOf_16 : decode cX10_endOf 16 = .ok (.getfield 111, 3) := dec_of (decode cX10_endOf) da_353 11 rfl
theorem dX10_endOf_19 : decode cX10_endOf 19 = .ok (.iload_n 3, 1) := dec_of (decode cX10_endOf) da_353 12 rfl
theorem dX10_endOf_20 : decode cX10_endOf 20 = .ok (.iaload, 1) := dec_of (decode cX10_endOf) da_353 13 rfl
theorem dX10_endOf_21 : decode cX10_endOf 21 = .ok (.aload_n 0, 1) := dec_of (decode cX10_endOf) da_353 14 rfl
theorem dX10_endOf_22 : decode cX10_endOf 22 = .ok (.getfield 69, 3) := dec_of (decode cX10_endOf) da_353 15 rfl
theorem dX10_endOf_25 : decode cX10_endOf 25 = .ok (.iconst 0, 1) := dec_of (decode cX10_endOf) da_353 16 rfl
theorem dX10_endOf_26 : decode cX10_endOf 26 = .ok (.iaload, 1) := dec_of (decode cX10_endOf) da_353 17 rfl
theorem dX10_endOf_27 : decode cX10_endOf 27 = .ok (.iload_n 2, 1) := dec_of (decode cX10_endOf) da_353 18 rfl
theorem dX10_endOf_28 : decode cX10_endOf 28 = .ok (.iadd, 1) := dec_of (decode cX10_endOf) da_353 19 rfl
theorem dX10_endOf_29 : decode cX10_endOf 29 = .ok (.if_icmp .ge 14, 3) := dec_of (decode cX10_endOf) da_353 20 rfl
theorem dX10_endOf_32 : decode cX10_endOf 32 = .ok (.sipush 1000, 3) := dec_of (decode cX10_endOf) da_353 21 rfl
theorem dX10_endOf_35 : decode cX10_endOf 35 = .ok (.aload_n 0, 1) := dec_of (decode cX10_endOf) da_353 22 rfl
theorem dX10_endOf_36 : decode cX10_endOf 36 = .ok (.getfield 111, 3) := dec_of (decode cX10_endOf) da_353 23 rfl
theorem dX10_endOf_39 : decode cX10_endOf 39 = .ok (.iload_n 3, 1) := dec_of (decode cX10_endOf) da_353 24 rfl
theorem dX10_endOf_40 : decode cX10_endOf 40 = .ok (.iaload, 1) := dec_of (decode cX10_endOf) da_353 25 rfl
theorem dX10_endOf_41 : decode cX10_endOf 41 = .ok (.isub, 1) := dec_of (decode cX10_endOf) da_353 26 rfl
theorem dX10_endOf_42 : decode cX10_endOf 42 = .ok (.ireturn, 1) := dec_of (decode cX10_endOf) da_353 27 rfl
theorem dX10_endOf_43 : decode cX10_endOf 43 = .ok (.aload_n 0, 1) := dec_of (decode cX10_endOf) da_353 28 rfl
theorem dX10_endOf_44 : decode cX10_endOf 44 = .ok (.iconst 1, 1) := dec_of (decode cX10_endOf) da_353 29 rfl
theorem dX10_endOf_45 : decode cX10_endOf 45 = .ok (.iload_n 1, 1) := dec_of (decode cX10_endOf) da_353 30 rfl
theorem dX10_endOf_46 : decode cX10_endOf 46 = .ok (.invokevirtual 411, 3) := dec_of (decode cX10_endOf) da_353 31 rfl
theorem dX10_endOf_49 : decode cX10_endOf 49 = .ok (.istore 4, 2) := dec_of (decode cX10_endOf) da_353 32 rfl
theorem dX10_endOf_51 : decode cX10_endOf 51 = .ok (.iload 4, 2) := dec_of (decode cX10_endOf) da_353 33 rfl
theorem dX10_endOf_53 : decode cX10_endOf 53 = .ok (.iconst (-1), 1) := dec_of (decode cX10_endOf) da_353 34 rfl
theorem dX10_endOf_54 : decode cX10_endOf 54 = .ok (.if_icmp .ne 7, 3) := dec_of (decode cX10_endOf) da_353 35 rfl
theorem dX10_endOf_57 : decode cX10_endOf 57 = .ok (.iconst 0, 1) := dec_of (decode cX10_endOf) da_353 36 rfl
theorem dX10_endOf_58 : decode cX10_endOf 58 = .ok (.goto 8, 3) := dec_of (decode cX10_endOf) da_353 37 rfl
theorem dX10_endOf_61 : decode cX10_endOf 61 = .ok (.bipush 100, 2) := dec_of (decode cX10_endOf) da_353 38 rfl
theorem dX10_endOf_63 : decode cX10_endOf 63 = .ok (.iload 4, 2) := dec_of (decode cX10_endOf) da_353 39 rfl
abbrev dl_354 : List (Nat × Except DecodeError (Instr × Nat)) := [(65, .ok (.isub, 1)), (66, .ok (.ireturn, 1))]
theorem da_354 : dl_354.all (fun q => decide (decode cX10_endOf q.1 = q.2)) = true := by decide +kernel
theorem dX10_endOf_65 : decode cX10_endOf 65 = .ok (.isub, 1) := dec_of (decode cX10_endOf) da_354 0 rfl
theorem dX10_endOf_66 : decode cX10_endOf 66 = .ok (.ireturn, 1) := dec_of (decode cX10_endOf) da_354 1 rfl
abbrev dl_355 : List (Nat × Except DecodeError (Instr × Nat)) := [(0, .ok (.aload_n 0, 1)), (1, .ok (.iconst 4, 1)), (2, .ok (.bipush 60, 2)), (4, .ok (.aload_n 0, 1)), (5, .ok (.getfield 69, 3)), (8, .ok (.iconst 0, 1)), (9, .ok (.iaload, 1)), (10, .ok (.isub, 1)), (11, .ok (.invokestatic 380, 3)), (14, .ok (.putfield 451, 3)), (17, .ok (.iconst 0, 1)), (18, .ok (.istore 4, 2)), (20, .ok (.iload 4, 2)), (22, .ok (.aload_n 0, 1)), (23, .ok (.getfield 451, 3)), (26, .ok (.if_icmp .ge 108, 3)), (29, .ok (.iconst 0, 1)), (30, .ok (.istore 5, 2)), (32, .ok (.iload 5, 2)), (34, .ok (.aload_n 0, 1)), (35, .ok (.getfield 451, 3)), (38, .ok (.if_icmp .ge 90, 3)), (41, .ok (.aload_n 0, 1)), (42, .ok (.invokevirtual 442, 3)), (45, .ok (.aload_n 0, 1)), (46, .ok (.getfield 99, 3)), (49, .ok (.bipush 8, 2)), (51, .ok (.iload_n 1, 1)), (52, .ok (.iadd, 1)), (53, .ok (.aload_n 0, 1)), (54, .ok (.getfield 69, 3)), (57, .ok (.iconst 0, 1)), (58, .ok (.iaload, 1)), (59, .ok (.iload 4, 2)), (61, .ok (.iadd, 1)), (62, .ok (.iastore, 1)), (63, .ok (.aload_n 0, 1)), (64, .ok (.getfield 99, 3)), (67, .ok (.bipush 8, 2)), (69, .ok (.iload_n 2, 1))]
theorem da_355 : dl_355.all (fun q => decide (decode cX10_layGame q.1 = q.2)) = true := by decide +kernel
theorem dX10_layGame_0 : decode cX10_layGame 0 = .ok (.aload_n 0, 1) := dec_of (decode cX10_layGame) da_355 0 rfl
theorem dX10_layGame_1 : decode cX10_layGame 1 = .ok (.iconst 4, 1) := dec_of (decode cX10_layGame) da_355 1 rfl
theorem dX10_layGame_2 : decode cX10_layGame 2 = .ok (.bipush 60, 2) := dec_of (decode cX10_layGame) da_355 2 rfl
theorem dX10_layGame_4 : decode cX10_layGame 4 = .ok (.aload_n 0, 1) := dec_of (decode cX10_layGame) da_355 3 rfl
theorem dX10_layGame_5 : decode cX10_layGame 5 = .ok (.getfield 69, 3) := dec_of (decode cX10_layGame) da_355 4 rfl
theorem dX10_layGame_8 : decode cX10_layGame 8 = .ok (.iconst 0, 1) := dec_of (decode cX10_layGame) da_355 5 rfl
theorem dX10_layGame_9 : decode cX10_layGame 9 = .ok (.iaload, 1) := dec_of (decode cX10_layGame) da_355 6 rfl
theorem dX10_layGame_10 : decode cX10_layGame 10 = .ok (.isub, 1) := dec_of (decode cX10_layGame) da_355 7 rfl
theorem dX10_layGame_11 : decode cX10_layGame 11 = .ok (.invokestatic 380, 3) := dec_of (decode cX10_layGame) da_355 8 rfl
theorem dX10_layGame_14 : decode cX10_layGame 14 = .ok (.putfield 451, 3) := dec_of (decode cX10_layGame) da_355 9 rfl
theorem dX10_layGame_17 : decode cX10_layGame 17 = .ok (.iconst 0, 1) := dec_of (decode cX10_layGame) da_355 10 rfl
theorem dX10_layGame_18 : decode cX10_layGame 18 = .ok (.istore 4, 2) := dec_of (decode cX10_layGame) da_355 11 rfl
theorem dX10_layGame_20 : decode cX10_layGame 20 = .ok (.iload 4, 2) := dec_of (decode cX10_layGame) da_355 12 rfl
theorem dX10_layGame_22 : decode cX10_layGame 22 = .ok (.aload_n 0, 1) := dec_of (decode cX10_layGame) da_355 13 rfl
theorem dX10_layGame_23 : decode cX10_layGame 23 = .ok (.getfield 451, 3) := dec_of (decode cX10_layGame) da_355 14 rfl
theorem dX10_layGame_26 : decode cX10_layGame 26 = .ok (.if_icmp .ge 108, 3) := dec_of (decode cX10_layGame) da_355 15 rfl
theorem dX10_layGame_29 : decode cX10_layGame 29 = .ok (.iconst 0, 1) := dec_of (decode cX10_layGame) da_355 16 rfl
theorem dX10_layGame_30 : decode cX10_layGame 30 = .ok (.istore 5, 2) := dec_of (decode cX10_layGame) da_355 17 rfl
theorem dX10_layGame_32 : decode cX10_layGame 32 = .ok (.iload 5, 2) := dec_of (decode cX10_layGame) da_355 18 rfl
theorem dX10_layGame_34 : decode cX10_layGame 34 = .ok (.aload_n 0, 1) := dec_of (decode cX10_layGame) da_355 19 rfl
theorem dX10_layGame_35 : decode cX10_layGame 35 = .ok (.getfield 451, 3) := dec_of (decode cX10_layGame) da_355 20 rfl
theorem dX10_layGame_38 : decode cX10_layGame 38 = .ok (.if_icmp .ge 90, 3) := dec_of (decode cX10_layGame) da_355 21 rfl
theorem dX10_layGame_41 : decode cX10_layGame 41 = .ok (.aload_n 0, 1) := dec_of (decode cX10_layGame) da_355 22 rfl
theorem dX10_layGame_42 : decode cX10_layGame 42 = .ok (.invokevirtual 442, 3) := dec_of (decode cX10_layGame) da_355 23 rfl
theorem dX10_layGame_45 : decode cX10_layGame 45 = .ok (.aload_n 0, 1) := dec_of (decode cX10_layGame) da_355 24 rfl
theorem dX10_layGame_46 : decode cX10_layGame 46 = .ok (.getfield 99, 3) := dec_of (decode cX10_layGame) da_355 25 rfl
theorem dX10_layGame_49 : decode cX10_layGame 49 = .ok (.bipush 8, 2) := dec_of (decode cX10_layGame) da_355 26 rfl
theorem dX10_layGame_51 : decode cX10_layGame 51 = .ok (.iload_n 1, 1) := dec_of (decode cX10_layGame) da_355 27 rfl
theorem dX10_layGame_52 : decode cX10_layGame 52 = .ok (.iadd, 1) := dec_of (decode cX10_layGame) da_355 28 rfl
theorem dX10_layGame_53 : decode cX10_layGame 53 = .ok (.aload_n 0, 1) := dec_of (decode cX10_layGame) da_355 29 rfl
theorem dX10_layGame_54 : decode cX10_layGame 54 = .ok (.getfield 69, 3) := dec_of (decode cX10_layGame) da_355 30 rfl
theorem dX10_layGame_57 : decode cX10_layGame 57 = .ok (.iconst 0, 1) := dec_of (decode cX10_layGame) da_355 31 rfl
theorem dX10_layGame_58 : decode cX10_layGame 58 = .ok (.iaload, 1) := dec_of (decode cX10_layGame) da_355 32 rfl
theorem dX10_layGame_59 : decode cX10_layGame 59 = .ok (.iload 4, 2) := dec_of (decode cX10_layGame) da_355 33 rfl
theorem dX10_layGame_61 : decode cX10_layGame 61 = .ok (.iadd, 1) := dec_of (decode cX10_layGame) da_355 34 rfl
theorem dX10_layGame_62 : decode cX10_layGame 62 = .ok (.iastore, 1) := dec_of (decode cX10_layGame) da_355 35 rfl
theorem dX10_layGame_63 : decode cX10_layGame 63 = .ok (.aload_n 0, 1) := dec_of (decode cX10_layGame) da_355 36 rfl
theorem dX10_layGame_64 : decode cX10_layGame 64 = .ok (.getfield 99, 3) := dec_of (decode cX10_layGame) da_355 37 rfl
theorem dX10_layGame_67 : decode cX10_layGame 67 = .ok (.bipush 8, 2) := dec_of (decode cX10_layGame) da_355 38 rfl
theorem dX10_layGame_69 : decode cX10_layGame 69 = .ok (.iload_n 2, 1) := dec_of (decode cX10_layGame) da_355 39 rfl
abbrev dl_356 : List (Nat × Except DecodeError (Instr × Nat)) := [(70, .ok (.iadd, 1)), (71, .ok (.aload_n 0, 1)), (72, .ok (.getfield 69, 3)), (75, .ok (.iconst 0, 1)), (76, .ok (.iaload, 1)), (77, .ok (.iload 5, 2)), (79, .ok (.iadd, 1)), (80, .ok (.iastore, 1)), (81, .ok (.aload_n 0, 1)), (82, .ok (.iload_n 3, 1)), (83, .ok (.invokevirtual 445, 3)), (86, .ok (.aload_n 0, 1)), (87, .ok (.getfield 123, 3)), (90, .ok (.iconst 4, 1)), (91, .ok (.iload 4, 2)), (93, .ok (.imul, 1)), (94, .ok (.iload 5, 2)), (96, .ok (.iadd, 1)), (97, .ok (.aload_n 0, 1)), (98, .ok (.iload_n 1, 1)), (99, .ok (.iload_n 3, 1)), (100, .ok (.invokevirtual 454, 3)), (103, .ok (.iastore, 1)), (104, .ok (.aload_n 0, 1)), (105, .ok (.getfield 126, 3)), (108, .ok (.iconst 4, 1)), (109, .ok (.iload 4, 2)), (111, .ok (.imul, 1)), (112, .ok (.iload 5, 2)), (114, .ok (.iadd, 1)), (115, .ok (.aload_n 0, 1)), (116, .ok (.iload_n 2, 1)), (117, .ok (.iload_n 3, 1)), (118, .ok (.invokevirtual 454, 3)), (121, .ok (.iastore, 1)), (122, .ok (.iinc 5 1, 3)), (125, .ok (.goto (-93), 3)), (128, .ok (.iinc 4 1, 3)), (131, .ok (.goto (-111), 3)), (134, .ok (.return_, 1))]
theorem da_356 : dl_356.all (fun q => decide (decode cX10_layGame q.1 = q.2)) = true := by decide +kernel
theorem dX10_layGame_70 : decode cX10_layGame 70 = .ok (.iadd, 1) := dec_of (decode cX10_layGame) da_356 0 rfl
theorem dX10_layGame_71 : decode cX10_layGame 71 = .ok (.aload_n 0, 1) := dec_of (decode cX10_layGame) da_356 1 rfl
theorem dX10_layGame_72 : decode cX10_layGame 72 = .ok (.getfield 69, 3) := dec_of (decode cX10_layGame) da_356 2 rfl
theorem dX10_layGame_75 : decode cX10_layGame 75 = .ok (.iconst 0, 1) := dec_of (decode cX10_layGame) da_356 3 rfl
theorem dX10_layGame_76 : decode cX10_layGame 76 = .ok (.iaload, 1) := dec_of (decode cX10_layGame) da_356 4 rfl
theorem dX10_layGame_77 : decode cX10_layGame 77 = .ok (.iload 5, 2) := dec_of (decode cX10_layGame) da_356 5 rfl
theorem dX10_layGame_79 : decode cX10_layGame 79 = .ok (.iadd, 1) := dec_of (decode cX10_layGame) da_356 6 rfl
theorem dX10_layGame_80 : decode cX10_layGame 80 = .ok (.iastore, 1) := dec_of (decode cX10_layGame) da_356 7 rfl
theorem dX10_layGame_81 : decode cX10_layGame 81 = .ok (.aload_n 0, 1) := dec_of (decode cX10_layGame) da_356 8 rfl
theorem dX10_layGame_82 : decode cX10_layGame 82 = .ok (.iload_n 3, 1) := dec_of (decode cX10_layGame) da_356 9 rfl
theorem dX10_layGame_83 : decode cX10_layGame 83 = .ok (.invokevirtual 445, 3) := dec_of (decode cX10_layGame) da_356 10 rfl
theorem dX10_layGame_86 : decode cX10_layGame 86 = .ok (.aload_n 0, 1) := dec_of (decode cX10_layGame) da_356 11 rfl
theorem dX10_layGame_87 : decode cX10_layGame 87 = .ok (.getfield 123, 3) := dec_of (decode cX10_layGame) da_356 12 rfl
theorem dX10_layGame_90 : decode cX10_layGame 90 = .ok (.iconst 4, 1) := dec_of (decode cX10_layGame) da_356 13 rfl
theorem dX10_layGame_91 : decode cX10_layGame 91 = .ok (.iload 4, 2) := dec_of (decode cX10_layGame) da_356 14 rfl
theorem dX10_layGame_93 : decode cX10_layGame 93 = .ok (.imul, 1) := dec_of (decode cX10_layGame) da_356 15 rfl
theorem dX10_layGame_94 : decode cX10_layGame 94 = .ok (.iload 5, 2) := dec_of (decode cX10_layGame) da_356 16 rfl
theorem dX10_layGame_96 : decode cX10_layGame 96 = .ok (.iadd, 1) := dec_of (decode cX10_layGame) da_356 17 rfl
theorem dX10_layGame_97 : decode cX10_layGame 97 = .ok (.aload_n 0, 1) := dec_of (decode cX10_layGame) da_356 18 rfl
theorem dX10_layGame_98 : decode cX10_layGame 98 = .ok (.iload_n 1, 1) := dec_of (decode cX10_layGame) da_356 19 rfl
theorem dX10_layGame_99 : decode cX10_layGame 99 = .ok (.iload_n 3, 1) := dec_of (decode cX10_layGame) da_356 20 rfl
theorem dX10_layGame_100 : decode cX10_layGame 100 = .ok (.invokevirtual 454, 3) := dec_of (decode cX10_layGame) da_356 21 rfl
theorem dX10_layGame_103 : decode cX10_layGame 103 = .ok (.iastore, 1) := dec_of (decode cX10_layGame) da_356 22 rfl
theorem dX10_layGame_104 : decode cX10_layGame 104 = .ok (.aload_n 0, 1) := dec_of (decode cX10_layGame) da_356 23 rfl
theorem dX10_layGame_105 : decode cX10_layGame 105 = .ok (.getfield 126, 3) := dec_of (decode cX10_layGame) da_356 24 rfl
theorem dX10_layGame_108 : decode cX10_layGame 108 = .ok (.iconst 4, 1) := dec_of (decode cX10_layGame) da_356 25 rfl
theorem dX10_layGame_109 : decode cX10_layGame 109 = .ok (.iload 4, 2) := dec_of (decode cX10_layGame) da_356 26 rfl
theorem dX10_layGame_111 : decode cX10_layGame 111 = .ok (.imul, 1) := dec_of (decode cX10_layGame) da_356 27 rfl
theorem dX10_layGame_112 : decode cX10_layGame 112 = .ok (.iload 5, 2) := dec_of (decode cX10_layGame) da_356 28 rfl
theorem dX10_layGame_114 : decode cX10_layGame 114 = .ok (.iadd, 1) := dec_of (decode cX10_layGame) da_356 29 rfl
theorem dX10_layGame_115 : decode cX10_layGame 115 = .ok (.aload_n 0, 1) := dec_of (decode cX10_layGame) da_356 30 rfl
theorem dX10_layGame_116 : decode cX10_layGame 116 = .ok (.iload_n 2, 1) := dec_of (decode cX10_layGame) da_356 31 rfl
theorem dX10_layGame_117 : decode cX10_layGame 117 = .ok (.iload_n 3, 1) := dec_of (decode cX10_layGame) da_356 32 rfl
theorem dX10_layGame_118 : decode cX10_layGame 118 = .ok (.invokevirtual 454, 3) := dec_of (decode cX10_layGame) da_356 33 rfl
theorem dX10_layGame_121 : decode cX10_layGame 121 = .ok (.iastore, 1) := dec_of (decode cX10_layGame) da_356 34 rfl
theorem dX10_layGame_122 : decode cX10_layGame 122 = .ok (.iinc 5 1, 3) := dec_of (decode cX10_layGame) da_356 35 rfl
theorem dX10_layGame_125 : decode cX10_layGame 125 = .ok (.goto (-93), 3) := dec_of (decode cX10_layGame) da_356 36 rfl
theorem dX10_layGame_128 : decode cX10_layGame 128 = .ok (.iinc 4 1, 3) := dec_of (decode cX10_layGame) da_356 37 rfl
theorem dX10_layGame_131 : decode cX10_layGame 131 = .ok (.goto (-111), 3) := dec_of (decode cX10_layGame) da_356 38 rfl
theorem dX10_layGame_134 : decode cX10_layGame 134 = .ok (.return_, 1) := dec_of (decode cX10_layGame) da_356 39 rfl
abbrev dl_357 : List (Nat × Except DecodeError (Instr × Nat)) := [(0, .ok (.iconst 0, 1)), (1, .ok (.istore_n 3, 1)), (2, .ok (.iload_n 3, 1)), (3, .ok (.aload_n 0, 1)), (4, .ok (.getfield 451, 3)), (7, .ok (.if_icmp .ge 57, 3)), (10, .ok (.aload_n 0, 1)), (11, .ok (.getfield 123, 3)), (14, .ok (.iconst 4, 1)), (15, .ok (.iload_n 3, 1)), (16, .ok (.imul, 1)), (17, .ok (.iload_n 2, 1)), (18, .ok (.iadd, 1)), (19, .ok (.iaload, 1)), (20, .ok (.aload_n 0, 1)), (21, .ok (.getfield 123, 3)), (24, .ok (.iconst 4, 1)), (25, .ok (.iload_n 1, 1)), (26, .ok (.imul, 1)), (27, .ok (.iload_n 2, 1)), (28, .ok (.iadd, 1)), (29, .ok (.iaload, 1)), (30, .ok (.if_icmp .gt 26, 3)), (33, .ok (.aload_n 0, 1)), (34, .ok (.getfield 126, 3)), (37, .ok (.iconst 4, 1)), (38, .ok (.iload_n 1, 1)), (39, .ok (.imul, 1)), (40, .ok (.iload_n 3, 1)), (41, .ok (.iadd, 1)), (42, .ok (.iaload, 1)), (43, .ok (.aload_n 0, 1)), (44, .ok (.getfield 126, 3)), (47, .ok (.iconst 4, 1)), (48, .ok (.iload_n 1, 1)), (49, .ok (.imul, 1)), (50, .ok (.iload_n 2, 1)), (51, .ok (.iadd, 1)), (52, .ok (.iaload, 1)), (53, .ok (.if_icmp .le 5, 3))]
theorem da_357 : dl_357.all (fun q => decide (decode cX10_isRest q.1 = q.2)) = true := by decide +kernel
theorem dX10_isRest_0 : decode cX10_isRest 0 = .ok (.iconst 0, 1) := dec_of (decode cX10_isRest) da_357 0 rfl
theorem dX10_isRest_1 : decode cX10_isRest 1 = .ok (.istore_n 3, 1) := dec_of (decode cX10_isRest) da_357 1 rfl
theorem dX10_isRest_2 : decode cX10_isRest 2 = .ok (.iload_n 3, 1) := dec_of (decode cX10_isRest) da_357 2 rfl
theorem dX10_isRest_3 : decode cX10_isRest 3 = .ok (.aload_n 0, 1) := dec_of (decode cX10_isRest) da_357 3 rfl
theorem dX10_isRest_4 : decode cX10_isRest 4 = .ok (.getfield 451, 3) := dec_of (decode cX10_isRest) da_357 4 rfl
theorem dX10_isRest_7 : decode cX10_isRest 7 = .ok (.if_icmp .ge 57, 3) := dec_of (decode cX10_isRest) da_357 5 rfl
theorem dX10_isRest_10 : decode cX10_isRest 10 = .ok (.aload_n 0, 1) := dec_of (decode cX10_isRest) da_357 6 rfl
theorem dX10_isRest_11 : decode cX10_isRest 11 = .ok (.getfield 123, 3) := dec_of (decode cX10_isRest) da_357 7 rfl
theorem dX10_isRest_14 : decode cX10_isRest 14 = .ok (.iconst 4, 1) := dec_of (decode cX10_isRest) da_357 8 rfl
theorem dX10_isRest_15 : decode cX10_isRest 15 = .ok (.iload_n 3, 1) := dec_of (decode cX10_isRest) da_357 9 rfl
theorem dX10_isRest_16 : decode cX10_isRest 16 = .ok (.imul, 1) := dec_of (decode cX10_isRest) da_357 10 rfl
theorem dX10_isRest_17 : decode cX10_isRest 17 = .ok (.iload_n 2, 1) := dec_of (decode cX10_isRest) da_357 11 rfl
theorem dX10_isRest_18 : decode cX10_isRest 18 = .ok (.iadd, 1) := dec_of (decode cX10_isRest) da_357 12 rfl
theorem dX10_isRest_19 : decode cX10_isRest 19 = .ok (.iaload, 1) := dec_of (decode cX10_isRest) da_357 13 rfl
theorem dX10_isRest_20 : decode cX10_isRest 20 = .ok (.aload_n 0, 1) := dec_of (decode cX10_isRest) da_357 14 rfl
theorem dX10_isRest_21 : decode cX10_isRest 21 = .ok (.getfield 123, 3) := dec_of (decode cX10_isRest) da_357 15 rfl
theorem dX10_isRest_24 : decode cX10_isRest 24 = .ok (.iconst 4, 1) := dec_of (decode cX10_isRest) da_357 16 rfl
theorem dX10_isRest_25 : decode cX10_isRest 25 = .ok (.iload_n 1, 1) := dec_of (decode cX10_isRest) da_357 17 rfl
theorem dX10_isRest_26 : decode cX10_isRest 26 = .ok (.imul, 1) := dec_of (decode cX10_isRest) da_357 18 rfl
theorem dX10_isRest_27 : decode cX10_isRest 27 = .ok (.iload_n 2, 1) := dec_of (decode cX10_isRest) da_357 19 rfl
theorem dX10_isRest_28 : decode cX10_isRest 28 = .ok (.iadd, 1) := dec_of (decode cX10_isRest) da_357 20 rfl
theorem dX10_isRest_29 : decode cX10_isRest 29 = .ok (.iaload, 1) := dec_of (decode cX10_isRest) da_357 21 rfl
theorem dX10_isRest_30 : decode cX10_isRest 30 = .ok (.if_icmp .gt 26, 3) := dec_of (decode cX10_isRest) da_357 22 rfl
theorem dX10_isRest_33 : decode cX10_isRest 33 = .ok (.aload_n 0, 1) := dec_of (decode cX10_isRest) da_357 23 rfl
theorem dX10_isRest_34 : decode cX10_isRest 34 = .ok (.getfield 126, 3) := dec_of (decode cX10_isRest) da_357 24 rfl
theorem dX10_isRest_37 : decode cX10_isRest 37 = .ok (.iconst 4, 1) := dec_of (decode cX10_isRest) da_357 25 rfl
theorem dX10_isRest_38 : decode cX10_isRest 38 = .ok (.iload_n 1, 1) := dec_of (decode cX10_isRest) da_357 26 rfl
theorem dX10_isRest_39 : decode cX10_isRest 39 = .ok (.imul, 1) := dec_of (decode cX10_isRest) da_357 27 rfl
theorem dX10_isRest_40 : decode cX10_isRest 40 = .ok (.iload_n 3, 1) := dec_of (decode cX10_isRest) da_357 28 rfl
theorem dX10_isRest_41 : decode cX10_isRest 41 = .ok (.iadd, 1) := dec_of (decode cX10_isRest) da_357 29 rfl
theorem dX10_isRest_42 : decode cX10_isRest 42 = .ok (.iaload, 1) := dec_of (decode cX10_isRest) da_357 30 rfl
theorem dX10_isRest_43 : decode cX10_isRest 43 = .ok (.aload_n 0, 1) := dec_of (decode cX10_isRest) da_357 31 rfl
theorem dX10_isRest_44 : decode cX10_isRest 44 = .ok (.getfield 126, 3) := dec_of (decode cX10_isRest) da_357 32 rfl
theorem dX10_isRest_47 : decode cX10_isRest 47 = .ok (.iconst 4, 1) := dec_of (decode cX10_isRest) da_357 33 rfl
theorem dX10_isRest_48 : decode cX10_isRest 48 = .ok (.iload_n 1, 1) := dec_of (decode cX10_isRest) da_357 34 rfl
theorem dX10_isRest_49 : decode cX10_isRest 49 = .ok (.imul, 1) := dec_of (decode cX10_isRest) da_357 35 rfl
theorem dX10_isRest_50 : decode cX10_isRest 50 = .ok (.iload_n 2, 1) := dec_of (decode cX10_isRest) da_357 36 rfl
theorem dX10_isRest_51 : decode cX10_isRest 51 = .ok (.iadd, 1) := dec_of (decode cX10_isRest) da_357 37 rfl
theorem dX10_isRest_52 : decode cX10_isRest 52 = .ok (.iaload, 1) := dec_of (decode cX10_isRest) da_357 38 rfl
theorem dX10_isRest_53 : decode cX10_isRest 53 = .ok (.if_icmp .le 5, 3) := dec_of (decode cX10_isRest) da_357 39 rfl
abbrev dl_358 : List (Nat × Except DecodeError (Instr × Nat)) := [(56, .ok (.iconst 0, 1)), (57, .ok (.ireturn, 1)), (58, .ok (.iinc 3 1, 3)), (61, .ok (.goto (-59), 3)), (64, .ok (.iconst 1, 1)), (65, .ok (.ireturn, 1))]
theorem da_358 : dl_358.all (fun q => decide (decode cX10_isRest q.1 = q.2)) = true := by decide +kernel
theorem dX10_isRest_56 : decode cX10_isRest 56 = .ok (.iconst 0, 1) := dec_of (decode cX10_isRest) da_358 0 rfl
theorem dX10_isRest_57 : decode cX10_isRest 57 = .ok (.ireturn, 1) := dec_of (decode cX10_isRest) da_358 1 rfl
theorem dX10_isRest_58 : decode cX10_isRest 58 = .ok (.iinc 3 1, 3) := dec_of (decode cX10_isRest) da_358 2 rfl
theorem dX10_isRest_61 : decode cX10_isRest 61 = .ok (.goto (-59), 3) := dec_of (decode cX10_isRest) da_358 3 rfl
theorem dX10_isRest_64 : decode cX10_isRest 64 = .ok (.iconst 1, 1) := dec_of (decode cX10_isRest) da_358 4 rfl
theorem dX10_isRest_65 : decode cX10_isRest 65 = .ok (.ireturn, 1) := dec_of (decode cX10_isRest) da_358 5 rfl
abbrev dl_359 : List (Nat × Except DecodeError (Instr × Nat)) := [(0, .ok (.iconst 0, 1)), (1, .ok (.istore_n 2, 1)), (2, .ok (.iconst 0, 1)), (3, .ok (.istore_n 3, 1)), (4, .ok (.iload_n 3, 1)), (5, .ok (.aload_n 0, 1)), (6, .ok (.getfield 451, 3)), (9, .ok (.if_icmp .ge 70, 3)), (12, .ok (.iconst 0, 1)), (13, .ok (.istore 4, 2)), (15, .ok (.iload 4, 2)), (17, .ok (.aload_n 0, 1)), (18, .ok (.getfield 451, 3)), (21, .ok (.if_icmp .ge 52, 3)), (24, .ok (.aload_n 0, 1)), (25, .ok (.iload_n 3, 1)), (26, .ok (.iload 4, 2)), (28, .ok (.invokevirtual 457, 3)), (31, .ok (.ifCond .ne 6, 3)), (34, .ok (.goto 33, 3)), (37, .ok (.iload_n 2, 1)), (38, .ok (.iload_n 1, 1)), (39, .ok (.if_icmp .ne 25, 3)), (42, .ok (.bipush 100, 2)), (44, .ok (.aload_n 0, 1)), (45, .ok (.getfield 69, 3)), (48, .ok (.iconst 0, 1)), (49, .ok (.iaload, 1)), (50, .ok (.iload_n 3, 1)), (51, .ok (.iadd, 1)), (52, .ok (.imul, 1)), (53, .ok (.aload_n 0, 1)), (54, .ok (.getfield 69, 3)), (57, .ok (.iconst 0, 1)), (58, .ok (.iaload, 1)), (59, .ok (.iadd, 1)), (60, .ok (.iload 4, 2)), (62, .ok (.iadd, 1)), (63, .ok (.ireturn, 1)), (64, .ok (.iinc 2 1, 3))]
theorem da_359 : dl_359.all (fun q => decide (decode cX10_restOf q.1 = q.2)) = true := by decide +kernel
theorem dX10_restOf_0 : decode cX10_restOf 0 = .ok (.iconst 0, 1) := dec_of (decode cX10_restOf) da_359 0 rfl
theorem dX10_restOf_1 : decode cX10_restOf 1 = .ok (.istore_n 2, 1) := dec_of (decode cX10_restOf) da_359 1 rfl
theorem dX10_restOf_2 : decode cX10_restOf 2 = .ok (.iconst 0, 1) := dec_of (decode cX10_restOf) da_359 2 rfl
theorem dX10_restOf_3 : decode cX10_restOf 3 = .ok (.istore_n 3, 1) := dec_of (decode cX10_restOf) da_359 3 rfl
theorem dX10_restOf_4 : decode cX10_restOf 4 = .ok (.iload_n 3, 1) := dec_of (decode cX10_restOf) da_359 4 rfl
theorem dX10_restOf_5 : decode cX10_restOf 5 = .ok (.aload_n 0, 1) := dec_of (decode cX10_restOf) da_359 5 rfl
theorem dX10_restOf_6 : decode cX10_restOf 6 = .ok (.getfield 451, 3) := dec_of (decode cX10_restOf) da_359 6 rfl
theorem dX10_restOf_9 : decode cX10_restOf 9 = .ok (.if_icmp .ge 70, 3) := dec_of (decode cX10_restOf) da_359 7 rfl
theorem dX10_restOf_12 : decode cX10_restOf 12 = .ok (.iconst 0, 1) := dec_of (decode cX10_restOf) da_359 8 rfl
theorem dX10_restOf_13 : decode cX10_restOf 13 = .ok (.istore 4, 2) := dec_of (decode cX10_restOf) da_359 9 rfl
theorem dX10_restOf_15 : decode cX10_restOf 15 = .ok (.iload 4, 2) := dec_of (decode cX10_restOf) da_359 10 rfl
theorem dX10_restOf_17 : decode cX10_restOf 17 = .ok (.aload_n 0, 1) := dec_of (decode cX10_restOf) da_359 11 rfl
theorem dX10_restOf_18 : decode cX10_restOf 18 = .ok (.getfield 451, 3) := dec_of (decode cX10_restOf) da_359 12 rfl
theorem dX10_restOf_21 : decode cX10_restOf 21 = .ok (.if_icmp .ge 52, 3) := dec_of (decode cX10_restOf) da_359 13 rfl
theorem dX10_restOf_24 : decode cX10_restOf 24 = .ok (.aload_n 0, 1) := dec_of (decode cX10_restOf) da_359 14 rfl
theorem dX10_restOf_25 : decode cX10_restOf 25 = .ok (.iload_n 3, 1) := dec_of (decode cX10_restOf) da_359 15 rfl
theorem dX10_restOf_26 : decode cX10_restOf 26 = .ok (.iload 4, 2) := dec_of (decode cX10_restOf) da_359 16 rfl
theorem dX10_restOf_28 : decode cX10_restOf 28 = .ok (.invokevirtual 457, 3) := dec_of (decode cX10_restOf) da_359 17 rfl
theorem dX10_restOf_31 : decode cX10_restOf 31 = .ok (.ifCond .ne 6, 3) := dec_of (decode cX10_restOf) da_359 18 rfl
theorem dX10_restOf_34 : decode cX10_restOf 34 = .ok (.goto 33, 3) := dec_of (decode cX10_restOf) da_359 19 rfl
theorem dX10_restOf_37 : decode cX10_restOf 37 = .ok (.iload_n 2, 1) := dec_of (decode cX10_restOf) da_359 20 rfl
theorem dX10_restOf_38 : decode cX10_restOf 38 = .ok (.iload_n 1, 1) := dec_of (decode cX10_restOf) da_359 21 rfl
theorem dX10_restOf_39 : decode cX10_restOf 39 = .ok (.if_icmp .ne 25, 3) := dec_of (decode cX10_restOf) da_359 22 rfl
theorem dX10_restOf_42 : decode cX10_restOf 42 = .ok (.bipush 100, 2) := dec_of (decode cX10_restOf) da_359 23 rfl
theorem dX10_restOf_44 : decode cX10_restOf 44 = .ok (.aload_n 0, 1) := dec_of (decode cX10_restOf) da_359 24 rfl
theorem dX10_restOf_45 : decode cX10_restOf 45 = .ok (.getfield 69, 3) := dec_of (decode cX10_restOf) da_359 25 rfl
theorem dX10_restOf_48 : decode cX10_restOf 48 = .ok (.iconst 0, 1) := dec_of (decode cX10_restOf) da_359 26 rfl
theorem dX10_restOf_49 : decode cX10_restOf 49 = .ok (.iaload, 1) := dec_of (decode cX10_restOf) da_359 27 rfl
theorem dX10_restOf_50 : decode cX10_restOf 50 = .ok (.iload_n 3, 1) := dec_of (decode cX10_restOf) da_359 28 rfl
theorem dX10_restOf_51 : decode cX10_restOf 51 = .ok (.iadd, 1) := dec_of (decode cX10_restOf) da_359 29 rfl
theorem dX10_restOf_52 : decode cX10_restOf 52 = .ok (.imul, 1) := dec_of (decode cX10_restOf) da_359 30 rfl
theorem dX10_restOf_53 : decode cX10_restOf 53 = .ok (.aload_n 0, 1) := dec_of (decode cX10_restOf) da_359 31 rfl
theorem dX10_restOf_54 : decode cX10_restOf 54 = .ok (.getfield 69, 3) := dec_of (decode cX10_restOf) da_359 32 rfl
theorem dX10_restOf_57 : decode cX10_restOf 57 = .ok (.iconst 0, 1) := dec_of (decode cX10_restOf) da_359 33 rfl
theorem dX10_restOf_58 : decode cX10_restOf 58 = .ok (.iaload, 1) := dec_of (decode cX10_restOf) da_359 34 rfl
theorem dX10_restOf_59 : decode cX10_restOf 59 = .ok (.iadd, 1) := dec_of (decode cX10_restOf) da_359 35 rfl
theorem dX10_restOf_60 : decode cX10_restOf 60 = .ok (.iload 4, 2) := dec_of (decode cX10_restOf) da_359 36 rfl
theorem dX10_restOf_62 : decode cX10_restOf 62 = .ok (.iadd, 1) := dec_of (decode cX10_restOf) da_359 37 rfl
theorem dX10_restOf_63 : decode cX10_restOf 63 = .ok (.ireturn, 1) := dec_of (decode cX10_restOf) da_359 38 rfl
theorem dX10_restOf_64 : decode cX10_restOf 64 = .ok (.iinc 2 1, 3) := dec_of (decode cX10_restOf) da_359 39 rfl
abbrev dl_360 : List (Nat × Except DecodeError (Instr × Nat)) := [(67, .ok (.iinc 4 1, 3)), (70, .ok (.goto (-55), 3)), (73, .ok (.iinc 3 1, 3)), (76, .ok (.goto (-72), 3)), (79, .ok (.iload_n 1, 1)), (80, .ok (.iconst (-1), 1)), (81, .ok (.if_icmp .ne 7, 3)), (84, .ok (.iload_n 2, 1)), (85, .ok (.goto 5, 3)), (88, .ok (.bipush (-2), 2)), (90, .ok (.ireturn, 1))]
theorem da_360 : dl_360.all (fun q => decide (decode cX10_restOf q.1 = q.2)) = true := by decide +kernel
theorem dX10_restOf_67 : decode cX10_restOf 67 = .ok (.iinc 4 1, 3) := dec_of (decode cX10_restOf) da_360 0 rfl
theorem dX10_restOf_70 : decode cX10_restOf 70 = .ok (.goto (-55), 3) := dec_of (decode cX10_restOf) da_360 1 rfl
theorem dX10_restOf_73 : decode cX10_restOf 73 = .ok (.iinc 3 1, 3) := dec_of (decode cX10_restOf) da_360 2 rfl
theorem dX10_restOf_76 : decode cX10_restOf 76 = .ok (.goto (-72), 3) := dec_of (decode cX10_restOf) da_360 3 rfl
theorem dX10_restOf_79 : decode cX10_restOf 79 = .ok (.iload_n 1, 1) := dec_of (decode cX10_restOf) da_360 4 rfl
theorem dX10_restOf_80 : decode cX10_restOf 80 = .ok (.iconst (-1), 1) := dec_of (decode cX10_restOf) da_360 5 rfl
theorem dX10_restOf_81 : decode cX10_restOf 81 = .ok (.if_icmp .ne 7, 3) := dec_of (decode cX10_restOf) da_360 6 rfl
theorem dX10_restOf_84 : decode cX10_restOf 84 = .ok (.iload_n 2, 1) := dec_of (decode cX10_restOf) da_360 7 rfl
theorem dX10_restOf_85 : decode cX10_restOf 85 = .ok (.goto 5, 3) := dec_of (decode cX10_restOf) da_360 8 rfl
theorem dX10_restOf_88 : decode cX10_restOf 88 = .ok (.bipush (-2), 2) := dec_of (decode cX10_restOf) da_360 9 rfl
theorem dX10_restOf_90 : decode cX10_restOf 90 = .ok (.ireturn, 1) := dec_of (decode cX10_restOf) da_360 10 rfl
abbrev dl_361 : List (Nat × Except DecodeError (Instr × Nat)) := [(0, .ok (.iload_n 1, 1)), (1, .ok (.iconst 1, 1)), (2, .ok (.if_icmp .lt 21, 3)), (5, .ok (.iload_n 1, 1)), (6, .ok (.bipush 60, 2)), (8, .ok (.if_icmp .gt 15, 3)), (11, .ok (.iload_n 1, 1)), (12, .ok (.aload_n 0, 1)), (13, .ok (.invokevirtual 430, 3)), (16, .ok (.if_icmp .gt 7, 3)), (19, .ok (.iconst 1, 1)), (20, .ok (.goto 4, 3)), (23, .ok (.iconst 0, 1)), (24, .ok (.ireturn, 1))]
theorem da_361 : dl_361.all (fun q => decide (decode cX10_isLong q.1 = q.2)) = true := by decide +kernel
theorem dX10_isLong_0 : decode cX10_isLong 0 = .ok (.iload_n 1, 1) := dec_of (decode cX10_isLong) da_361 0 rfl
theorem dX10_isLong_1 : decode cX10_isLong 1 = .ok (.iconst 1, 1) := dec_of (decode cX10_isLong) da_361 1 rfl
theorem dX10_isLong_2 : decode cX10_isLong 2 = .ok (.if_icmp .lt 21, 3) := dec_of (decode cX10_isLong) da_361 2 rfl
theorem dX10_isLong_5 : decode cX10_isLong 5 = .ok (.iload_n 1, 1) := dec_of (decode cX10_isLong) da_361 3 rfl
theorem dX10_isLong_6 : decode cX10_isLong 6 = .ok (.bipush 60, 2) := dec_of (decode cX10_isLong) da_361 4 rfl
theorem dX10_isLong_8 : decode cX10_isLong 8 = .ok (.if_icmp .gt 15, 3) := dec_of (decode cX10_isLong) da_361 5 rfl
theorem dX10_isLong_11 : decode cX10_isLong 11 = .ok (.iload_n 1, 1) := dec_of (decode cX10_isLong) da_361 6 rfl
theorem dX10_isLong_12 : decode cX10_isLong 12 = .ok (.aload_n 0, 1) := dec_of (decode cX10_isLong) da_361 7 rfl
theorem dX10_isLong_13 : decode cX10_isLong 13 = .ok (.invokevirtual 430, 3) := dec_of (decode cX10_isLong) da_361 8 rfl
theorem dX10_isLong_16 : decode cX10_isLong 16 = .ok (.if_icmp .gt 7, 3) := dec_of (decode cX10_isLong) da_361 9 rfl
theorem dX10_isLong_19 : decode cX10_isLong 19 = .ok (.iconst 1, 1) := dec_of (decode cX10_isLong) da_361 10 rfl
theorem dX10_isLong_20 : decode cX10_isLong 20 = .ok (.goto 4, 3) := dec_of (decode cX10_isLong) da_361 11 rfl
theorem dX10_isLong_23 : decode cX10_isLong 23 = .ok (.iconst 0, 1) := dec_of (decode cX10_isLong) da_361 12 rfl
theorem dX10_isLong_24 : decode cX10_isLong 24 = .ok (.ireturn, 1) := dec_of (decode cX10_isLong) da_361 13 rfl
abbrev dl_362 : List (Nat × Except DecodeError (Instr × Nat)) := [(0, .ok (.aload_n 0, 1)), (1, .ok (.iload_n 1, 1)), (2, .ok (.invokevirtual 433, 3)), (5, .ok (.ifCond .eq 39, 3)), (8, .ok (.aload_n 0, 1)), (9, .ok (.iload_n 2, 1)), (10, .ok (.invokevirtual 433, 3)), (13, .ok (.ifCond .eq 31, 3)), (16, .ok (.iload_n 1, 1)), (17, .ok (.iload_n 2, 1)), (18, .ok (.if_icmp .eq 26, 3)), (21, .ok (.aload_n 0, 1)), (22, .ok (.getfield 69, 3)), (25, .ok (.iconst 0, 1)), (26, .ok (.iaload, 1)), (27, .ok (.bipush 59, 2)), (29, .ok (.if_icmp .gt 15, 3)), (32, .ok (.aload_n 0, 1)), (33, .ok (.iload_n 3, 1)), (34, .ok (.invokevirtual 461, 3)), (37, .ok (.ifCond .eq 7, 3)), (40, .ok (.iconst 1, 1)), (41, .ok (.goto 4, 3)), (44, .ok (.iconst 0, 1)), (45, .ok (.ireturn, 1))]
theorem da_362 : dl_362.all (fun q => decide (decode cX10_isGame q.1 = q.2)) = true := by decide +kernel
theorem dX10_isGame_0 : decode cX10_isGame 0 = .ok (.aload_n 0, 1) := dec_of (decode cX10_isGame) da_362 0 rfl
theorem dX10_isGame_1 : decode cX10_isGame 1 = .ok (.iload_n 1, 1) := dec_of (decode cX10_isGame) da_362 1 rfl
theorem dX10_isGame_2 : decode cX10_isGame 2 = .ok (.invokevirtual 433, 3) := dec_of (decode cX10_isGame) da_362 2 rfl
theorem dX10_isGame_5 : decode cX10_isGame 5 = .ok (.ifCond .eq 39, 3) := dec_of (decode cX10_isGame) da_362 3 rfl
theorem dX10_isGame_8 : decode cX10_isGame 8 = .ok (.aload_n 0, 1) := dec_of (decode cX10_isGame) da_362 4 rfl
theorem dX10_isGame_9 : decode cX10_isGame 9 = .ok (.iload_n 2, 1) := dec_of (decode cX10_isGame) da_362 5 rfl
theorem dX10_isGame_10 : decode cX10_isGame 10 = .ok (.invokevirtual 433, 3) := dec_of (decode cX10_isGame) da_362 6 rfl
theorem dX10_isGame_13 : decode cX10_isGame 13 = .ok (.ifCond .eq 31, 3) := dec_of (decode cX10_isGame) da_362 7 rfl
theorem dX10_isGame_16 : decode cX10_isGame 16 = .ok (.iload_n 1, 1) := dec_of (decode cX10_isGame) da_362 8 rfl
theorem dX10_isGame_17 : decode cX10_isGame 17 = .ok (.iload_n 2, 1) := dec_of (decode cX10_isGame) da_362 9 rfl
theorem dX10_isGame_18 : decode cX10_isGame 18 = .ok (.if_icmp .eq 26, 3) := dec_of (decode cX10_isGame) da_362 10 rfl
theorem dX10_isGame_21 : decode cX10_isGame 21 = .ok (.aload_n 0, 1) := dec_of (decode cX10_isGame) da_362 11 rfl
theorem dX10_isGame_22 : decode cX10_isGame 22 = .ok (.getfield 69, 3) := dec_of (decode cX10_isGame) da_362 12 rfl
theorem dX10_isGame_25 : decode cX10_isGame 25 = .ok (.iconst 0, 1) := dec_of (decode cX10_isGame) da_362 13 rfl
theorem dX10_isGame_26 : decode cX10_isGame 26 = .ok (.iaload, 1) := dec_of (decode cX10_isGame) da_362 14 rfl
theorem dX10_isGame_27 : decode cX10_isGame 27 = .ok (.bipush 59, 2) := dec_of (decode cX10_isGame) da_362 15 rfl
theorem dX10_isGame_29 : decode cX10_isGame 29 = .ok (.if_icmp .gt 15, 3) := dec_of (decode cX10_isGame) da_362 16 rfl
theorem dX10_isGame_32 : decode cX10_isGame 32 = .ok (.aload_n 0, 1) := dec_of (decode cX10_isGame) da_362 17 rfl
theorem dX10_isGame_33 : decode cX10_isGame 33 = .ok (.iload_n 3, 1) := dec_of (decode cX10_isGame) da_362 18 rfl
theorem dX10_isGame_34 : decode cX10_isGame 34 = .ok (.invokevirtual 461, 3) := dec_of (decode cX10_isGame) da_362 19 rfl
theorem dX10_isGame_37 : decode cX10_isGame 37 = .ok (.ifCond .eq 7, 3) := dec_of (decode cX10_isGame) da_362 20 rfl
theorem dX10_isGame_40 : decode cX10_isGame 40 = .ok (.iconst 1, 1) := dec_of (decode cX10_isGame) da_362 21 rfl
theorem dX10_isGame_41 : decode cX10_isGame 41 = .ok (.goto 4, 3) := dec_of (decode cX10_isGame) da_362 22 rfl
theorem dX10_isGame_44 : decode cX10_isGame 44 = .ok (.iconst 0, 1) := dec_of (decode cX10_isGame) da_362 23 rfl
theorem dX10_isGame_45 : decode cX10_isGame 45 = .ok (.ireturn, 1) := dec_of (decode cX10_isGame) da_362 24 rfl
abbrev dl_363 : List (Nat × Except DecodeError (Instr × Nat)) := [(0, .ok (.aload_n 0, 1)), (1, .ok (.iconst 0, 1)), (2, .ok (.putfield 154, 3)), (5, .ok (.aload_n 0, 1)), (6, .ok (.iload_n 1, 1)), (7, .ok (.iload_n 2, 1)), (8, .ok (.iload_n 3, 1)), (9, .ok (.invokevirtual 464, 3)), (12, .ok (.ifCond .ne 5, 3)), (15, .ok (.iconst (-1), 1)), (16, .ok (.ireturn, 1)), (17, .ok (.aload_n 0, 1)), (18, .ok (.iload_n 1, 1)), (19, .ok (.iload_n 2, 1)), (20, .ok (.iload_n 3, 1)), (21, .ok (.invokevirtual 468, 3)), (24, .ok (.aload_n 0, 1)), (25, .ok (.iconst (-1), 1)), (26, .ok (.invokevirtual 471, 3)), (29, .ok (.ireturn, 1))]
theorem da_363 : dl_363.all (fun q => decide (decode cX10_rests q.1 = q.2)) = true := by decide +kernel
theorem dX10_rests_0 : decode cX10_rests 0 = .ok (.aload_n 0, 1) := dec_of (decode cX10_rests) da_363 0 rfl
theorem dX10_rests_1 : decode cX10_rests 1 = .ok (.iconst 0, 1) := dec_of (decode cX10_rests) da_363 1 rfl
theorem dX10_rests_2 : decode cX10_rests 2 = .ok (.putfield 154, 3) := dec_of (decode cX10_rests) da_363 2 rfl
theorem dX10_rests_5 : decode cX10_rests 5 = .ok (.aload_n 0, 1) := dec_of (decode cX10_rests) da_363 3 rfl
theorem dX10_rests_6 : decode cX10_rests 6 = .ok (.iload_n 1, 1) := dec_of (decode cX10_rests) da_363 4 rfl
theorem dX10_rests_7 : decode cX10_rests 7 = .ok (.iload_n 2, 1) := dec_of (decode cX10_rests) da_363 5 rfl
theorem dX10_rests_8 : decode cX10_rests 8 = .ok (.iload_n 3, 1) := dec_of (decode cX10_rests) da_363 6 rfl
theorem dX10_rests_9 : decode cX10_rests 9 = .ok (.invokevirtual 464, 3) := dec_of (decode cX10_rests) da_363 7 rfl
theorem dX10_rests_12 : decode cX10_rests 12 = .ok (.ifCond .ne 5, 3) := dec_of (decode cX10_rests) da_363 8 rfl
theorem dX10_rests_15 : decode cX10_rests 15 = .ok (.iconst (-1), 1) := dec_of (decode cX10_rests) da_363 9 rfl
theorem dX10_rests_16 : decode cX10_rests 16 = .ok (.ireturn, 1) := dec_of (decode cX10_rests) da_363 10 rfl
theorem dX10_rests_17 : decode cX10_rests 17 = .ok (.aload_n 0, 1) := dec_of (decode cX10_rests) da_363 11 rfl
theorem dX10_rests_18 : decode cX10_rests 18 = .ok (.iload_n 1, 1) := dec_of (decode cX10_rests) da_363 12 rfl
theorem dX10_rests_19 : decode cX10_rests 19 = .ok (.iload_n 2, 1) := dec_of (decode cX10_rests) da_363 13 rfl
theorem dX10_rests_20 : decode cX10_rests 20 = .ok (.iload_n 3, 1) := dec_of (decode cX10_rests) da_363 14 rfl
theorem dX10_rests_21 : decode cX10_rests 21 = .ok (.invokevirtual 468, 3) := dec_of (decode cX10_rests) da_363 15 rfl
theorem dX10_rests_24 : decode cX10_rests 24 = .ok (.aload_n 0, 1) := dec_of (decode cX10_rests) da_363 16 rfl
theorem dX10_rests_25 : decode cX10_rests 25 = .ok (.iconst (-1), 1) := dec_of (decode cX10_rests) da_363 17 rfl
theorem dX10_rests_26 : decode cX10_rests 26 = .ok (.invokevirtual 471, 3) := dec_of (decode cX10_rests) da_363 18 rfl
theorem dX10_rests_29 : decode cX10_rests 29 = .ok (.ireturn, 1) := dec_of (decode cX10_rests) da_363 19 rfl
abbrev dl_364 : List (Nat × Except DecodeError (Instr × Nat)) := [(0, .ok (.aload_n 0, 1)), (1, .ok (.iconst 0, 1)), (2, .ok (.putfield 154, 3)), (5, .ok (.aload_n 0, 1)), (6, .ok (.iload_n 1, 1)), (7, .ok (.iload_n 2, 1)), (8, .ok (.iload_n 3, 1)), (9, .ok (.invokevirtual 464, 3)), (12, .ok (.ifCond .eq 8, 3)), (15, .ok (.iload 4, 2)), (17, .ok (.ifCond .ge 5, 3)), (20, .ok (.iconst (-1), 1)), (21, .ok (.ireturn, 1)), (22, .ok (.aload_n 0, 1)), (23, .ok (.iload_n 1, 1)), (24, .ok (.iload_n 2, 1)), (25, .ok (.iload_n 3, 1)), (26, .ok (.invokevirtual 468, 3)), (29, .ok (.aload_n 0, 1)), (30, .ok (.iload 4, 2)), (32, .ok (.invokevirtual 471, 3)), (35, .ok (.ireturn, 1))]
theorem da_364 : dl_364.all (fun q => decide (decode cX10_rest q.1 = q.2)) = true := by decide +kernel
theorem dX10_rest_0 : decode cX10_rest 0 = .ok (.aload_n 0, 1) := dec_of (decode cX10_rest) da_364 0 rfl
theorem dX10_rest_1 : decode cX10_rest 1 = .ok (.iconst 0, 1) := dec_of (decode cX10_rest) da_364 1 rfl
theorem dX10_rest_2 : decode cX10_rest 2 = .ok (.putfield 154, 3) := dec_of (decode cX10_rest) da_364 2 rfl
theorem dX10_rest_5 : decode cX10_rest 5 = .ok (.aload_n 0, 1) := dec_of (decode cX10_rest) da_364 3 rfl
theorem dX10_rest_6 : decode cX10_rest 6 = .ok (.iload_n 1, 1) := dec_of (decode cX10_rest) da_364 4 rfl
theorem dX10_rest_7 : decode cX10_rest 7 = .ok (.iload_n 2, 1) := dec_of (decode cX10_rest) da_364 5 rfl
theorem dX10_rest_8 : decode cX10_rest 8 = .ok (.iload_n 3, 1) := dec_of (decode cX10_rest) da_364 6 rfl
theorem dX10_rest_9 : decode cX10_rest 9 = .ok (.invokevirtual 464, 3) := dec_of (decode cX10_rest) da_364 7 rfl
theorem dX10_rest_12 : decode cX10_rest 12 = .ok (.ifCond .eq 8, 3) := dec_of (decode cX10_rest) da_364 8 rfl
theorem dX10_rest_15 : decode cX10_rest 15 = .ok (.iload 4, 2) := dec_of (decode cX10_rest) da_364 9 rfl
theorem dX10_rest_17 : decode cX10_rest 17 = .ok (.ifCond .ge 5, 3) := dec_of (decode cX10_rest) da_364 10 rfl
theorem dX10_rest_20 : decode cX10_rest 20 = .ok (.iconst (-1), 1) := dec_of (decode cX10_rest) da_364 11 rfl
theorem dX10_rest_21 : decode cX10_rest 21 = .ok (.ireturn, 1) := dec_of (decode cX10_rest) da_364 12 rfl
theorem dX10_rest_22 : decode cX10_rest 22 = .ok (.aload_n 0, 1) := dec_of (decode cX10_rest) da_364 13 rfl
theorem dX10_rest_23 : decode cX10_rest 23 = .ok (.iload_n 1, 1) := dec_of (decode cX10_rest) da_364 14 rfl
theorem dX10_rest_24 : decode cX10_rest 24 = .ok (.iload_n 2, 1) := dec_of (decode cX10_rest) da_364 15 rfl
theorem dX10_rest_25 : decode cX10_rest 25 = .ok (.iload_n 3, 1) := dec_of (decode cX10_rest) da_364 16 rfl
theorem dX10_rest_26 : decode cX10_rest 26 = .ok (.invokevirtual 468, 3) := dec_of (decode cX10_rest) da_364 17 rfl
theorem dX10_rest_29 : decode cX10_rest 29 = .ok (.aload_n 0, 1) := dec_of (decode cX10_rest) da_364 18 rfl
theorem dX10_rest_30 : decode cX10_rest 30 = .ok (.iload 4, 2) := dec_of (decode cX10_rest) da_364 19 rfl
theorem dX10_rest_32 : decode cX10_rest 32 = .ok (.invokevirtual 471, 3) := dec_of (decode cX10_rest) da_364 20 rfl
theorem dX10_rest_35 : decode cX10_rest 35 = .ok (.ireturn, 1) := dec_of (decode cX10_rest) da_364 21 rfl
abbrev dl_365 : List (Nat × Except DecodeError (Instr × Nat)) := [(0, .ok (.aload_n 0, 1)), (1, .ok (.iconst 0, 1)), (2, .ok (.putfield 154, 3)), (5, .ok (.iload_n 1, 1)), (6, .ok (.invokestatic 420, 3)), (9, .ok (.ifCond .eq 30, 3)), (12, .ok (.aload_n 0, 1)), (13, .ok (.iload_n 2, 1)), (14, .ok (.invokevirtual 356, 3)), (17, .ok (.ifCond .eq 22, 3)), (20, .ok (.aload_n 0, 1)), (21, .ok (.iload_n 3, 1)), (22, .ok (.invokevirtual 461, 3)), (25, .ok (.ifCond .eq 14, 3)), (28, .ok (.iload 4, 2)), (30, .ok (.ifCond .lt 9, 3)), (33, .ok (.iload 4, 2)), (35, .ok (.iconst 1, 1)), (36, .ok (.if_icmp .le 5, 3)), (39, .ok (.iconst (-1), 1)), (40, .ok (.ireturn, 1)), (41, .ok (.iconst (-1), 1)), (42, .ok (.istore 5, 2)), (44, .ok (.iconst 0, 1)), (45, .ok (.istore 6, 2)), (47, .ok (.iconst 0, 1)), (48, .ok (.istore 7, 2)), (50, .ok (.iload 7, 2)), (52, .ok (.bipush 8, 2)), (54, .ok (.if_icmp .ge 92, 3)), (57, .ok (.aload_n 0, 1)), (58, .ok (.invokevirtual 442, 3)), (61, .ok (.aload_n 0, 1)), (62, .ok (.getfield 114, 3)), (65, .ok (.iconst 3, 1)), (66, .ok (.iload_n 1, 1)), (67, .ok (.iadd, 1)), (68, .ok (.iload 7, 2)), (70, .ok (.iastore, 1)), (71, .ok (.iconst 0, 1))]
theorem da_365 : dl_365.all (fun q => decide (decode cX10_best q.1 = q.2)) = true := by decide +kernel
theorem dX10_best_0 : decode cX10_best 0 = .ok (.aload_n 0, 1) := dec_of (decode cX10_best) da_365 0 rfl
theorem dX10_best_1 : decode cX10_best 1 = .ok (.iconst 0, 1) := dec_of (decode cX10_best) da_365 1 rfl
theorem dX10_best_2 : decode cX10_best 2 = .ok (.putfield 154, 3) := dec_of (decode cX10_best) da_365 2 rfl
theorem dX10_best_5 : decode cX10_best 5 = .ok (.iload_n 1, 1) := dec_of (decode cX10_best) da_365 3 rfl
theorem dX10_best_6 : decode cX10_best 6 = .ok (.invokestatic 420, 3) := dec_of (decode cX10_best) da_365 4 rfl
theorem dX10_best_9 : decode cX10_best 9 = .ok (.ifCond .eq 30, 3) := dec_of (decode cX10_best) da_365 5 rfl
theorem dX10_best_12 : decode cX10_best 12 = .ok (.aload_n 0, 1) := dec_of (decode cX10_best) da_365 6 rfl
theorem dX10_best_13 : decode cX10_best 13 = .ok (.iload_n 2, 1) := dec_of (decode cX10_best) da_365 7 rfl
theorem dX10_best_14 : decode cX10_best 14 = .ok (.invokevirtual 356, 3) := dec_of (decode cX10_best) da_365 8 rfl
theorem dX10_best_17 : decode cX10_best 17 = .ok (.ifCond .eq 22, 3) := dec_of (decode cX10_best) da_365 9 rfl
theorem dX10_best_20 : decode cX10_best 20 = .ok (.aload_n 0, 1) := dec_of (decode cX10_best) da_365 10 rfl
theorem dX10_best_21 : decode cX10_best 21 = .ok (.iload_n 3, 1) := dec_of (decode cX10_best) da_365 11 rfl
theorem dX10_best_22 : decode cX10_best 22 = .ok (.invokevirtual 461, 3) := dec_of (decode cX10_best) da_365 12 rfl
theorem dX10_best_25 : decode cX10_best 25 = .ok (.ifCond .eq 14, 3) := dec_of (decode cX10_best) da_365 13 rfl
theorem dX10_best_28 : decode cX10_best 28 = .ok (.iload 4, 2) := dec_of (decode cX10_best) da_365 14 rfl
theorem dX10_best_30 : decode cX10_best 30 = .ok (.ifCond .lt 9, 3) := dec_of (decode cX10_best) da_365 15 rfl
theorem dX10_best_33 : decode cX10_best 33 = .ok (.iload 4, 2) := dec_of (decode cX10_best) da_365 16 rfl
theorem dX10_best_35 : decode cX10_best 35 = .ok (.iconst 1, 1) := dec_of (decode cX10_best) da_365 17 rfl
theorem dX10_best_36 : decode cX10_best 36 = .ok (.if_icmp .le 5, 3) := dec_of (decode cX10_best) da_365 18 rfl
theorem dX10_best_39 : decode cX10_best 39 = .ok (.iconst (-1), 1) := dec_of (decode cX10_best) da_365 19 rfl
theorem dX10_best_40 : decode cX10_best 40 = .ok (.ireturn, 1) := dec_of (decode cX10_best) da_365 20 rfl
theorem dX10_best_41 : decode cX10_best 41 = .ok (.iconst (-1), 1) := dec_of (decode cX10_best) da_365 21 rfl
theorem dX10_best_42 : decode cX10_best 42 = .ok (.istore 5, 2) := dec_of (decode cX10_best) da_365 22 rfl
theorem dX10_best_44 : decode cX10_best 44 = .ok (.iconst 0, 1) := dec_of (decode cX10_best) da_365 23 rfl
theorem dX10_best_45 : decode cX10_best 45 = .ok (.istore 6, 2) := dec_of (decode cX10_best) da_365 24 rfl
theorem dX10_best_47 : decode cX10_best 47 = .ok (.iconst 0, 1) := dec_of (decode cX10_best) da_365 25 rfl
theorem dX10_best_48 : decode cX10_best 48 = .ok (.istore 7, 2) := dec_of (decode cX10_best) da_365 26 rfl
theorem dX10_best_50 : decode cX10_best 50 = .ok (.iload 7, 2) := dec_of (decode cX10_best) da_365 27 rfl
theorem dX10_best_52 : decode cX10_best 52 = .ok (.bipush 8, 2) := dec_of (decode cX10_best) da_365 28 rfl
theorem dX10_best_54 : decode cX10_best 54 = .ok (.if_icmp .ge 92, 3) := dec_of (decode cX10_best) da_365 29 rfl
theorem dX10_best_57 : decode cX10_best 57 = .ok (.aload_n 0, 1) := dec_of (decode cX10_best) da_365 30 rfl
theorem dX10_best_58 : decode cX10_best 58 = .ok (.invokevirtual 442, 3) := dec_of (decode cX10_best) da_365 31 rfl
theorem dX10_best_61 : decode cX10_best 61 = .ok (.aload_n 0, 1) := dec_of (decode cX10_best) da_365 32 rfl
theorem dX10_best_62 : decode cX10_best 62 = .ok (.getfield 114, 3) := dec_of (decode cX10_best) da_365 33 rfl
theorem dX10_best_65 : decode cX10_best 65 = .ok (.iconst 3, 1) := dec_of (decode cX10_best) da_365 34 rfl
theorem dX10_best_66 : decode cX10_best 66 = .ok (.iload_n 1, 1) := dec_of (decode cX10_best) da_365 35 rfl
theorem dX10_best_67 : decode cX10_best 67 = .ok (.iadd, 1) := dec_of (decode cX10_best) da_365 36 rfl
theorem dX10_best_68 : decode cX10_best 68 = .ok (.iload 7, 2) := dec_of (decode cX10_best) da_365 37 rfl
theorem dX10_best_70 : decode cX10_best 70 = .ok (.iastore, 1) := dec_of (decode cX10_best) da_365 38 rfl
theorem dX10_best_71 : decode cX10_best 71 = .ok (.iconst 0, 1) := dec_of (decode cX10_best) da_365 39 rfl
abbrev dl_366 : List (Nat × Except DecodeError (Instr × Nat)) := [(72, .ok (.istore 8, 2)), (74, .ok (.iconst 0, 1)), (75, .ok (.istore 9, 2)), (77, .ok (.iload 9, 2)), (79, .ok (.iload_n 3, 1)), (80, .ok (.if_icmp .ge 36, 3)), (83, .ok (.aload_n 0, 1)), (84, .ok (.iconst 1, 1)), (85, .ok (.iconst 0, 1)), (86, .ok (.invokevirtual 407, 3)), (89, .ok (.iload 8, 2)), (91, .ok (.aload_n 0, 1)), (92, .ok (.iconst 1, 1)), (93, .ok (.iload 7, 2)), (95, .ok (.invokevirtual 417, 3)), (98, .ok (.iload_n 2, 1)), (99, .ok (.if_icmp .ne 7, 3)), (102, .ok (.iconst 1, 1)), (103, .ok (.goto 4, 3)), (106, .ok (.iconst 0, 1)), (107, .ok (.iadd, 1)), (108, .ok (.istore 8, 2)), (110, .ok (.iinc 9 1, 3)), (113, .ok (.goto (-36), 3)), (116, .ok (.iload 5, 2)), (118, .ok (.iconst (-1), 1)), (119, .ok (.if_icmp .eq 13, 3)), (122, .ok (.iload 8, 2)), (124, .ok (.iload 6, 2)), (126, .ok (.if_icmp .gt 6, 3)), (129, .ok (.goto 11, 3)), (132, .ok (.iload 7, 2)), (134, .ok (.istore 5, 2)), (136, .ok (.iload 8, 2)), (138, .ok (.istore 6, 2)), (140, .ok (.iinc 7 1, 3)), (143, .ok (.goto (-93), 3)), (146, .ok (.iload 4, 2)), (148, .ok (.ifCond .ne 8, 3)), (151, .ok (.iload 5, 2))]
theorem da_366 : dl_366.all (fun q => decide (decode cX10_best q.1 = q.2)) = true := by decide +kernel
theorem dX10_best_72 : decode cX10_best 72 = .ok (.istore 8, 2) := dec_of (decode cX10_best) da_366 0 rfl
theorem dX10_best_74 : decode cX10_best 74 = .ok (.iconst 0, 1) := dec_of (decode cX10_best) da_366 1 rfl
theorem dX10_best_75 : decode cX10_best 75 = .ok (.istore 9, 2) := dec_of (decode cX10_best) da_366 2 rfl
theorem dX10_best_77 : decode cX10_best 77 = .ok (.iload 9, 2) := dec_of (decode cX10_best) da_366 3 rfl
theorem dX10_best_79 : decode cX10_best 79 = .ok (.iload_n 3, 1) := dec_of (decode cX10_best) da_366 4 rfl
theorem dX10_best_80 : decode cX10_best 80 = .ok (.if_icmp .ge 36, 3) := dec_of (decode cX10_best) da_366 5 rfl
theorem dX10_best_83 : decode cX10_best 83 = .ok (.aload_n 0, 1) := dec_of (decode cX10_best) da_366 6 rfl
theorem dX10_best_84 : decode cX10_best 84 = .ok (.iconst 1, 1) := dec_of (decode cX10_best) da_366 7 rfl
theorem dX10_best_85 : decode cX10_best 85 = .ok (.iconst 0, 1) := dec_of (decode cX10_best) da_366 8 rfl
theorem dX10_best_86 : decode cX10_best 86 = .ok (.invokevirtual 407, 3) := dec_of (decode cX10_best) da_366 9 rfl
theorem dX10_best_89 : decode cX10_best 89 = .ok (.iload 8, 2) := dec_of (decode cX10_best) da_366 10 rfl
theorem dX10_best_91 : decode cX10_best 91 = .ok (.aload_n 0, 1) := dec_of (decode cX10_best) da_366 11 rfl
theorem dX10_best_92 : decode cX10_best 92 = .ok (.iconst 1, 1) := dec_of (decode cX10_best) da_366 12 rfl
theorem dX10_best_93 : decode cX10_best 93 = .ok (.iload 7, 2) := dec_of (decode cX10_best) da_366 13 rfl
theorem dX10_best_95 : decode cX10_best 95 = .ok (.invokevirtual 417, 3) := dec_of (decode cX10_best) da_366 14 rfl
theorem dX10_best_98 : decode cX10_best 98 = .ok (.iload_n 2, 1) := dec_of (decode cX10_best) da_366 15 rfl
theorem dX10_best_99 : decode cX10_best 99 = .ok (.if_icmp .ne 7, 3) := dec_of (decode cX10_best) da_366 16 rfl
theorem dX10_best_102 : decode cX10_best 102 = .ok (.iconst 1, 1) := dec_of (decode cX10_best) da_366 17 rfl
theorem dX10_best_103 : decode cX10_best 103 = .ok (.goto 4, 3) := dec_of (decode cX10_best) da_366 18 rfl
theorem dX10_best_106 : decode cX10_best 106 = .ok (.iconst 0, 1) := dec_of (decode cX10_best) da_366 19 rfl
theorem dX10_best_107 : decode cX10_best 107 = .ok (.iadd, 1) := dec_of (decode cX10_best) da_366 20 rfl
theorem dX10_best_108 : decode cX10_best 108 = .ok (.istore 8, 2) := dec_of (decode cX10_best) da_366 21 rfl
theorem dX10_best_110 : decode cX10_best 110 = .ok (.iinc 9 1, 3) := dec_of (decode cX10_best) da_366 22 rfl
theorem dX10_best_113 : decode cX10_best 113 = .ok (.goto (-36), 3) := dec_of (decode cX10_best) da_366 23 rfl
theorem dX10_best_116 : decode cX10_best 116 = .ok (.iload 5, 2) := dec_of (decode cX10_best) da_366 24 rfl
theorem dX10_best_118 : decode cX10_best 118 = .ok (.iconst (-1), 1) := dec_of (decode cX10_best) da_366 25 rfl
theorem dX10_best_119 : decode cX10_best 119 = .ok (.if_icmp .eq 13, 3) := dec_of (decode cX10_best) da_366 26 rfl
theorem dX10_best_122 : decode cX10_best 122 = .ok (.iload 8, 2) := dec_of (decode cX10_best) da_366 27 rfl
theorem dX10_best_124 : decode cX10_best 124 = .ok (.iload 6, 2) := dec_of (decode cX10_best) da_366 28 rfl
theorem dX10_best_126 : decode cX10_best 126 = .ok (.if_icmp .gt 6, 3) := dec_of (decode cX10_best) da_366 29 rfl
theorem dX10_best_129 : decode cX10_best 129 = .ok (.goto 11, 3) := dec_of (decode cX10_best) da_366 30 rfl
theorem dX10_best_132 : decode cX10_best 132 = .ok (.iload 7, 2) := dec_of (decode cX10_best) da_366 31 rfl
theorem dX10_best_134 : decode cX10_best 134 = .ok (.istore 5, 2) := dec_of (decode cX10_best) da_366 32 rfl
theorem dX10_best_136 : decode cX10_best 136 = .ok (.iload 8, 2) := dec_of (decode cX10_best) da_366 33 rfl
theorem dX10_best_138 : decode cX10_best 138 = .ok (.istore 6, 2) := dec_of (decode cX10_best) da_366 34 rfl
theorem dX10_best_140 : decode cX10_best 140 = .ok (.iinc 7 1, 3) := dec_of (decode cX10_best) da_366 35 rfl
theorem dX10_best_143 : decode cX10_best 143 = .ok (.goto (-93), 3) := dec_of (decode cX10_best) da_366 36 rfl
theorem dX10_best_146 : decode cX10_best 146 = .ok (.iload 4, 2) := dec_of (decode cX10_best) da_366 37 rfl
theorem dX10_best_148 : decode cX10_best 148 = .ok (.ifCond .ne 8, 3) := dec_of (decode cX10_best) da_366 38 rfl
theorem dX10_best_151 : decode cX10_best 151 = .ok (.iload 5, 2) := dec_of (decode cX10_best) da_366 39 rfl
abbrev dl_367 : List (Nat × Except DecodeError (Instr × Nat)) := [(153, .ok (.goto 5, 3)), (156, .ok (.iload 6, 2)), (158, .ok (.ireturn, 1))]
theorem da_367 : dl_367.all (fun q => decide (decode cX10_best q.1 = q.2)) = true := by decide +kernel
theorem dX10_best_153 : decode cX10_best 153 = .ok (.goto 5, 3) := dec_of (decode cX10_best) da_367 0 rfl
theorem dX10_best_156 : decode cX10_best 156 = .ok (.iload 6, 2) := dec_of (decode cX10_best) da_367 1 rfl
theorem dX10_best_158 : decode cX10_best 158 = .ok (.ireturn, 1) := dec_of (decode cX10_best) da_367 2 rfl
abbrev dl_368 : List (Nat × Except DecodeError (Instr × Nat)) := [(0, .ok (.aload_n 0, 1)), (1, .ok (.iconst 0, 1)), (2, .ok (.putfield 154, 3)), (5, .ok (.iload_n 1, 1)), (6, .ok (.invokestatic 420, 3)), (9, .ok (.ifCond .eq 20, 3)), (12, .ok (.aload_n 0, 1)), (13, .ok (.iload_n 2, 1)), (14, .ok (.invokevirtual 461, 3)), (17, .ok (.ifCond .eq 12, 3)), (20, .ok (.iload_n 3, 1)), (21, .ok (.ifCond .lt 8, 3)), (24, .ok (.iload_n 3, 1)), (25, .ok (.iconst 1, 1)), (26, .ok (.if_icmp .le 5, 3)), (29, .ok (.iconst (-1), 1)), (30, .ok (.ireturn, 1)), (31, .ok (.iconst (-1), 1)), (32, .ok (.istore 4, 2)), (34, .ok (.iconst 0, 1)), (35, .ok (.istore 5, 2)), (37, .ok (.iconst 0, 1)), (38, .ok (.istore 6, 2)), (40, .ok (.iload 6, 2)), (42, .ok (.bipush 8, 2)), (44, .ok (.if_icmp .ge 101, 3)), (47, .ok (.aload_n 0, 1)), (48, .ok (.invokevirtual 442, 3)), (51, .ok (.aload_n 0, 1)), (52, .ok (.getfield 114, 3)), (55, .ok (.iconst 3, 1)), (56, .ok (.iload_n 1, 1)), (57, .ok (.iadd, 1)), (58, .ok (.iload 6, 2)), (60, .ok (.iastore, 1)), (61, .ok (.iconst 0, 1)), (62, .ok (.istore 7, 2)), (64, .ok (.iconst 0, 1)), (65, .ok (.istore 8, 2)), (67, .ok (.iload 8, 2))]
theorem da_368 : dl_368.all (fun q => decide (decode cX10_fairest q.1 = q.2)) = true := by decide +kernel
theorem dX10_fairest_0 : decode cX10_fairest 0 = .ok (.aload_n 0, 1) := dec_of (decode cX10_fairest) da_368 0 rfl
theorem dX10_fairest_1 : decode cX10_fairest 1 = .ok (.iconst 0, 1) := dec_of (decode cX10_fairest) da_368 1 rfl
theorem dX10_fairest_2 : decode cX10_fairest 2 = .ok (.putfield 154, 3) := dec_of (decode cX10_fairest) da_368 2 rfl
theorem dX10_fairest_5 : decode cX10_fairest 5 = .ok (.iload_n 1, 1) := dec_of (decode cX10_fairest) da_368 3 rfl
theorem dX10_fairest_6 : decode cX10_fairest 6 = .ok (.invokestatic 420, 3) := dec_of (decode cX10_fairest) da_368 4 rfl
theorem dX10_fairest_9 : decode cX10_fairest 9 = .ok (.ifCond .eq 20, 3) := dec_of (decode cX10_fairest) da_368 5 rfl
theorem dX10_fairest_12 : decode cX10_fairest 12 = .ok (.aload_n 0, 1) := dec_of (decode cX10_fairest) da_368 6 rfl
theorem dX10_fairest_13 : decode cX10_fairest 13 = .ok (.iload_n 2, 1) := dec_of (decode cX10_fairest) da_368 7 rfl
theorem dX10_fairest_14 : decode cX10_fairest 14 = .ok (.invokevirtual 461, 3) := dec_of (decode cX10_fairest) da_368 8 rfl
theorem dX10_fairest_17 : decode cX10_fairest 17 = .ok (.ifCond .eq 12, 3) := dec_of (decode cX10_fairest) da_368 9 rfl
theorem dX10_fairest_20 : decode cX10_fairest 20 = .ok (.iload_n 3, 1) := dec_of (decode cX10_fairest) da_368 10 rfl
theorem dX10_fairest_21 : decode cX10_fairest 21 = .ok (.ifCond .lt 8, 3) := dec_of (decode cX10_fairest) da_368 11 rfl
theorem dX10_fairest_24 : decode cX10_fairest 24 = .ok (.iload_n 3, 1) := dec_of (decode cX10_fairest) da_368 12 rfl
theorem dX10_fairest_25 : decode cX10_fairest 25 = .ok (.iconst 1, 1) := dec_of (decode cX10_fairest) da_368 13 rfl
theorem dX10_fairest_26 : decode cX10_fairest 26 = .ok (.if_icmp .le 5, 3) := dec_of (decode cX10_fairest) da_368 14 rfl
theorem dX10_fairest_29 : decode cX10_fairest 29 = .ok (.iconst (-1), 1) := dec_of (decode cX10_fairest) da_368 15 rfl
theorem dX10_fairest_30 : decode cX10_fairest 30 = .ok (.ireturn, 1) := dec_of (decode cX10_fairest) da_368 16 rfl
theorem dX10_fairest_31 : decode cX10_fairest 31 = .ok (.iconst (-1), 1) := dec_of (decode cX10_fairest) da_368 17 rfl
theorem dX10_fairest_32 : decode cX10_fairest 32 = .ok (.istore 4, 2) := dec_of (decode cX10_fairest) da_368 18 rfl
theorem dX10_fairest_34 : decode cX10_fairest 34 = .ok (.iconst 0, 1) := dec_of (decode cX10_fairest) da_368 19 rfl
theorem dX10_fairest_35 : decode cX10_fairest 35 = .ok (.istore 5, 2) := dec_of (decode cX10_fairest) da_368 20 rfl
theorem dX10_fairest_37 : decode cX10_fairest 37 = .ok (.iconst 0, 1) := dec_of (decode cX10_fairest) da_368 21 rfl
theorem dX10_fairest_38 : decode cX10_fairest 38 = .ok (.istore 6, 2) := dec_of (decode cX10_fairest) da_368 22 rfl
theorem dX10_fairest_40 : decode cX10_fairest 40 = .ok (.iload 6, 2) := dec_of (decode cX10_fairest) da_368 23 rfl
theorem dX10_fairest_42 : decode cX10_fairest 42 = .ok (.bipush 8, 2) := dec_of (decode cX10_fairest) da_368 24 rfl
theorem dX10_fairest_44 : decode cX10_fairest 44 = .ok (.if_icmp .ge 101, 3) := dec_of (decode cX10_fairest) da_368 25 rfl
theorem dX10_fairest_47 : decode cX10_fairest 47 = .ok (.aload_n 0, 1) := dec_of (decode cX10_fairest) da_368 26 rfl
theorem dX10_fairest_48 : decode cX10_fairest 48 = .ok (.invokevirtual 442, 3) := dec_of (decode cX10_fairest) da_368 27 rfl
theorem dX10_fairest_51 : decode cX10_fairest 51 = .ok (.aload_n 0, 1) := dec_of (decode cX10_fairest) da_368 28 rfl
theorem dX10_fairest_52 : decode cX10_fairest 52 = .ok (.getfield 114, 3) := dec_of (decode cX10_fairest) da_368 29 rfl
theorem dX10_fairest_55 : decode cX10_fairest 55 = .ok (.iconst 3, 1) := dec_of (decode cX10_fairest) da_368 30 rfl
theorem dX10_fairest_56 : decode cX10_fairest 56 = .ok (.iload_n 1, 1) := dec_of (decode cX10_fairest) da_368 31 rfl
theorem dX10_fairest_57 : decode cX10_fairest 57 = .ok (.iadd, 1) := dec_of (decode cX10_fairest) da_368 32 rfl
theorem dX10_fairest_58 : decode cX10_fairest 58 = .ok (.iload 6, 2) := dec_of (decode cX10_fairest) da_368 33 rfl
theorem dX10_fairest_60 : decode cX10_fairest 60 = .ok (.iastore, 1) := dec_of (decode cX10_fairest) da_368 34 rfl
theorem dX10_fairest_61 : decode cX10_fairest 61 = .ok (.iconst 0, 1) := dec_of (decode cX10_fairest) da_368 35 rfl
theorem dX10_fairest_62 : decode cX10_fairest 62 = .ok (.istore 7, 2) := dec_of (decode cX10_fairest) da_368 36 rfl
theorem dX10_fairest_64 : decode cX10_fairest 64 = .ok (.iconst 0, 1) := dec_of (decode cX10_fairest) da_368 37 rfl
theorem dX10_fairest_65 : decode cX10_fairest 65 = .ok (.istore 8, 2) := dec_of (decode cX10_fairest) da_368 38 rfl
theorem dX10_fairest_67 : decode cX10_fairest 67 = .ok (.iload 8, 2) := dec_of (decode cX10_fairest) da_368 39 rfl
abbrev dl_369 : List (Nat × Except DecodeError (Instr × Nat)) := [(69, .ok (.iload_n 2, 1)), (70, .ok (.if_icmp .ge 39, 3)), (73, .ok (.aload_n 0, 1)), (74, .ok (.iconst 1, 1)), (75, .ok (.iconst 0, 1)), (76, .ok (.invokevirtual 407, 3)), (79, .ok (.aload_n 0, 1)), (80, .ok (.iconst 1, 1)), (81, .ok (.iload 6, 2)), (83, .ok (.invokevirtual 417, 3)), (86, .ok (.ifCond .lt 17, 3)), (89, .ok (.iload 7, 2)), (91, .ok (.iconst 1, 1)), (92, .ok (.aload_n 0, 1)), (93, .ok (.iconst 1, 1)), (94, .ok (.iload 6, 2)), (96, .ok (.invokevirtual 417, 3)), (99, .ok (.ishl, 1)), (100, .ok (.ior, 1)), (101, .ok (.istore 7, 2)), (103, .ok (.iinc 8 1, 3)), (106, .ok (.goto (-39), 3)), (109, .ok (.iload 4, 2)), (111, .ok (.iconst (-1), 1)), (112, .ok (.if_icmp .eq 16, 3)), (115, .ok (.iload 7, 2)), (117, .ok (.invokestatic 448, 3)), (120, .ok (.iload 5, 2)), (122, .ok (.if_icmp .gt 6, 3)), (125, .ok (.goto 14, 3)), (128, .ok (.iload 6, 2)), (130, .ok (.istore 4, 2)), (132, .ok (.iload 7, 2)), (134, .ok (.invokestatic 448, 3)), (137, .ok (.istore 5, 2)), (139, .ok (.iinc 6 1, 3)), (142, .ok (.goto (-102), 3)), (145, .ok (.iload_n 3, 1)), (146, .ok (.ifCond .ne 8, 3)), (149, .ok (.iload 4, 2))]
theorem da_369 : dl_369.all (fun q => decide (decode cX10_fairest q.1 = q.2)) = true := by decide +kernel
theorem dX10_fairest_69 : decode cX10_fairest 69 = .ok (.iload_n 2, 1) := dec_of (decode cX10_fairest) da_369 0 rfl
theorem dX10_fairest_70 : decode cX10_fairest 70 = .ok (.if_icmp .ge 39, 3) := dec_of (decode cX10_fairest) da_369 1 rfl
theorem dX10_fairest_73 : decode cX10_fairest 73 = .ok (.aload_n 0, 1) := dec_of (decode cX10_fairest) da_369 2 rfl
theorem dX10_fairest_74 : decode cX10_fairest 74 = .ok (.iconst 1, 1) := dec_of (decode cX10_fairest) da_369 3 rfl
theorem dX10_fairest_75 : decode cX10_fairest 75 = .ok (.iconst 0, 1) := dec_of (decode cX10_fairest) da_369 4 rfl
theorem dX10_fairest_76 : decode cX10_fairest 76 = .ok (.invokevirtual 407, 3) := dec_of (decode cX10_fairest) da_369 5 rfl
theorem dX10_fairest_79 : decode cX10_fairest 79 = .ok (.aload_n 0, 1) := dec_of (decode cX10_fairest) da_369 6 rfl
theorem dX10_fairest_80 : decode cX10_fairest 80 = .ok (.iconst 1, 1) := dec_of (decode cX10_fairest) da_369 7 rfl
theorem dX10_fairest_81 : decode cX10_fairest 81 = .ok (.iload 6, 2) := dec_of (decode cX10_fairest) da_369 8 rfl
theorem dX10_fairest_83 : decode cX10_fairest 83 = .ok (.invokevirtual 417, 3) := dec_of (decode cX10_fairest) da_369 9 rfl
theorem dX10_fairest_86 : decode cX10_fairest 86 = .ok (.ifCond .lt 17, 3) := dec_of (decode cX10_fairest) da_369 10 rfl
theorem dX10_fairest_89 : decode cX10_fairest 89 = .ok (.iload 7, 2) := dec_of (decode cX10_fairest) da_369 11 rfl
theorem dX10_fairest_91 : decode cX10_fairest 91 = .ok (.iconst 1, 1) := dec_of (decode cX10_fairest) da_369 12 rfl
theorem dX10_fairest_92 : decode cX10_fairest 92 = .ok (.aload_n 0, 1) := dec_of (decode cX10_fairest) da_369 13 rfl
theorem dX10_fairest_93 : decode cX10_fairest 93 = .ok (.iconst 1, 1) := dec_of (decode cX10_fairest) da_369 14 rfl
theorem dX10_fairest_94 : decode cX10_fairest 94 = .ok (.iload 6, 2) := dec_of (decode cX10_fairest) da_369 15 rfl
theorem dX10_fairest_96 : decode cX10_fairest 96 = .ok (.invokevirtual 417, 3) := dec_of (decode cX10_fairest) da_369 16 rfl
theorem dX10_fairest_99 : decode cX10_fairest 99 = .ok (.ishl, 1) := dec_of (decode cX10_fairest) da_369 17 rfl
theorem dX10_fairest_100 : decode cX10_fairest 100 = .ok (.ior, 1) := dec_of (decode cX10_fairest) da_369 18 rfl
theorem dX10_fairest_101 : decode cX10_fairest 101 = .ok (.istore 7, 2) := dec_of (decode cX10_fairest) da_369 19 rfl
theorem dX10_fairest_103 : decode cX10_fairest 103 = .ok (.iinc 8 1, 3) := dec_of (decode cX10_fairest) da_369 20 rfl
theorem dX10_fairest_106 : decode cX10_fairest 106 = .ok (.goto (-39), 3) := dec_of (decode cX10_fairest) da_369 21 rfl
theorem dX10_fairest_109 : decode cX10_fairest 109 = .ok (.iload 4, 2) := dec_of (decode cX10_fairest) da_369 22 rfl
theorem dX10_fairest_111 : decode cX10_fairest 111 = .ok (.iconst (-1), 1) := dec_of (decode cX10_fairest) da_369 23 rfl
theorem dX10_fairest_112 : decode cX10_fairest 112 = .ok (.if_icmp .eq 16, 3) := dec_of (decode cX10_fairest) da_369 24 rfl
theorem dX10_fairest_115 : decode cX10_fairest 115 = .ok (.iload 7, 2) := dec_of (decode cX10_fairest) da_369 25 rfl
theorem dX10_fairest_117 : decode cX10_fairest 117 = .ok (.invokestatic 448, 3) := dec_of (decode cX10_fairest) da_369 26 rfl
theorem dX10_fairest_120 : decode cX10_fairest 120 = .ok (.iload 5, 2) := dec_of (decode cX10_fairest) da_369 27 rfl
theorem dX10_fairest_122 : decode cX10_fairest 122 = .ok (.if_icmp .gt 6, 3) := dec_of (decode cX10_fairest) da_369 28 rfl
theorem dX10_fairest_125 : decode cX10_fairest 125 = .ok (.goto 14, 3) := dec_of (decode cX10_fairest) da_369 29 rfl
theorem dX10_fairest_128 : decode cX10_fairest 128 = .ok (.iload 6, 2) := dec_of (decode cX10_fairest) da_369 30 rfl
theorem dX10_fairest_130 : decode cX10_fairest 130 = .ok (.istore 4, 2) := dec_of (decode cX10_fairest) da_369 31 rfl
theorem dX10_fairest_132 : decode cX10_fairest 132 = .ok (.iload 7, 2) := dec_of (decode cX10_fairest) da_369 32 rfl
theorem dX10_fairest_134 : decode cX10_fairest 134 = .ok (.invokestatic 448, 3) := dec_of (decode cX10_fairest) da_369 33 rfl
theorem dX10_fairest_137 : decode cX10_fairest 137 = .ok (.istore 5, 2) := dec_of (decode cX10_fairest) da_369 34 rfl
theorem dX10_fairest_139 : decode cX10_fairest 139 = .ok (.iinc 6 1, 3) := dec_of (decode cX10_fairest) da_369 35 rfl
theorem dX10_fairest_142 : decode cX10_fairest 142 = .ok (.goto (-102), 3) := dec_of (decode cX10_fairest) da_369 36 rfl
theorem dX10_fairest_145 : decode cX10_fairest 145 = .ok (.iload_n 3, 1) := dec_of (decode cX10_fairest) da_369 37 rfl
theorem dX10_fairest_146 : decode cX10_fairest 146 = .ok (.ifCond .ne 8, 3) := dec_of (decode cX10_fairest) da_369 38 rfl
theorem dX10_fairest_149 : decode cX10_fairest 149 = .ok (.iload 4, 2) := dec_of (decode cX10_fairest) da_369 39 rfl
abbrev dl_370 : List (Nat × Except DecodeError (Instr × Nat)) := [(151, .ok (.goto 5, 3)), (154, .ok (.iload 5, 2)), (156, .ok (.ireturn, 1))]
theorem da_370 : dl_370.all (fun q => decide (decode cX10_fairest q.1 = q.2)) = true := by decide +kernel
theorem dX10_fairest_151 : decode cX10_fairest 151 = .ok (.goto 5, 3) := dec_of (decode cX10_fairest) da_370 0 rfl
theorem dX10_fairest_154 : decode cX10_fairest 154 = .ok (.iload 5, 2) := dec_of (decode cX10_fairest) da_370 1 rfl
theorem dX10_fairest_156 : decode cX10_fairest 156 = .ok (.ireturn, 1) := dec_of (decode cX10_fairest) da_370 2 rfl
abbrev dl_371 : List (Nat × Except DecodeError (Instr × Nat)) := [(0, .ok (.aload_n 0, 1)), (1, .ok (.iconst 0, 1)), (2, .ok (.putfield 154, 3)), (5, .ok (.iload_n 1, 1)), (6, .ok (.invokestatic 414, 3)), (9, .ok (.ifCond .eq 21, 3)), (12, .ok (.iload_n 1, 1)), (13, .ok (.aload_n 0, 1)), (14, .ok (.getfield 81, 3)), (17, .ok (.iconst 0, 1)), (18, .ok (.iaload, 1)), (19, .ok (.if_icmp .ge 11, 3)), (22, .ok (.aload_n 0, 1)), (23, .ok (.iload_n 2, 1)), (24, .ok (.invokevirtual 461, 3)), (27, .ok (.ifCond .ne 5, 3)), (30, .ok (.iconst (-1), 1)), (31, .ok (.ireturn, 1)), (32, .ok (.aload_n 0, 1)), (33, .ok (.invokevirtual 442, 3)), (36, .ok (.aload_n 0, 1)), (37, .ok (.iload_n 2, 1)), (38, .ok (.invokevirtual 445, 3)), (41, .ok (.iconst 0, 1)), (42, .ok (.istore_n 3, 1)), (43, .ok (.iload_n 3, 1)), (44, .ok (.bipush 8, 2)), (46, .ok (.if_icmp .ge 52, 3)), (49, .ok (.aload_n 0, 1)), (50, .ok (.getfield 129, 3)), (53, .ok (.iload_n 3, 1)), (54, .ok (.iload_n 3, 1)), (55, .ok (.aload_n 0, 1)), (56, .ok (.getfield 13, 3)), (59, .ok (.iconst 0, 1)), (60, .ok (.iaload, 1)), (61, .ok (.if_icmp .ge 28, 3)), (64, .ok (.aload_n 0, 1)), (65, .ok (.getfield 87, 3)), (68, .ok (.bipush 8, 2))]
theorem da_371 : dl_371.all (fun q => decide (decode cX10_gain q.1 = q.2)) = true := by decide +kernel
theorem dX10_gain_0 : decode cX10_gain 0 = .ok (.aload_n 0, 1) := dec_of (decode cX10_gain) da_371 0 rfl
theorem dX10_gain_1 : decode cX10_gain 1 = .ok (.iconst 0, 1) := dec_of (decode cX10_gain) da_371 1 rfl
theorem dX10_gain_2 : decode cX10_gain 2 = .ok (.putfield 154, 3) := dec_of (decode cX10_gain) da_371 2 rfl
theorem dX10_gain_5 : decode cX10_gain 5 = .ok (.iload_n 1, 1) := dec_of (decode cX10_gain) da_371 3 rfl
theorem dX10_gain_6 : decode cX10_gain 6 = .ok (.invokestatic 414, 3) := dec_of (decode cX10_gain) da_371 4 rfl
theorem dX10_gain_9 : decode cX10_gain 9 = .ok (.ifCond .eq 21, 3) := dec_of (decode cX10_gain) da_371 5 rfl
theorem dX10_gain_12 : decode cX10_gain 12 = .ok (.iload_n 1, 1) := dec_of (decode cX10_gain) da_371 6 rfl
theorem dX10_gain_13 : decode cX10_gain 13 = .ok (.aload_n 0, 1) := dec_of (decode cX10_gain) da_371 7 rfl
theorem dX10_gain_14 : decode cX10_gain 14 = .ok (.getfield 81, 3) := dec_of (decode cX10_gain) da_371 8 rfl
theorem dX10_gain_17 : decode cX10_gain 17 = .ok (.iconst 0, 1) := dec_of (decode cX10_gain) da_371 9 rfl
theorem dX10_gain_18 : decode cX10_gain 18 = .ok (.iaload, 1) := dec_of (decode cX10_gain) da_371 10 rfl
theorem dX10_gain_19 : decode cX10_gain 19 = .ok (.if_icmp .ge 11, 3) := dec_of (decode cX10_gain) da_371 11 rfl
theorem dX10_gain_22 : decode cX10_gain 22 = .ok (.aload_n 0, 1) := dec_of (decode cX10_gain) da_371 12 rfl
theorem dX10_gain_23 : decode cX10_gain 23 = .ok (.iload_n 2, 1) := dec_of (decode cX10_gain) da_371 13 rfl
theorem dX10_gain_24 : decode cX10_gain 24 = .ok (.invokevirtual 461, 3) := dec_of (decode cX10_gain) da_371 14 rfl
theorem dX10_gain_27 : decode cX10_gain 27 = .ok (.ifCond .ne 5, 3) := dec_of (decode cX10_gain) da_371 15 rfl
theorem dX10_gain_30 : decode cX10_gain 30 = .ok (.iconst (-1), 1) := dec_of (decode cX10_gain) da_371 16 rfl
theorem dX10_gain_31 : decode cX10_gain 31 = .ok (.ireturn, 1) := dec_of (decode cX10_gain) da_371 17 rfl
theorem dX10_gain_32 : decode cX10_gain 32 = .ok (.aload_n 0, 1) := dec_of (decode cX10_gain) da_371 18 rfl
theorem dX10_gain_33 : decode cX10_gain 33 = .ok (.invokevirtual 442, 3) := dec_of (decode cX10_gain) da_371 19 rfl
theorem dX10_gain_36 : decode cX10_gain 36 = .ok (.aload_n 0, 1) := dec_of (decode cX10_gain) da_371 20 rfl
theorem dX10_gain_37 : decode cX10_gain 37 = .ok (.iload_n 2, 1) := dec_of (decode cX10_gain) da_371 21 rfl
theorem dX10_gain_38 : decode cX10_gain 38 = .ok (.invokevirtual 445, 3) := dec_of (decode cX10_gain) da_371 22 rfl
theorem dX10_gain_41 : decode cX10_gain 41 = .ok (.iconst 0, 1) := dec_of (decode cX10_gain) da_371 23 rfl
theorem dX10_gain_42 : decode cX10_gain 42 = .ok (.istore_n 3, 1) := dec_of (decode cX10_gain) da_371 24 rfl
theorem dX10_gain_43 : decode cX10_gain 43 = .ok (.iload_n 3, 1) := dec_of (decode cX10_gain) da_371 25 rfl
theorem dX10_gain_44 : decode cX10_gain 44 = .ok (.bipush 8, 2) := dec_of (decode cX10_gain) da_371 26 rfl
theorem dX10_gain_46 : decode cX10_gain 46 = .ok (.if_icmp .ge 52, 3) := dec_of (decode cX10_gain) da_371 27 rfl
theorem dX10_gain_49 : decode cX10_gain 49 = .ok (.aload_n 0, 1) := dec_of (decode cX10_gain) da_371 28 rfl
theorem dX10_gain_50 : decode cX10_gain 50 = .ok (.getfield 129, 3) := dec_of (decode cX10_gain) da_371 29 rfl
theorem dX10_gain_53 : decode cX10_gain 53 = .ok (.iload_n 3, 1) := dec_of (decode cX10_gain) da_371 30 rfl
theorem dX10_gain_54 : decode cX10_gain 54 = .ok (.iload_n 3, 1) := dec_of (decode cX10_gain) da_371 31 rfl
theorem dX10_gain_55 : decode cX10_gain 55 = .ok (.aload_n 0, 1) := dec_of (decode cX10_gain) da_371 32 rfl
theorem dX10_gain_56 : decode cX10_gain 56 = .ok (.getfield 13, 3) := dec_of (decode cX10_gain) da_371 33 rfl
theorem dX10_gain_59 : decode cX10_gain 59 = .ok (.iconst 0, 1) := dec_of (decode cX10_gain) da_371 34 rfl
theorem dX10_gain_60 : decode cX10_gain 60 = .ok (.iaload, 1) := dec_of (decode cX10_gain) da_371 35 rfl
theorem dX10_gain_61 : decode cX10_gain 61 = .ok (.if_icmp .ge 28, 3) := dec_of (decode cX10_gain) da_371 36 rfl
theorem dX10_gain_64 : decode cX10_gain 64 = .ok (.aload_n 0, 1) := dec_of (decode cX10_gain) da_371 37 rfl
theorem dX10_gain_65 : decode cX10_gain 65 = .ok (.getfield 87, 3) := dec_of (decode cX10_gain) da_371 38 rfl
theorem dX10_gain_68 : decode cX10_gain 68 = .ok (.bipush 8, 2) := dec_of (decode cX10_gain) da_371 39 rfl
abbrev dl_372 : List (Nat × Except DecodeError (Instr × Nat)) := [(70, .ok (.iload_n 3, 1)), (71, .ok (.iadd, 1)), (72, .ok (.iaload, 1)), (73, .ok (.iconst 2, 1)), (74, .ok (.if_icmp .ne 15, 3)), (77, .ok (.aload_n 0, 1)), (78, .ok (.getfield 111, 3)), (81, .ok (.bipush 8, 2)), (83, .ok (.iload_n 3, 1)), (84, .ok (.iadd, 1)), (85, .ok (.iaload, 1)), (86, .ok (.goto 5, 3)), (89, .ok (.bipush 120, 2)), (91, .ok (.iastore, 1)), (92, .ok (.iinc 3 1, 3)), (95, .ok (.goto (-52), 3)), (98, .ok (.aload_n 0, 1)), (99, .ok (.invokevirtual 442, 3)), (102, .ok (.iload_n 1, 1)), (103, .ok (.istore_n 3, 1)), (104, .ok (.iload_n 3, 1)), (105, .ok (.aload_n 0, 1)), (106, .ok (.getfield 81, 3)), (109, .ok (.iconst 0, 1)), (110, .ok (.iaload, 1)), (111, .ok (.if_icmp .ge 26, 3)), (114, .ok (.aload_n 0, 1)), (115, .ok (.getfield 84, 3)), (118, .ok (.bipush 8, 2)), (120, .ok (.iload_n 3, 1)), (121, .ok (.iadd, 1)), (122, .ok (.iload_n 1, 1)), (123, .ok (.isub, 1)), (124, .ok (.aload_n 0, 1)), (125, .ok (.getfield 84, 3)), (128, .ok (.iload_n 3, 1)), (129, .ok (.iaload, 1)), (130, .ok (.iastore, 1)), (131, .ok (.iinc 3 1, 3)), (134, .ok (.goto (-30), 3))]
theorem da_372 : dl_372.all (fun q => decide (decode cX10_gain q.1 = q.2)) = true := by decide +kernel
theorem dX10_gain_70 : decode cX10_gain 70 = .ok (.iload_n 3, 1) := dec_of (decode cX10_gain) da_372 0 rfl
theorem dX10_gain_71 : decode cX10_gain 71 = .ok (.iadd, 1) := dec_of (decode cX10_gain) da_372 1 rfl
theorem dX10_gain_72 : decode cX10_gain 72 = .ok (.iaload, 1) := dec_of (decode cX10_gain) da_372 2 rfl
theorem dX10_gain_73 : decode cX10_gain 73 = .ok (.iconst 2, 1) := dec_of (decode cX10_gain) da_372 3 rfl
theorem dX10_gain_74 : decode cX10_gain 74 = .ok (.if_icmp .ne 15, 3) := dec_of (decode cX10_gain) da_372 4 rfl
theorem dX10_gain_77 : decode cX10_gain 77 = .ok (.aload_n 0, 1) := dec_of (decode cX10_gain) da_372 5 rfl
theorem dX10_gain_78 : decode cX10_gain 78 = .ok (.getfield 111, 3) := dec_of (decode cX10_gain) da_372 6 rfl
theorem dX10_gain_81 : decode cX10_gain 81 = .ok (.bipush 8, 2) := dec_of (decode cX10_gain) da_372 7 rfl
theorem dX10_gain_83 : decode cX10_gain 83 = .ok (.iload_n 3, 1) := dec_of (decode cX10_gain) da_372 8 rfl
theorem dX10_gain_84 : decode cX10_gain 84 = .ok (.iadd, 1) := dec_of (decode cX10_gain) da_372 9 rfl
theorem dX10_gain_85 : decode cX10_gain 85 = .ok (.iaload, 1) := dec_of (decode cX10_gain) da_372 10 rfl
theorem dX10_gain_86 : decode cX10_gain 86 = .ok (.goto 5, 3) := dec_of (decode cX10_gain) da_372 11 rfl
theorem dX10_gain_89 : decode cX10_gain 89 = .ok (.bipush 120, 2) := dec_of (decode cX10_gain) da_372 12 rfl
theorem dX10_gain_91 : decode cX10_gain 91 = .ok (.iastore, 1) := dec_of (decode cX10_gain) da_372 13 rfl
theorem dX10_gain_92 : decode cX10_gain 92 = .ok (.iinc 3 1, 3) := dec_of (decode cX10_gain) da_372 14 rfl
theorem dX10_gain_95 : decode cX10_gain 95 = .ok (.goto (-52), 3) := dec_of (decode cX10_gain) da_372 15 rfl
theorem dX10_gain_98 : decode cX10_gain 98 = .ok (.aload_n 0, 1) := dec_of (decode cX10_gain) da_372 16 rfl
theorem dX10_gain_99 : decode cX10_gain 99 = .ok (.invokevirtual 442, 3) := dec_of (decode cX10_gain) da_372 17 rfl
theorem dX10_gain_102 : decode cX10_gain 102 = .ok (.iload_n 1, 1) := dec_of (decode cX10_gain) da_372 18 rfl
theorem dX10_gain_103 : decode cX10_gain 103 = .ok (.istore_n 3, 1) := dec_of (decode cX10_gain) da_372 19 rfl
theorem dX10_gain_104 : decode cX10_gain 104 = .ok (.iload_n 3, 1) := dec_of (decode cX10_gain) da_372 20 rfl
theorem dX10_gain_105 : decode cX10_gain 105 = .ok (.aload_n 0, 1) := dec_of (decode cX10_gain) da_372 21 rfl
theorem dX10_gain_106 : decode cX10_gain 106 = .ok (.getfield 81, 3) := dec_of (decode cX10_gain) da_372 22 rfl
theorem dX10_gain_109 : decode cX10_gain 109 = .ok (.iconst 0, 1) := dec_of (decode cX10_gain) da_372 23 rfl
theorem dX10_gain_110 : decode cX10_gain 110 = .ok (.iaload, 1) := dec_of (decode cX10_gain) da_372 24 rfl
theorem dX10_gain_111 : decode cX10_gain 111 = .ok (.if_icmp .ge 26, 3) := dec_of (decode cX10_gain) da_372 25 rfl
theorem dX10_gain_114 : decode cX10_gain 114 = .ok (.aload_n 0, 1) := dec_of (decode cX10_gain) da_372 26 rfl
theorem dX10_gain_115 : decode cX10_gain 115 = .ok (.getfield 84, 3) := dec_of (decode cX10_gain) da_372 27 rfl
theorem dX10_gain_118 : decode cX10_gain 118 = .ok (.bipush 8, 2) := dec_of (decode cX10_gain) da_372 28 rfl
theorem dX10_gain_120 : decode cX10_gain 120 = .ok (.iload_n 3, 1) := dec_of (decode cX10_gain) da_372 29 rfl
theorem dX10_gain_121 : decode cX10_gain 121 = .ok (.iadd, 1) := dec_of (decode cX10_gain) da_372 30 rfl
theorem dX10_gain_122 : decode cX10_gain 122 = .ok (.iload_n 1, 1) := dec_of (decode cX10_gain) da_372 31 rfl
theorem dX10_gain_123 : decode cX10_gain 123 = .ok (.isub, 1) := dec_of (decode cX10_gain) da_372 32 rfl
theorem dX10_gain_124 : decode cX10_gain 124 = .ok (.aload_n 0, 1) := dec_of (decode cX10_gain) da_372 33 rfl
theorem dX10_gain_125 : decode cX10_gain 125 = .ok (.getfield 84, 3) := dec_of (decode cX10_gain) da_372 34 rfl
theorem dX10_gain_128 : decode cX10_gain 128 = .ok (.iload_n 3, 1) := dec_of (decode cX10_gain) da_372 35 rfl
theorem dX10_gain_129 : decode cX10_gain 129 = .ok (.iaload, 1) := dec_of (decode cX10_gain) da_372 36 rfl
theorem dX10_gain_130 : decode cX10_gain 130 = .ok (.iastore, 1) := dec_of (decode cX10_gain) da_372 37 rfl
theorem dX10_gain_131 : decode cX10_gain 131 = .ok (.iinc 3 1, 3) := dec_of (decode cX10_gain) da_372 38 rfl
theorem dX10_gain_134 : decode cX10_gain 134 = .ok (.goto (-30), 3) := dec_of (decode cX10_gain) da_372 39 rfl
abbrev dl_373 : List (Nat × Except DecodeError (Instr × Nat)) := [(137, .ok (.aload_n 0, 1)), (138, .ok (.getfield 81, 3)), (141, .ok (.iconst 1, 1)), (142, .ok (.aload_n 0, 1)), (143, .ok (.getfield 81, 3)), (146, .ok (.iconst 0, 1)), (147, .ok (.iaload, 1)), (148, .ok (.iload_n 1, 1)), (149, .ok (.isub, 1)), (150, .ok (.iastore, 1)), (151, .ok (.iconst 0, 1)), (152, .ok (.istore_n 3, 1)), (153, .ok (.iload_n 3, 1)), (154, .ok (.aload_n 0, 1)), (155, .ok (.getfield 13, 3)), (158, .ok (.iconst 0, 1)), (159, .ok (.iaload, 1)), (160, .ok (.if_icmp .ge 54, 3)), (163, .ok (.bipush 8, 2)), (165, .ok (.iload_n 3, 1)), (166, .ok (.iadd, 1)), (167, .ok (.istore 4, 2)), (169, .ok (.aload_n 0, 1)), (170, .ok (.getfield 87, 3)), (173, .ok (.iload 4, 2)), (175, .ok (.iaload, 1)), (176, .ok (.ifCond .eq 24, 3)), (179, .ok (.aload_n 0, 1)), (180, .ok (.getfield 87, 3)), (183, .ok (.iload 4, 2)), (185, .ok (.iaload, 1)), (186, .ok (.iconst 1, 1)), (187, .ok (.if_icmp .ne 21, 3)), (190, .ok (.aload_n 0, 1)), (191, .ok (.iconst 1, 1)), (192, .ok (.iload_n 3, 1)), (193, .ok (.invokevirtual 411, 3)), (196, .ok (.iconst (-1), 1)), (197, .ok (.if_icmp .ne 11, 3)), (200, .ok (.aload_n 0, 1))]
theorem da_373 : dl_373.all (fun q => decide (decode cX10_gain q.1 = q.2)) = true := by decide +kernel
theorem dX10_gain_137 : decode cX10_gain 137 = .ok (.aload_n 0, 1) := dec_of (decode cX10_gain) da_373 0 rfl
theorem dX10_gain_138 : decode cX10_gain 138 = .ok (.getfield 81, 3) := dec_of (decode cX10_gain) da_373 1 rfl
theorem dX10_gain_141 : decode cX10_gain 141 = .ok (.iconst 1, 1) := dec_of (decode cX10_gain) da_373 2 rfl
theorem dX10_gain_142 : decode cX10_gain 142 = .ok (.aload_n 0, 1) := dec_of (decode cX10_gain) da_373 3 rfl
theorem dX10_gain_143 : decode cX10_gain 143 = .ok (.getfield 81, 3) := dec_of (decode cX10_gain) da_373 4 rfl
theorem dX10_gain_146 : decode cX10_gain 146 = .ok (.iconst 0, 1) := dec_of (decode cX10_gain) da_373 5 rfl
theorem dX10_gain_147 : decode cX10_gain 147 = .ok (.iaload, 1) := dec_of (decode cX10_gain) da_373 6 rfl
theorem dX10_gain_148 : decode cX10_gain 148 = .ok (.iload_n 1, 1) := dec_of (decode cX10_gain) da_373 7 rfl
theorem dX10_gain_149 : decode cX10_gain 149 = .ok (.isub, 1) := dec_of (decode cX10_gain) da_373 8 rfl
theorem dX10_gain_150 : decode cX10_gain 150 = .ok (.iastore, 1) := dec_of (decode cX10_gain) da_373 9 rfl
theorem dX10_gain_151 : decode cX10_gain 151 = .ok (.iconst 0, 1) := dec_of (decode cX10_gain) da_373 10 rfl
theorem dX10_gain_152 : decode cX10_gain 152 = .ok (.istore_n 3, 1) := dec_of (decode cX10_gain) da_373 11 rfl
theorem dX10_gain_153 : decode cX10_gain 153 = .ok (.iload_n 3, 1) := dec_of (decode cX10_gain) da_373 12 rfl
theorem dX10_gain_154 : decode cX10_gain 154 = .ok (.aload_n 0, 1) := dec_of (decode cX10_gain) da_373 13 rfl
theorem dX10_gain_155 : decode cX10_gain 155 = .ok (.getfield 13, 3) := dec_of (decode cX10_gain) da_373 14 rfl
theorem dX10_gain_158 : decode cX10_gain 158 = .ok (.iconst 0, 1) := dec_of (decode cX10_gain) da_373 15 rfl
theorem dX10_gain_159 : decode cX10_gain 159 = .ok (.iaload, 1) := dec_of (decode cX10_gain) da_373 16 rfl
theorem dX10_gain_160 : decode cX10_gain 160 = .ok (.if_icmp .ge 54, 3) := dec_of (decode cX10_gain) da_373 17 rfl
theorem dX10_gain_163 : decode cX10_gain 163 = .ok (.bipush 8, 2) := dec_of (decode cX10_gain) da_373 18 rfl
theorem dX10_gain_165 : decode cX10_gain 165 = .ok (.iload_n 3, 1) := dec_of (decode cX10_gain) da_373 19 rfl
theorem dX10_gain_166 : decode cX10_gain 166 = .ok (.iadd, 1) := dec_of (decode cX10_gain) da_373 20 rfl
theorem dX10_gain_167 : decode cX10_gain 167 = .ok (.istore 4, 2) := dec_of (decode cX10_gain) da_373 21 rfl
theorem dX10_gain_169 : decode cX10_gain 169 = .ok (.aload_n 0, 1) := dec_of (decode cX10_gain) da_373 22 rfl
theorem dX10_gain_170 : decode cX10_gain 170 = .ok (.getfield 87, 3) := dec_of (decode cX10_gain) da_373 23 rfl
theorem dX10_gain_173 : decode cX10_gain 173 = .ok (.iload 4, 2) := dec_of (decode cX10_gain) da_373 24 rfl
theorem dX10_gain_175 : decode cX10_gain 175 = .ok (.iaload, 1) := dec_of (decode cX10_gain) da_373 25 rfl
theorem dX10_gain_176 : decode cX10_gain 176 = .ok (.ifCond .eq 24, 3) := dec_of (decode cX10_gain) da_373 26 rfl
theorem dX10_gain_179 : decode cX10_gain 179 = .ok (.aload_n 0, 1) := dec_of (decode cX10_gain) da_373 27 rfl
theorem dX10_gain_180 : decode cX10_gain 180 = .ok (.getfield 87, 3) := dec_of (decode cX10_gain) da_373 28 rfl
theorem dX10_gain_183 : decode cX10_gain 183 = .ok (.iload 4, 2) := dec_of (decode cX10_gain) da_373 29 rfl
theorem dX10_gain_185 : decode cX10_gain 185 = .ok (.iaload, 1) := dec_of (decode cX10_gain) da_373 30 rfl
theorem dX10_gain_186 : decode cX10_gain 186 = .ok (.iconst 1, 1) := dec_of (decode cX10_gain) da_373 31 rfl
theorem dX10_gain_187 : decode cX10_gain 187 = .ok (.if_icmp .ne 21, 3) := dec_of (decode cX10_gain) da_373 32 rfl
theorem dX10_gain_190 : decode cX10_gain 190 = .ok (.aload_n 0, 1) := dec_of (decode cX10_gain) da_373 33 rfl
theorem dX10_gain_191 : decode cX10_gain 191 = .ok (.iconst 1, 1) := dec_of (decode cX10_gain) da_373 34 rfl
theorem dX10_gain_192 : decode cX10_gain 192 = .ok (.iload_n 3, 1) := dec_of (decode cX10_gain) da_373 35 rfl
theorem dX10_gain_193 : decode cX10_gain 193 = .ok (.invokevirtual 411, 3) := dec_of (decode cX10_gain) da_373 36 rfl
theorem dX10_gain_196 : decode cX10_gain 196 = .ok (.iconst (-1), 1) := dec_of (decode cX10_gain) da_373 37 rfl
theorem dX10_gain_197 : decode cX10_gain 197 = .ok (.if_icmp .ne 11, 3) := dec_of (decode cX10_gain) da_373 38 rfl
theorem dX10_gain_200 : decode cX10_gain 200 = .ok (.aload_n 0, 1) := dec_of (decode cX10_gain) da_373 39 rfl
abbrev dl_374 : List (Nat × Except DecodeError (Instr × Nat)) := [(201, .ok (.getfield 87, 3)), (204, .ok (.iload 4, 2)), (206, .ok (.iconst 3, 1)), (207, .ok (.iastore, 1)), (208, .ok (.iinc 3 1, 3)), (211, .ok (.goto (-58), 3)), (214, .ok (.aload_n 0, 1)), (215, .ok (.iload_n 2, 1)), (216, .ok (.invokevirtual 445, 3)), (219, .ok (.iconst 0, 1)), (220, .ok (.istore_n 3, 1)), (221, .ok (.iload_n 1, 1)), (222, .ok (.istore 4, 2)), (224, .ok (.iload 4, 2)), (226, .ok (.aload_n 0, 1)), (227, .ok (.getfield 81, 3)), (230, .ok (.iconst 0, 1)), (231, .ok (.iaload, 1)), (232, .ok (.if_icmp .ge 66, 3)), (235, .ok (.bipush 8, 2)), (237, .ok (.aload_n 0, 1)), (238, .ok (.getfield 84, 3)), (241, .ok (.iload 4, 2)), (243, .ok (.iaload, 1)), (244, .ok (.iadd, 1)), (245, .ok (.istore 5, 2)), (247, .ok (.aload_n 0, 1)), (248, .ok (.getfield 87, 3)), (251, .ok (.iload 5, 2)), (253, .ok (.iaload, 1)), (254, .ok (.iconst 2, 1)), (255, .ok (.if_icmp .ne 37, 3)), (258, .ok (.aload_n 0, 1)), (259, .ok (.getfield 111, 3)), (262, .ok (.iload 5, 2)), (264, .ok (.iaload, 1)), (265, .ok (.aload_n 0, 1)), (266, .ok (.getfield 129, 3)), (269, .ok (.aload_n 0, 1)), (270, .ok (.getfield 84, 3))]
theorem da_374 : dl_374.all (fun q => decide (decode cX10_gain q.1 = q.2)) = true := by decide +kernel
theorem dX10_gain_201 : decode cX10_gain 201 = .ok (.getfield 87, 3) := dec_of (decode cX10_gain) da_374 0 rfl
theorem dX10_gain_204 : decode cX10_gain 204 = .ok (.iload 4, 2) := dec_of (decode cX10_gain) da_374 1 rfl
theorem dX10_gain_206 : decode cX10_gain 206 = .ok (.iconst 3, 1) := dec_of (decode cX10_gain) da_374 2 rfl
theorem dX10_gain_207 : decode cX10_gain 207 = .ok (.iastore, 1) := dec_of (decode cX10_gain) da_374 3 rfl
theorem dX10_gain_208 : decode cX10_gain 208 = .ok (.iinc 3 1, 3) := dec_of (decode cX10_gain) da_374 4 rfl
theorem dX10_gain_211 : decode cX10_gain 211 = .ok (.goto (-58), 3) := dec_of (decode cX10_gain) da_374 5 rfl
theorem dX10_gain_214 : decode cX10_gain 214 = .ok (.aload_n 0, 1) := dec_of (decode cX10_gain) da_374 6 rfl
theorem dX10_gain_215 : decode cX10_gain 215 = .ok (.iload_n 2, 1) := dec_of (decode cX10_gain) da_374 7 rfl
theorem dX10_gain_216 : decode cX10_gain 216 = .ok (.invokevirtual 445, 3) := dec_of (decode cX10_gain) da_374 8 rfl
theorem dX10_gain_219 : decode cX10_gain 219 = .ok (.iconst 0, 1) := dec_of (decode cX10_gain) da_374 9 rfl
theorem dX10_gain_220 : decode cX10_gain 220 = .ok (.istore_n 3, 1) := dec_of (decode cX10_gain) da_374 10 rfl
theorem dX10_gain_221 : decode cX10_gain 221 = .ok (.iload_n 1, 1) := dec_of (decode cX10_gain) da_374 11 rfl
theorem dX10_gain_222 : decode cX10_gain 222 = .ok (.istore 4, 2) := dec_of (decode cX10_gain) da_374 12 rfl
theorem dX10_gain_224 : decode cX10_gain 224 = .ok (.iload 4, 2) := dec_of (decode cX10_gain) da_374 13 rfl
theorem dX10_gain_226 : decode cX10_gain 226 = .ok (.aload_n 0, 1) := dec_of (decode cX10_gain) da_374 14 rfl
theorem dX10_gain_227 : decode cX10_gain 227 = .ok (.getfield 81, 3) := dec_of (decode cX10_gain) da_374 15 rfl
theorem dX10_gain_230 : decode cX10_gain 230 = .ok (.iconst 0, 1) := dec_of (decode cX10_gain) da_374 16 rfl
theorem dX10_gain_231 : decode cX10_gain 231 = .ok (.iaload, 1) := dec_of (decode cX10_gain) da_374 17 rfl
theorem dX10_gain_232 : decode cX10_gain 232 = .ok (.if_icmp .ge 66, 3) := dec_of (decode cX10_gain) da_374 18 rfl
theorem dX10_gain_235 : decode cX10_gain 235 = .ok (.bipush 8, 2) := dec_of (decode cX10_gain) da_374 19 rfl
theorem dX10_gain_237 : decode cX10_gain 237 = .ok (.aload_n 0, 1) := dec_of (decode cX10_gain) da_374 20 rfl
theorem dX10_gain_238 : decode cX10_gain 238 = .ok (.getfield 84, 3) := dec_of (decode cX10_gain) da_374 21 rfl
theorem dX10_gain_241 : decode cX10_gain 241 = .ok (.iload 4, 2) := dec_of (decode cX10_gain) da_374 22 rfl
theorem dX10_gain_243 : decode cX10_gain 243 = .ok (.iaload, 1) := dec_of (decode cX10_gain) da_374 23 rfl
theorem dX10_gain_244 : decode cX10_gain 244 = .ok (.iadd, 1) := dec_of (decode cX10_gain) da_374 24 rfl
theorem dX10_gain_245 : decode cX10_gain 245 = .ok (.istore 5, 2) := dec_of (decode cX10_gain) da_374 25 rfl
theorem dX10_gain_247 : decode cX10_gain 247 = .ok (.aload_n 0, 1) := dec_of (decode cX10_gain) da_374 26 rfl
theorem dX10_gain_248 : decode cX10_gain 248 = .ok (.getfield 87, 3) := dec_of (decode cX10_gain) da_374 27 rfl
theorem dX10_gain_251 : decode cX10_gain 251 = .ok (.iload 5, 2) := dec_of (decode cX10_gain) da_374 28 rfl
theorem dX10_gain_253 : decode cX10_gain 253 = .ok (.iaload, 1) := dec_of (decode cX10_gain) da_374 29 rfl
theorem dX10_gain_254 : decode cX10_gain 254 = .ok (.iconst 2, 1) := dec_of (decode cX10_gain) da_374 30 rfl
theorem dX10_gain_255 : decode cX10_gain 255 = .ok (.if_icmp .ne 37, 3) := dec_of (decode cX10_gain) da_374 31 rfl
theorem dX10_gain_258 : decode cX10_gain 258 = .ok (.aload_n 0, 1) := dec_of (decode cX10_gain) da_374 32 rfl
theorem dX10_gain_259 : decode cX10_gain 259 = .ok (.getfield 111, 3) := dec_of (decode cX10_gain) da_374 33 rfl
theorem dX10_gain_262 : decode cX10_gain 262 = .ok (.iload 5, 2) := dec_of (decode cX10_gain) da_374 34 rfl
theorem dX10_gain_264 : decode cX10_gain 264 = .ok (.iaload, 1) := dec_of (decode cX10_gain) da_374 35 rfl
theorem dX10_gain_265 : decode cX10_gain 265 = .ok (.aload_n 0, 1) := dec_of (decode cX10_gain) da_374 36 rfl
theorem dX10_gain_266 : decode cX10_gain 266 = .ok (.getfield 129, 3) := dec_of (decode cX10_gain) da_374 37 rfl
theorem dX10_gain_269 : decode cX10_gain 269 = .ok (.aload_n 0, 1) := dec_of (decode cX10_gain) da_374 38 rfl
theorem dX10_gain_270 : decode cX10_gain 270 = .ok (.getfield 84, 3) := dec_of (decode cX10_gain) da_374 39 rfl
abbrev dl_375 : List (Nat × Except DecodeError (Instr × Nat)) := [(273, .ok (.iload 4, 2)), (275, .ok (.iaload, 1)), (276, .ok (.iaload, 1)), (277, .ok (.if_icmp .ge 15, 3)), (280, .ok (.iload_n 3, 1)), (281, .ok (.iconst 1, 1)), (282, .ok (.aload_n 0, 1)), (283, .ok (.getfield 84, 3)), (286, .ok (.iload 4, 2)), (288, .ok (.iaload, 1)), (289, .ok (.ishl, 1)), (290, .ok (.ior, 1)), (291, .ok (.istore_n 3, 1)), (292, .ok (.iinc 4 1, 3)), (295, .ok (.goto (-71), 3)), (298, .ok (.iload_n 3, 1)), (299, .ok (.ireturn, 1))]
theorem da_375 : dl_375.all (fun q => decide (decode cX10_gain q.1 = q.2)) = true := by decide +kernel
theorem dX10_gain_273 : decode cX10_gain 273 = .ok (.iload 4, 2) := dec_of (decode cX10_gain) da_375 0 rfl
theorem dX10_gain_275 : decode cX10_gain 275 = .ok (.iaload, 1) := dec_of (decode cX10_gain) da_375 1 rfl
theorem dX10_gain_276 : decode cX10_gain 276 = .ok (.iaload, 1) := dec_of (decode cX10_gain) da_375 2 rfl
theorem dX10_gain_277 : decode cX10_gain 277 = .ok (.if_icmp .ge 15, 3) := dec_of (decode cX10_gain) da_375 3 rfl
theorem dX10_gain_280 : decode cX10_gain 280 = .ok (.iload_n 3, 1) := dec_of (decode cX10_gain) da_375 4 rfl
theorem dX10_gain_281 : decode cX10_gain 281 = .ok (.iconst 1, 1) := dec_of (decode cX10_gain) da_375 5 rfl
theorem dX10_gain_282 : decode cX10_gain 282 = .ok (.aload_n 0, 1) := dec_of (decode cX10_gain) da_375 6 rfl
theorem dX10_gain_283 : decode cX10_gain 283 = .ok (.getfield 84, 3) := dec_of (decode cX10_gain) da_375 7 rfl
theorem dX10_gain_286 : decode cX10_gain 286 = .ok (.iload 4, 2) := dec_of (decode cX10_gain) da_375 8 rfl
theorem dX10_gain_288 : decode cX10_gain 288 = .ok (.iaload, 1) := dec_of (decode cX10_gain) da_375 9 rfl
theorem dX10_gain_289 : decode cX10_gain 289 = .ok (.ishl, 1) := dec_of (decode cX10_gain) da_375 10 rfl
theorem dX10_gain_290 : decode cX10_gain 290 = .ok (.ior, 1) := dec_of (decode cX10_gain) da_375 11 rfl
theorem dX10_gain_291 : decode cX10_gain 291 = .ok (.istore_n 3, 1) := dec_of (decode cX10_gain) da_375 12 rfl
theorem dX10_gain_292 : decode cX10_gain 292 = .ok (.iinc 4 1, 3) := dec_of (decode cX10_gain) da_375 13 rfl
theorem dX10_gain_295 : decode cX10_gain 295 = .ok (.goto (-71), 3) := dec_of (decode cX10_gain) da_375 14 rfl
theorem dX10_gain_298 : decode cX10_gain 298 = .ok (.iload_n 3, 1) := dec_of (decode cX10_gain) da_375 15 rfl
theorem dX10_gain_299 : decode cX10_gain 299 = .ok (.ireturn, 1) := dec_of (decode cX10_gain) da_375 16 rfl
abbrev dl_376 : List (Nat × Except DecodeError (Instr × Nat)) := [(0, .ok (.aload_n 0, 1)), (1, .ok (.iconst 0, 1)), (2, .ok (.putfield 154, 3)), (5, .ok (.iload_n 1, 1)), (6, .ok (.ifCond .lt 38, 3)), (9, .ok (.iload_n 1, 1)), (10, .ok (.bipush 59, 2)), (12, .ok (.if_icmp .gt 32, 3)), (15, .ok (.iload_n 2, 1)), (16, .ok (.invokestatic 414, 3)), (19, .ok (.ifCond .eq 25, 3)), (22, .ok (.iload_n 3, 1)), (23, .ok (.iconst (-1), 1)), (24, .ok (.if_icmp .eq 11, 3)), (27, .ok (.aload_n 0, 1)), (28, .ok (.iload_n 3, 1)), (29, .ok (.invokevirtual 356, 3)), (32, .ok (.ifCond .eq 12, 3)), (35, .ok (.aload_n 0, 1)), (36, .ok (.getfield 310, 3)), (39, .ok (.bipush 24, 2)), (41, .ok (.if_icmp .ne 5, 3)), (44, .ok (.iconst (-1), 1)), (45, .ok (.ireturn, 1)), (46, .ok (.aload_n 0, 1)), (47, .ok (.getfield 135, 3)), (50, .ok (.aload_n 0, 1)), (51, .ok (.getfield 310, 3)), (54, .ok (.iload_n 1, 1)), (55, .ok (.iastore, 1)), (56, .ok (.aload_n 0, 1)), (57, .ok (.getfield 138, 3)), (60, .ok (.aload_n 0, 1)), (61, .ok (.getfield 310, 3)), (64, .ok (.iload_n 2, 1)), (65, .ok (.iastore, 1)), (66, .ok (.aload_n 0, 1)), (67, .ok (.getfield 141, 3)), (70, .ok (.aload_n 0, 1)), (71, .ok (.getfield 310, 3))]
theorem da_376 : dl_376.all (fun q => decide (decode cX10_stone q.1 = q.2)) = true := by decide +kernel
theorem dX10_stone_0 : decode cX10_stone 0 = .ok (.aload_n 0, 1) := dec_of (decode cX10_stone) da_376 0 rfl
theorem dX10_stone_1 : decode cX10_stone 1 = .ok (.iconst 0, 1) := dec_of (decode cX10_stone) da_376 1 rfl
theorem dX10_stone_2 : decode cX10_stone 2 = .ok (.putfield 154, 3) := dec_of (decode cX10_stone) da_376 2 rfl
theorem dX10_stone_5 : decode cX10_stone 5 = .ok (.iload_n 1, 1) := dec_of (decode cX10_stone) da_376 3 rfl
theorem dX10_stone_6 : decode cX10_stone 6 = .ok (.ifCond .lt 38, 3) := dec_of (decode cX10_stone) da_376 4 rfl
theorem dX10_stone_9 : decode cX10_stone 9 = .ok (.iload_n 1, 1) := dec_of (decode cX10_stone) da_376 5 rfl
theorem dX10_stone_10 : decode cX10_stone 10 = .ok (.bipush 59, 2) := dec_of (decode cX10_stone) da_376 6 rfl
theorem dX10_stone_12 : decode cX10_stone 12 = .ok (.if_icmp .gt 32, 3) := dec_of (decode cX10_stone) da_376 7 rfl
theorem dX10_stone_15 : decode cX10_stone 15 = .ok (.iload_n 2, 1) := dec_of (decode cX10_stone) da_376 8 rfl
theorem dX10_stone_16 : decode cX10_stone 16 = .ok (.invokestatic 414, 3) := dec_of (decode cX10_stone) da_376 9 rfl
theorem dX10_stone_19 : decode cX10_stone 19 = .ok (.ifCond .eq 25, 3) := dec_of (decode cX10_stone) da_376 10 rfl
theorem dX10_stone_22 : decode cX10_stone 22 = .ok (.iload_n 3, 1) := dec_of (decode cX10_stone) da_376 11 rfl
theorem dX10_stone_23 : decode cX10_stone 23 = .ok (.iconst (-1), 1) := dec_of (decode cX10_stone) da_376 12 rfl
theorem dX10_stone_24 : decode cX10_stone 24 = .ok (.if_icmp .eq 11, 3) := dec_of (decode cX10_stone) da_376 13 rfl
theorem dX10_stone_27 : decode cX10_stone 27 = .ok (.aload_n 0, 1) := dec_of (decode cX10_stone) da_376 14 rfl
theorem dX10_stone_28 : decode cX10_stone 28 = .ok (.iload_n 3, 1) := dec_of (decode cX10_stone) da_376 15 rfl
theorem dX10_stone_29 : decode cX10_stone 29 = .ok (.invokevirtual 356, 3) := dec_of (decode cX10_stone) da_376 16 rfl
theorem dX10_stone_32 : decode cX10_stone 32 = .ok (.ifCond .eq 12, 3) := dec_of (decode cX10_stone) da_376 17 rfl
theorem dX10_stone_35 : decode cX10_stone 35 = .ok (.aload_n 0, 1) := dec_of (decode cX10_stone) da_376 18 rfl
theorem dX10_stone_36 : decode cX10_stone 36 = .ok (.getfield 310, 3) := dec_of (decode cX10_stone) da_376 19 rfl
theorem dX10_stone_39 : decode cX10_stone 39 = .ok (.bipush 24, 2) := dec_of (decode cX10_stone) da_376 20 rfl
theorem dX10_stone_41 : decode cX10_stone 41 = .ok (.if_icmp .ne 5, 3) := dec_of (decode cX10_stone) da_376 21 rfl
theorem dX10_stone_44 : decode cX10_stone 44 = .ok (.iconst (-1), 1) := dec_of (decode cX10_stone) da_376 22 rfl
theorem dX10_stone_45 : decode cX10_stone 45 = .ok (.ireturn, 1) := dec_of (decode cX10_stone) da_376 23 rfl
theorem dX10_stone_46 : decode cX10_stone 46 = .ok (.aload_n 0, 1) := dec_of (decode cX10_stone) da_376 24 rfl
theorem dX10_stone_47 : decode cX10_stone 47 = .ok (.getfield 135, 3) := dec_of (decode cX10_stone) da_376 25 rfl
theorem dX10_stone_50 : decode cX10_stone 50 = .ok (.aload_n 0, 1) := dec_of (decode cX10_stone) da_376 26 rfl
theorem dX10_stone_51 : decode cX10_stone 51 = .ok (.getfield 310, 3) := dec_of (decode cX10_stone) da_376 27 rfl
theorem dX10_stone_54 : decode cX10_stone 54 = .ok (.iload_n 1, 1) := dec_of (decode cX10_stone) da_376 28 rfl
theorem dX10_stone_55 : decode cX10_stone 55 = .ok (.iastore, 1) := dec_of (decode cX10_stone) da_376 29 rfl
theorem dX10_stone_56 : decode cX10_stone 56 = .ok (.aload_n 0, 1) := dec_of (decode cX10_stone) da_376 30 rfl
theorem dX10_stone_57 : decode cX10_stone 57 = .ok (.getfield 138, 3) := dec_of (decode cX10_stone) da_376 31 rfl
theorem dX10_stone_60 : decode cX10_stone 60 = .ok (.aload_n 0, 1) := dec_of (decode cX10_stone) da_376 32 rfl
theorem dX10_stone_61 : decode cX10_stone 61 = .ok (.getfield 310, 3) := dec_of (decode cX10_stone) da_376 33 rfl
theorem dX10_stone_64 : decode cX10_stone 64 = .ok (.iload_n 2, 1) := dec_of (decode cX10_stone) da_376 34 rfl
theorem dX10_stone_65 : decode cX10_stone 65 = .ok (.iastore, 1) := dec_of (decode cX10_stone) da_376 35 rfl
theorem dX10_stone_66 : decode cX10_stone 66 = .ok (.aload_n 0, 1) := dec_of (decode cX10_stone) da_376 36 rfl
theorem dX10_stone_67 : decode cX10_stone 67 = .ok (.getfield 141, 3) := dec_of (decode cX10_stone) da_376 37 rfl
theorem dX10_stone_70 : decode cX10_stone 70 = .ok (.aload_n 0, 1) := dec_of (decode cX10_stone) da_376 38 rfl
theorem dX10_stone_71 : decode cX10_stone 71 = .ok (.getfield 310, 3) := dec_of (decode cX10_stone) da_376 39 rfl
abbrev dl_377 : List (Nat × Except DecodeError (Instr × Nat)) := [(74, .ok (.iload_n 3, 1)), (75, .ok (.iastore, 1)), (76, .ok (.aload_n 0, 1)), (77, .ok (.getfield 144, 3)), (80, .ok (.aload_n 0, 1)), (81, .ok (.getfield 310, 3)), (84, .ok (.iconst (-1), 1)), (85, .ok (.iastore, 1)), (86, .ok (.aload_n 0, 1)), (87, .ok (.dup, 1)), (88, .ok (.getfield 310, 3)), (91, .ok (.iconst 1, 1)), (92, .ok (.iadd, 1)), (93, .ok (.putfield 310, 3)), (96, .ok (.aload_n 0, 1)), (97, .ok (.getfield 310, 3)), (100, .ok (.iconst 1, 1)), (101, .ok (.isub, 1)), (102, .ok (.ireturn, 1))]
theorem da_377 : dl_377.all (fun q => decide (decode cX10_stone q.1 = q.2)) = true := by decide +kernel
theorem dX10_stone_74 : decode cX10_stone 74 = .ok (.iload_n 3, 1) := dec_of (decode cX10_stone) da_377 0 rfl
theorem dX10_stone_75 : decode cX10_stone 75 = .ok (.iastore, 1) := dec_of (decode cX10_stone) da_377 1 rfl
theorem dX10_stone_76 : decode cX10_stone 76 = .ok (.aload_n 0, 1) := dec_of (decode cX10_stone) da_377 2 rfl
theorem dX10_stone_77 : decode cX10_stone 77 = .ok (.getfield 144, 3) := dec_of (decode cX10_stone) da_377 3 rfl
theorem dX10_stone_80 : decode cX10_stone 80 = .ok (.aload_n 0, 1) := dec_of (decode cX10_stone) da_377 4 rfl
theorem dX10_stone_81 : decode cX10_stone 81 = .ok (.getfield 310, 3) := dec_of (decode cX10_stone) da_377 5 rfl
theorem dX10_stone_84 : decode cX10_stone 84 = .ok (.iconst (-1), 1) := dec_of (decode cX10_stone) da_377 6 rfl
theorem dX10_stone_85 : decode cX10_stone 85 = .ok (.iastore, 1) := dec_of (decode cX10_stone) da_377 7 rfl
theorem dX10_stone_86 : decode cX10_stone 86 = .ok (.aload_n 0, 1) := dec_of (decode cX10_stone) da_377 8 rfl
theorem dX10_stone_87 : decode cX10_stone 87 = .ok (.dup, 1) := dec_of (decode cX10_stone) da_377 9 rfl
theorem dX10_stone_88 : decode cX10_stone 88 = .ok (.getfield 310, 3) := dec_of (decode cX10_stone) da_377 10 rfl
theorem dX10_stone_91 : decode cX10_stone 91 = .ok (.iconst 1, 1) := dec_of (decode cX10_stone) da_377 11 rfl
theorem dX10_stone_92 : decode cX10_stone 92 = .ok (.iadd, 1) := dec_of (decode cX10_stone) da_377 12 rfl
theorem dX10_stone_93 : decode cX10_stone 93 = .ok (.putfield 310, 3) := dec_of (decode cX10_stone) da_377 13 rfl
theorem dX10_stone_96 : decode cX10_stone 96 = .ok (.aload_n 0, 1) := dec_of (decode cX10_stone) da_377 14 rfl
theorem dX10_stone_97 : decode cX10_stone 97 = .ok (.getfield 310, 3) := dec_of (decode cX10_stone) da_377 15 rfl
theorem dX10_stone_100 : decode cX10_stone 100 = .ok (.iconst 1, 1) := dec_of (decode cX10_stone) da_377 16 rfl
theorem dX10_stone_101 : decode cX10_stone 101 = .ok (.isub, 1) := dec_of (decode cX10_stone) da_377 17 rfl
theorem dX10_stone_102 : decode cX10_stone 102 = .ok (.ireturn, 1) := dec_of (decode cX10_stone) da_377 18 rfl
abbrev dl_378 : List (Nat × Except DecodeError (Instr × Nat)) := [(0, .ok (.aload_n 0, 1)), (1, .ok (.iconst 0, 1)), (2, .ok (.putfield 154, 3)), (5, .ok (.iload_n 1, 1)), (6, .ok (.ifCond .lt 20, 3)), (9, .ok (.iload_n 1, 1)), (10, .ok (.aload_n 0, 1)), (11, .ok (.getfield 310, 3)), (14, .ok (.if_icmp .ge 12, 3)), (17, .ok (.aload_n 0, 1)), (18, .ok (.getfield 310, 3)), (21, .ok (.bipush 24, 2)), (23, .ok (.if_icmp .ne 5, 3)), (26, .ok (.iconst (-1), 1)), (27, .ok (.ireturn, 1)), (28, .ok (.aload_n 0, 1)), (29, .ok (.getfield 144, 3)), (32, .ok (.aload_n 0, 1)), (33, .ok (.getfield 310, 3)), (36, .ok (.iload_n 1, 1)), (37, .ok (.iastore, 1)), (38, .ok (.aload_n 0, 1)), (39, .ok (.dup, 1)), (40, .ok (.getfield 310, 3)), (43, .ok (.iconst 1, 1)), (44, .ok (.iadd, 1)), (45, .ok (.putfield 310, 3)), (48, .ok (.aload_n 0, 1)), (49, .ok (.getfield 310, 3)), (52, .ok (.iconst 1, 1)), (53, .ok (.isub, 1)), (54, .ok (.ireturn, 1))]
theorem da_378 : dl_378.all (fun q => decide (decode cX10_strike q.1 = q.2)) = true := by decide +kernel
theorem dX10_strike_0 : decode cX10_strike 0 = .ok (.aload_n 0, 1) := dec_of (decode cX10_strike) da_378 0 rfl
theorem dX10_strike_1 : decode cX10_strike 1 = .ok (.iconst 0, 1) := dec_of (decode cX10_strike) da_378 1 rfl
theorem dX10_strike_2 : decode cX10_strike 2 = .ok (.putfield 154, 3) := dec_of (decode cX10_strike) da_378 2 rfl
theorem dX10_strike_5 : decode cX10_strike 5 = .ok (.iload_n 1, 1) := dec_of (decode cX10_strike) da_378 3 rfl
theorem dX10_strike_6 : decode cX10_strike 6 = .ok (.ifCond .lt 20, 3) := dec_of (decode cX10_strike) da_378 4 rfl
theorem dX10_strike_9 : decode cX10_strike 9 = .ok (.iload_n 1, 1) := dec_of (decode cX10_strike) da_378 5 rfl
theorem dX10_strike_10 : decode cX10_strike 10 = .ok (.aload_n 0, 1) := dec_of (decode cX10_strike) da_378 6 rfl
theorem dX10_strike_11 : decode cX10_strike 11 = .ok (.getfield 310, 3) := dec_of (decode cX10_strike) da_378 7 rfl
theorem dX10_strike_14 : decode cX10_strike 14 = .ok (.if_icmp .ge 12, 3) := dec_of (decode cX10_strike) da_378 8 rfl
theorem dX10_strike_17 : decode cX10_strike 17 = .ok (.aload_n 0, 1) := dec_of (decode cX10_strike) da_378 9 rfl
theorem dX10_strike_18 : decode cX10_strike 18 = .ok (.getfield 310, 3) := dec_of (decode cX10_strike) da_378 10 rfl
theorem dX10_strike_21 : decode cX10_strike 21 = .ok (.bipush 24, 2) := dec_of (decode cX10_strike) da_378 11 rfl
theorem dX10_strike_23 : decode cX10_strike 23 = .ok (.if_icmp .ne 5, 3) := dec_of (decode cX10_strike) da_378 12 rfl
theorem dX10_strike_26 : decode cX10_strike 26 = .ok (.iconst (-1), 1) := dec_of (decode cX10_strike) da_378 13 rfl
theorem dX10_strike_27 : decode cX10_strike 27 = .ok (.ireturn, 1) := dec_of (decode cX10_strike) da_378 14 rfl
theorem dX10_strike_28 : decode cX10_strike 28 = .ok (.aload_n 0, 1) := dec_of (decode cX10_strike) da_378 15 rfl
theorem dX10_strike_29 : decode cX10_strike 29 = .ok (.getfield 144, 3) := dec_of (decode cX10_strike) da_378 16 rfl
theorem dX10_strike_32 : decode cX10_strike 32 = .ok (.aload_n 0, 1) := dec_of (decode cX10_strike) da_378 17 rfl
theorem dX10_strike_33 : decode cX10_strike 33 = .ok (.getfield 310, 3) := dec_of (decode cX10_strike) da_378 18 rfl
theorem dX10_strike_36 : decode cX10_strike 36 = .ok (.iload_n 1, 1) := dec_of (decode cX10_strike) da_378 19 rfl
theorem dX10_strike_37 : decode cX10_strike 37 = .ok (.iastore, 1) := dec_of (decode cX10_strike) da_378 20 rfl
theorem dX10_strike_38 : decode cX10_strike 38 = .ok (.aload_n 0, 1) := dec_of (decode cX10_strike) da_378 21 rfl
theorem dX10_strike_39 : decode cX10_strike 39 = .ok (.dup, 1) := dec_of (decode cX10_strike) da_378 22 rfl
theorem dX10_strike_40 : decode cX10_strike 40 = .ok (.getfield 310, 3) := dec_of (decode cX10_strike) da_378 23 rfl
theorem dX10_strike_43 : decode cX10_strike 43 = .ok (.iconst 1, 1) := dec_of (decode cX10_strike) da_378 24 rfl
theorem dX10_strike_44 : decode cX10_strike 44 = .ok (.iadd, 1) := dec_of (decode cX10_strike) da_378 25 rfl
theorem dX10_strike_45 : decode cX10_strike 45 = .ok (.putfield 310, 3) := dec_of (decode cX10_strike) da_378 26 rfl
theorem dX10_strike_48 : decode cX10_strike 48 = .ok (.aload_n 0, 1) := dec_of (decode cX10_strike) da_378 27 rfl
theorem dX10_strike_49 : decode cX10_strike 49 = .ok (.getfield 310, 3) := dec_of (decode cX10_strike) da_378 28 rfl
theorem dX10_strike_52 : decode cX10_strike 52 = .ok (.iconst 1, 1) := dec_of (decode cX10_strike) da_378 29 rfl
theorem dX10_strike_53 : decode cX10_strike 53 = .ok (.isub, 1) := dec_of (decode cX10_strike) da_378 30 rfl
theorem dX10_strike_54 : decode cX10_strike 54 = .ok (.ireturn, 1) := dec_of (decode cX10_strike) da_378 31 rfl
abbrev dl_379 : List (Nat × Except DecodeError (Instr × Nat)) := [(0, .ok (.aload_n 0, 1)), (1, .ok (.iconst 0, 1)), (2, .ok (.putfield 154, 3)), (5, .ok (.iload_n 1, 1)), (6, .ok (.iconst (-1), 1)), (7, .ok (.if_icmp .lt 11, 3)), (10, .ok (.iload_n 1, 1)), (11, .ok (.aload_n 0, 1)), (12, .ok (.getfield 310, 3)), (15, .ok (.if_icmp .le 5, 3)), (18, .ok (.iconst 0, 1)), (19, .ok (.ireturn, 1)), (20, .ok (.aload_n 0, 1)), (21, .ok (.iload_n 1, 1)), (22, .ok (.putfield 132, 3)), (25, .ok (.iconst 1, 1)), (26, .ok (.ireturn, 1))]
theorem da_379 : dl_379.all (fun q => decide (decode cX10_known q.1 = q.2)) = true := by decide +kernel
theorem dX10_known_0 : decode cX10_known 0 = .ok (.aload_n 0, 1) := dec_of (decode cX10_known) da_379 0 rfl
theorem dX10_known_1 : decode cX10_known 1 = .ok (.iconst 0, 1) := dec_of (decode cX10_known) da_379 1 rfl
theorem dX10_known_2 : decode cX10_known 2 = .ok (.putfield 154, 3) := dec_of (decode cX10_known) da_379 2 rfl
theorem dX10_known_5 : decode cX10_known 5 = .ok (.iload_n 1, 1) := dec_of (decode cX10_known) da_379 3 rfl
theorem dX10_known_6 : decode cX10_known 6 = .ok (.iconst (-1), 1) := dec_of (decode cX10_known) da_379 4 rfl
theorem dX10_known_7 : decode cX10_known 7 = .ok (.if_icmp .lt 11, 3) := dec_of (decode cX10_known) da_379 5 rfl
theorem dX10_known_10 : decode cX10_known 10 = .ok (.iload_n 1, 1) := dec_of (decode cX10_known) da_379 6 rfl
theorem dX10_known_11 : decode cX10_known 11 = .ok (.aload_n 0, 1) := dec_of (decode cX10_known) da_379 7 rfl
theorem dX10_known_12 : decode cX10_known 12 = .ok (.getfield 310, 3) := dec_of (decode cX10_known) da_379 8 rfl
theorem dX10_known_15 : decode cX10_known 15 = .ok (.if_icmp .le 5, 3) := dec_of (decode cX10_known) da_379 9 rfl
theorem dX10_known_18 : decode cX10_known 18 = .ok (.iconst 0, 1) := dec_of (decode cX10_known) da_379 10 rfl
theorem dX10_known_19 : decode cX10_known 19 = .ok (.ireturn, 1) := dec_of (decode cX10_known) da_379 11 rfl
theorem dX10_known_20 : decode cX10_known 20 = .ok (.aload_n 0, 1) := dec_of (decode cX10_known) da_379 12 rfl
theorem dX10_known_21 : decode cX10_known 21 = .ok (.iload_n 1, 1) := dec_of (decode cX10_known) da_379 13 rfl
theorem dX10_known_22 : decode cX10_known 22 = .ok (.putfield 132, 3) := dec_of (decode cX10_known) da_379 14 rfl
theorem dX10_known_25 : decode cX10_known 25 = .ok (.iconst 1, 1) := dec_of (decode cX10_known) da_379 15 rfl
theorem dX10_known_26 : decode cX10_known 26 = .ok (.ireturn, 1) := dec_of (decode cX10_known) da_379 16 rfl
abbrev dl_380 : List (Nat × Except DecodeError (Instr × Nat)) := [(0, .ok (.aload_n 0, 1)), (1, .ok (.getfield 132, 3)), (4, .ok (.iconst (-1), 1)), (5, .ok (.if_icmp .ne 10, 3)), (8, .ok (.aload_n 0, 1)), (9, .ok (.getfield 310, 3)), (12, .ok (.goto 7, 3)), (15, .ok (.aload_n 0, 1)), (16, .ok (.getfield 132, 3)), (19, .ok (.ireturn, 1))]
theorem da_380 : dl_380.all (fun q => decide (decode cX10_knownMany q.1 = q.2)) = true := by decide +kernel
theorem dX10_knownMany_0 : decode cX10_knownMany 0 = .ok (.aload_n 0, 1) := dec_of (decode cX10_knownMany) da_380 0 rfl
theorem dX10_knownMany_1 : decode cX10_knownMany 1 = .ok (.getfield 132, 3) := dec_of (decode cX10_knownMany) da_380 1 rfl
theorem dX10_knownMany_4 : decode cX10_knownMany 4 = .ok (.iconst (-1), 1) := dec_of (decode cX10_knownMany) da_380 2 rfl
theorem dX10_knownMany_5 : decode cX10_knownMany 5 = .ok (.if_icmp .ne 10, 3) := dec_of (decode cX10_knownMany) da_380 3 rfl
theorem dX10_knownMany_8 : decode cX10_knownMany 8 = .ok (.aload_n 0, 1) := dec_of (decode cX10_knownMany) da_380 4 rfl
theorem dX10_knownMany_9 : decode cX10_knownMany 9 = .ok (.getfield 310, 3) := dec_of (decode cX10_knownMany) da_380 5 rfl
theorem dX10_knownMany_12 : decode cX10_knownMany 12 = .ok (.goto 7, 3) := dec_of (decode cX10_knownMany) da_380 6 rfl
theorem dX10_knownMany_15 : decode cX10_knownMany 15 = .ok (.aload_n 0, 1) := dec_of (decode cX10_knownMany) da_380 7 rfl
theorem dX10_knownMany_16 : decode cX10_knownMany 16 = .ok (.getfield 132, 3) := dec_of (decode cX10_knownMany) da_380 8 rfl
theorem dX10_knownMany_19 : decode cX10_knownMany 19 = .ok (.ireturn, 1) := dec_of (decode cX10_knownMany) da_380 9 rfl
abbrev dl_381 : List (Nat × Except DecodeError (Instr × Nat)) := [(0, .ok (.iconst (-1), 1)), (1, .ok (.istore_n 3, 1)), (2, .ok (.iconst 0, 1)), (3, .ok (.istore 4, 2)), (5, .ok (.iload 4, 2)), (7, .ok (.aload_n 0, 1)), (8, .ok (.invokevirtual 474, 3)), (11, .ok (.if_icmp .ge 42, 3)), (14, .ok (.aload_n 0, 1)), (15, .ok (.getfield 147, 3)), (18, .ok (.iload 4, 2)), (20, .ok (.baload, 1)), (21, .ok (.ifCond .ne 26, 3)), (24, .ok (.aload_n 0, 1)), (25, .ok (.getfield 144, 3)), (28, .ok (.iload 4, 2)), (30, .ok (.iaload, 1)), (31, .ok (.iconst (-1), 1)), (32, .ok (.if_icmp .ne 15, 3)), (35, .ok (.iload_n 3, 1)), (36, .ok (.aload_n 0, 1)), (37, .ok (.getfield 135, 3)), (40, .ok (.iload 4, 2)), (42, .ok (.iaload, 1)), (43, .ok (.invokestatic 477, 3)), (46, .ok (.istore_n 3, 1)), (47, .ok (.iinc 4 1, 3)), (50, .ok (.goto (-45), 3)), (53, .ok (.aload_n 0, 1)), (54, .ok (.iconst 1, 1)), (55, .ok (.invokevirtual 353, 3)), (58, .ok (.aload_n 0, 1)), (59, .ok (.getfield 99, 3)), (62, .ok (.bipush 8, 2)), (64, .ok (.iload_n 1, 1)), (65, .ok (.iadd, 1)), (66, .ok (.iload_n 2, 1)), (67, .ok (.iastore, 1)), (68, .ok (.iconst 0, 1)), (69, .ok (.istore 4, 2))]
theorem da_381 : dl_381.all (fun q => decide (decode cX10_isWay q.1 = q.2)) = true := by decide +kernel
theorem dX10_isWay_0 : decode cX10_isWay 0 = .ok (.iconst (-1), 1) := dec_of (decode cX10_isWay) da_381 0 rfl
theorem dX10_isWay_1 : decode cX10_isWay 1 = .ok (.istore_n 3, 1) := dec_of (decode cX10_isWay) da_381 1 rfl
theorem dX10_isWay_2 : decode cX10_isWay 2 = .ok (.iconst 0, 1) := dec_of (decode cX10_isWay) da_381 2 rfl
theorem dX10_isWay_3 : decode cX10_isWay 3 = .ok (.istore 4, 2) := dec_of (decode cX10_isWay) da_381 3 rfl
theorem dX10_isWay_5 : decode cX10_isWay 5 = .ok (.iload 4, 2) := dec_of (decode cX10_isWay) da_381 4 rfl
theorem dX10_isWay_7 : decode cX10_isWay 7 = .ok (.aload_n 0, 1) := dec_of (decode cX10_isWay) da_381 5 rfl
theorem dX10_isWay_8 : decode cX10_isWay 8 = .ok (.invokevirtual 474, 3) := dec_of (decode cX10_isWay) da_381 6 rfl
theorem dX10_isWay_11 : decode cX10_isWay 11 = .ok (.if_icmp .ge 42, 3) := dec_of (decode cX10_isWay) da_381 7 rfl
theorem dX10_isWay_14 : decode cX10_isWay 14 = .ok (.aload_n 0, 1) := dec_of (decode cX10_isWay) da_381 8 rfl
theorem dX10_isWay_15 : decode cX10_isWay 15 = .ok (.getfield 147, 3) := dec_of (decode cX10_isWay) da_381 9 rfl
theorem dX10_isWay_18 : decode cX10_isWay 18 = .ok (.iload 4, 2) := dec_of (decode cX10_isWay) da_381 10 rfl
theorem dX10_isWay_20 : decode cX10_isWay 20 = .ok (.baload, 1) := dec_of (decode cX10_isWay) da_381 11 rfl
theorem dX10_isWay_21 : decode cX10_isWay 21 = .ok (.ifCond .ne 26, 3) := dec_of (decode cX10_isWay) da_381 12 rfl
theorem dX10_isWay_24 : decode cX10_isWay 24 = .ok (.aload_n 0, 1) := dec_of (decode cX10_isWay) da_381 13 rfl
theorem dX10_isWay_25 : decode cX10_isWay 25 = .ok (.getfield 144, 3) := dec_of (decode cX10_isWay) da_381 14 rfl
theorem dX10_isWay_28 : decode cX10_isWay 28 = .ok (.iload 4, 2) := dec_of (decode cX10_isWay) da_381 15 rfl
theorem dX10_isWay_30 : decode cX10_isWay 30 = .ok (.iaload, 1) := dec_of (decode cX10_isWay) da_381 16 rfl
theorem dX10_isWay_31 : decode cX10_isWay 31 = .ok (.iconst (-1), 1) := dec_of (decode cX10_isWay) da_381 17 rfl
theorem dX10_isWay_32 : decode cX10_isWay 32 = .ok (.if_icmp .ne 15, 3) := dec_of (decode cX10_isWay) da_381 18 rfl
theorem dX10_isWay_35 : decode cX10_isWay 35 = .ok (.iload_n 3, 1) := dec_of (decode cX10_isWay) da_381 19 rfl
theorem dX10_isWay_36 : decode cX10_isWay 36 = .ok (.aload_n 0, 1) := dec_of (decode cX10_isWay) da_381 20 rfl
theorem dX10_isWay_37 : decode cX10_isWay 37 = .ok (.getfield 135, 3) := dec_of (decode cX10_isWay) da_381 21 rfl
theorem dX10_isWay_40 : decode cX10_isWay 40 = .ok (.iload 4, 2) := dec_of (decode cX10_isWay) da_381 22 rfl
theorem dX10_isWay_42 : decode cX10_isWay 42 = .ok (.iaload, 1) := dec_of (decode cX10_isWay) da_381 23 rfl
theorem dX10_isWay_43 : decode cX10_isWay 43 = .ok (.invokestatic 477, 3) := dec_of (decode cX10_isWay) da_381 24 rfl
theorem dX10_isWay_46 : decode cX10_isWay 46 = .ok (.istore_n 3, 1) := dec_of (decode cX10_isWay) da_381 25 rfl
theorem dX10_isWay_47 : decode cX10_isWay 47 = .ok (.iinc 4 1, 3) := dec_of (decode cX10_isWay) da_381 26 rfl
theorem dX10_isWay_50 : decode cX10_isWay 50 = .ok (.goto (-45), 3) := dec_of (decode cX10_isWay) da_381 27 rfl
theorem dX10_isWay_53 : decode cX10_isWay 53 = .ok (.aload_n 0, 1) := dec_of (decode cX10_isWay) da_381 28 rfl
theorem dX10_isWay_54 : decode cX10_isWay 54 = .ok (.iconst 1, 1) := dec_of (decode cX10_isWay) da_381 29 rfl
theorem dX10_isWay_55 : decode cX10_isWay 55 = .ok (.invokevirtual 353, 3) := dec_of (decode cX10_isWay) da_381 30 rfl
theorem dX10_isWay_58 : decode cX10_isWay 58 = .ok (.aload_n 0, 1) := dec_of (decode cX10_isWay) da_381 31 rfl
theorem dX10_isWay_59 : decode cX10_isWay 59 = .ok (.getfield 99, 3) := dec_of (decode cX10_isWay) da_381 32 rfl
theorem dX10_isWay_62 : decode cX10_isWay 62 = .ok (.bipush 8, 2) := dec_of (decode cX10_isWay) da_381 33 rfl
theorem dX10_isWay_64 : decode cX10_isWay 64 = .ok (.iload_n 1, 1) := dec_of (decode cX10_isWay) da_381 34 rfl
theorem dX10_isWay_65 : decode cX10_isWay 65 = .ok (.iadd, 1) := dec_of (decode cX10_isWay) da_381 35 rfl
theorem dX10_isWay_66 : decode cX10_isWay 66 = .ok (.iload_n 2, 1) := dec_of (decode cX10_isWay) da_381 36 rfl
theorem dX10_isWay_67 : decode cX10_isWay 67 = .ok (.iastore, 1) := dec_of (decode cX10_isWay) da_381 37 rfl
theorem dX10_isWay_68 : decode cX10_isWay 68 = .ok (.iconst 0, 1) := dec_of (decode cX10_isWay) da_381 38 rfl
theorem dX10_isWay_69 : decode cX10_isWay 69 = .ok (.istore 4, 2) := dec_of (decode cX10_isWay) da_381 39 rfl
abbrev dl_382 : List (Nat × Except DecodeError (Instr × Nat)) := [(71, .ok (.iload 4, 2)), (73, .ok (.iload_n 3, 1)), (74, .ok (.if_icmp .gt 108, 3)), (77, .ok (.aload_n 0, 1)), (78, .ok (.iconst 1, 1)), (79, .ok (.iconst 0, 1)), (80, .ok (.invokevirtual 407, 3)), (83, .ok (.iconst 0, 1)), (84, .ok (.istore 5, 2)), (86, .ok (.iload 5, 2)), (88, .ok (.aload_n 0, 1)), (89, .ok (.invokevirtual 474, 3)), (92, .ok (.if_icmp .ge 84, 3)), (95, .ok (.aload_n 0, 1)), (96, .ok (.getfield 147, 3)), (99, .ok (.iload 5, 2)), (101, .ok (.baload, 1)), (102, .ok (.ifCond .ne 68, 3)), (105, .ok (.aload_n 0, 1)), (106, .ok (.getfield 144, 3)), (109, .ok (.iload 5, 2)), (111, .ok (.iaload, 1)), (112, .ok (.iconst (-1), 1)), (113, .ok (.if_icmp .ne 57, 3)), (116, .ok (.aload_n 0, 1)), (117, .ok (.getfield 135, 3)), (120, .ok (.iload 5, 2)), (122, .ok (.iaload, 1)), (123, .ok (.iload 4, 2)), (125, .ok (.if_icmp .eq 6, 3)), (128, .ok (.goto 42, 3)), (131, .ok (.aload_n 0, 1)), (132, .ok (.iconst 1, 1)), (133, .ok (.aload_n 0, 1)), (134, .ok (.getfield 138, 3)), (137, .ok (.iload 5, 2)), (139, .ok (.iaload, 1)), (140, .ok (.invokevirtual 417, 3)), (143, .ok (.istore 6, 2)), (145, .ok (.iload 6, 2))]
theorem da_382 : dl_382.all (fun q => decide (decode cX10_isWay q.1 = q.2)) = true := by decide +kernel
theorem dX10_isWay_71 : decode cX10_isWay 71 = .ok (.iload 4, 2) := dec_of (decode cX10_isWay) da_382 0 rfl
theorem dX10_isWay_73 : decode cX10_isWay 73 = .ok (.iload_n 3, 1) := dec_of (decode cX10_isWay) da_382 1 rfl
theorem dX10_isWay_74 : decode cX10_isWay 74 = .ok (.if_icmp .gt 108, 3) := dec_of (decode cX10_isWay) da_382 2 rfl
theorem dX10_isWay_77 : decode cX10_isWay 77 = .ok (.aload_n 0, 1) := dec_of (decode cX10_isWay) da_382 3 rfl
theorem dX10_isWay_78 : decode cX10_isWay 78 = .ok (.iconst 1, 1) := dec_of (decode cX10_isWay) da_382 4 rfl
theorem dX10_isWay_79 : decode cX10_isWay 79 = .ok (.iconst 0, 1) := dec_of (decode cX10_isWay) da_382 5 rfl
theorem dX10_isWay_80 : decode cX10_isWay 80 = .ok (.invokevirtual 407, 3) := dec_of (decode cX10_isWay) da_382 6 rfl
theorem dX10_isWay_83 : decode cX10_isWay 83 = .ok (.iconst 0, 1) := dec_of (decode cX10_isWay) da_382 7 rfl
theorem dX10_isWay_84 : decode cX10_isWay 84 = .ok (.istore 5, 2) := dec_of (decode cX10_isWay) da_382 8 rfl
theorem dX10_isWay_86 : decode cX10_isWay 86 = .ok (.iload 5, 2) := dec_of (decode cX10_isWay) da_382 9 rfl
theorem dX10_isWay_88 : decode cX10_isWay 88 = .ok (.aload_n 0, 1) := dec_of (decode cX10_isWay) da_382 10 rfl
theorem dX10_isWay_89 : decode cX10_isWay 89 = .ok (.invokevirtual 474, 3) := dec_of (decode cX10_isWay) da_382 11 rfl
theorem dX10_isWay_92 : decode cX10_isWay 92 = .ok (.if_icmp .ge 84, 3) := dec_of (decode cX10_isWay) da_382 12 rfl
theorem dX10_isWay_95 : decode cX10_isWay 95 = .ok (.aload_n 0, 1) := dec_of (decode cX10_isWay) da_382 13 rfl
theorem dX10_isWay_96 : decode cX10_isWay 96 = .ok (.getfield 147, 3) := dec_of (decode cX10_isWay) da_382 14 rfl
theorem dX10_isWay_99 : decode cX10_isWay 99 = .ok (.iload 5, 2) := dec_of (decode cX10_isWay) da_382 15 rfl
theorem dX10_isWay_101 : decode cX10_isWay 101 = .ok (.baload, 1) := dec_of (decode cX10_isWay) da_382 16 rfl
theorem dX10_isWay_102 : decode cX10_isWay 102 = .ok (.ifCond .ne 68, 3) := dec_of (decode cX10_isWay) da_382 17 rfl
theorem dX10_isWay_105 : decode cX10_isWay 105 = .ok (.aload_n 0, 1) := dec_of (decode cX10_isWay) da_382 18 rfl
theorem dX10_isWay_106 : decode cX10_isWay 106 = .ok (.getfield 144, 3) := dec_of (decode cX10_isWay) da_382 19 rfl
theorem dX10_isWay_109 : decode cX10_isWay 109 = .ok (.iload 5, 2) := dec_of (decode cX10_isWay) da_382 20 rfl
theorem dX10_isWay_111 : decode cX10_isWay 111 = .ok (.iaload, 1) := dec_of (decode cX10_isWay) da_382 21 rfl
theorem dX10_isWay_112 : decode cX10_isWay 112 = .ok (.iconst (-1), 1) := dec_of (decode cX10_isWay) da_382 22 rfl
theorem dX10_isWay_113 : decode cX10_isWay 113 = .ok (.if_icmp .ne 57, 3) := dec_of (decode cX10_isWay) da_382 23 rfl
theorem dX10_isWay_116 : decode cX10_isWay 116 = .ok (.aload_n 0, 1) := dec_of (decode cX10_isWay) da_382 24 rfl
theorem dX10_isWay_117 : decode cX10_isWay 117 = .ok (.getfield 135, 3) := dec_of (decode cX10_isWay) da_382 25 rfl
theorem dX10_isWay_120 : decode cX10_isWay 120 = .ok (.iload 5, 2) := dec_of (decode cX10_isWay) da_382 26 rfl
theorem dX10_isWay_122 : decode cX10_isWay 122 = .ok (.iaload, 1) := dec_of (decode cX10_isWay) da_382 27 rfl
theorem dX10_isWay_123 : decode cX10_isWay 123 = .ok (.iload 4, 2) := dec_of (decode cX10_isWay) da_382 28 rfl
theorem dX10_isWay_125 : decode cX10_isWay 125 = .ok (.if_icmp .eq 6, 3) := dec_of (decode cX10_isWay) da_382 29 rfl
theorem dX10_isWay_128 : decode cX10_isWay 128 = .ok (.goto 42, 3) := dec_of (decode cX10_isWay) da_382 30 rfl
theorem dX10_isWay_131 : decode cX10_isWay 131 = .ok (.aload_n 0, 1) := dec_of (decode cX10_isWay) da_382 31 rfl
theorem dX10_isWay_132 : decode cX10_isWay 132 = .ok (.iconst 1, 1) := dec_of (decode cX10_isWay) da_382 32 rfl
theorem dX10_isWay_133 : decode cX10_isWay 133 = .ok (.aload_n 0, 1) := dec_of (decode cX10_isWay) da_382 33 rfl
theorem dX10_isWay_134 : decode cX10_isWay 134 = .ok (.getfield 138, 3) := dec_of (decode cX10_isWay) da_382 34 rfl
theorem dX10_isWay_137 : decode cX10_isWay 137 = .ok (.iload 5, 2) := dec_of (decode cX10_isWay) da_382 35 rfl
theorem dX10_isWay_139 : decode cX10_isWay 139 = .ok (.iaload, 1) := dec_of (decode cX10_isWay) da_382 36 rfl
theorem dX10_isWay_140 : decode cX10_isWay 140 = .ok (.invokevirtual 417, 3) := dec_of (decode cX10_isWay) da_382 37 rfl
theorem dX10_isWay_143 : decode cX10_isWay 143 = .ok (.istore 6, 2) := dec_of (decode cX10_isWay) da_382 38 rfl
theorem dX10_isWay_145 : decode cX10_isWay 145 = .ok (.iload 6, 2) := dec_of (decode cX10_isWay) da_382 39 rfl
abbrev dl_383 : List (Nat × Except DecodeError (Instr × Nat)) := [(147, .ok (.bipush (-2), 2)), (149, .ok (.if_icmp .ne 7, 3)), (152, .ok (.iconst (-1), 1)), (153, .ok (.goto 5, 3)), (156, .ok (.iload 6, 2)), (158, .ok (.aload_n 0, 1)), (159, .ok (.getfield 141, 3)), (162, .ok (.iload 5, 2)), (164, .ok (.iaload, 1)), (165, .ok (.if_icmp .eq 5, 3)), (168, .ok (.iconst 0, 1)), (169, .ok (.ireturn, 1)), (170, .ok (.iinc 5 1, 3)), (173, .ok (.goto (-87), 3)), (176, .ok (.iinc 4 1, 3)), (179, .ok (.goto (-108), 3)), (182, .ok (.iconst 1, 1)), (183, .ok (.ireturn, 1))]
theorem da_383 : dl_383.all (fun q => decide (decode cX10_isWay q.1 = q.2)) = true := by decide +kernel
theorem dX10_isWay_147 : decode cX10_isWay 147 = .ok (.bipush (-2), 2) := dec_of (decode cX10_isWay) da_383 0 rfl
theorem dX10_isWay_149 : decode cX10_isWay 149 = .ok (.if_icmp .ne 7, 3) := dec_of (decode cX10_isWay) da_383 1 rfl
theorem dX10_isWay_152 : decode cX10_isWay 152 = .ok (.iconst (-1), 1) := dec_of (decode cX10_isWay) da_383 2 rfl
theorem dX10_isWay_153 : decode cX10_isWay 153 = .ok (.goto 5, 3) := dec_of (decode cX10_isWay) da_383 3 rfl
theorem dX10_isWay_156 : decode cX10_isWay 156 = .ok (.iload 6, 2) := dec_of (decode cX10_isWay) da_383 4 rfl
theorem dX10_isWay_158 : decode cX10_isWay 158 = .ok (.aload_n 0, 1) := dec_of (decode cX10_isWay) da_383 5 rfl
theorem dX10_isWay_159 : decode cX10_isWay 159 = .ok (.getfield 141, 3) := dec_of (decode cX10_isWay) da_383 6 rfl
theorem dX10_isWay_162 : decode cX10_isWay 162 = .ok (.iload 5, 2) := dec_of (decode cX10_isWay) da_383 7 rfl
theorem dX10_isWay_164 : decode cX10_isWay 164 = .ok (.iaload, 1) := dec_of (decode cX10_isWay) da_383 8 rfl
theorem dX10_isWay_165 : decode cX10_isWay 165 = .ok (.if_icmp .eq 5, 3) := dec_of (decode cX10_isWay) da_383 9 rfl
theorem dX10_isWay_168 : decode cX10_isWay 168 = .ok (.iconst 0, 1) := dec_of (decode cX10_isWay) da_383 10 rfl
theorem dX10_isWay_169 : decode cX10_isWay 169 = .ok (.ireturn, 1) := dec_of (decode cX10_isWay) da_383 11 rfl
theorem dX10_isWay_170 : decode cX10_isWay 170 = .ok (.iinc 5 1, 3) := dec_of (decode cX10_isWay) da_383 12 rfl
theorem dX10_isWay_173 : decode cX10_isWay 173 = .ok (.goto (-87), 3) := dec_of (decode cX10_isWay) da_383 13 rfl
theorem dX10_isWay_176 : decode cX10_isWay 176 = .ok (.iinc 4 1, 3) := dec_of (decode cX10_isWay) da_383 14 rfl
theorem dX10_isWay_179 : decode cX10_isWay 179 = .ok (.goto (-108), 3) := dec_of (decode cX10_isWay) da_383 15 rfl
theorem dX10_isWay_182 : decode cX10_isWay 182 = .ok (.iconst 1, 1) := dec_of (decode cX10_isWay) da_383 16 rfl
theorem dX10_isWay_183 : decode cX10_isWay 183 = .ok (.ireturn, 1) := dec_of (decode cX10_isWay) da_383 17 rfl
abbrev dl_384 : List (Nat × Except DecodeError (Instr × Nat)) := [(0, .ok (.iconst 0, 1)), (1, .ok (.istore_n 2, 1)), (2, .ok (.iload_n 2, 1)), (3, .ok (.aload_n 0, 1)), (4, .ok (.invokevirtual 474, 3)), (7, .ok (.if_icmp .ge 16, 3)), (10, .ok (.aload_n 0, 1)), (11, .ok (.getfield 147, 3)), (14, .ok (.iload_n 2, 1)), (15, .ok (.iconst 0, 1)), (16, .ok (.bastore, 1)), (17, .ok (.iinc 2 1, 3)), (20, .ok (.goto (-18), 3)), (23, .ok (.aload_n 0, 1)), (24, .ok (.invokevirtual 474, 3)), (27, .ok (.iconst 1, 1)), (28, .ok (.isub, 1)), (29, .ok (.istore_n 2, 1)), (30, .ok (.iload_n 2, 1)), (31, .ok (.ifCond .lt 40, 3)), (34, .ok (.aload_n 0, 1)), (35, .ok (.getfield 147, 3)), (38, .ok (.iload_n 2, 1)), (39, .ok (.baload, 1)), (40, .ok (.ifCond .ne 25, 3)), (43, .ok (.aload_n 0, 1)), (44, .ok (.getfield 144, 3)), (47, .ok (.iload_n 2, 1)), (48, .ok (.iaload, 1)), (49, .ok (.iconst (-1), 1)), (50, .ok (.if_icmp .eq 15, 3)), (53, .ok (.aload_n 0, 1)), (54, .ok (.getfield 147, 3)), (57, .ok (.aload_n 0, 1)), (58, .ok (.getfield 144, 3)), (61, .ok (.iload_n 2, 1)), (62, .ok (.iaload, 1)), (63, .ok (.iconst 1, 1)), (64, .ok (.bastore, 1)), (65, .ok (.iinc 2 (-1), 3))]
theorem da_384 : dl_384.all (fun q => decide (decode cX10_layCame q.1 = q.2)) = true := by decide +kernel
theorem dX10_layCame_0 : decode cX10_layCame 0 = .ok (.iconst 0, 1) := dec_of (decode cX10_layCame) da_384 0 rfl
theorem dX10_layCame_1 : decode cX10_layCame 1 = .ok (.istore_n 2, 1) := dec_of (decode cX10_layCame) da_384 1 rfl
theorem dX10_layCame_2 : decode cX10_layCame 2 = .ok (.iload_n 2, 1) := dec_of (decode cX10_layCame) da_384 2 rfl
theorem dX10_layCame_3 : decode cX10_layCame 3 = .ok (.aload_n 0, 1) := dec_of (decode cX10_layCame) da_384 3 rfl
theorem dX10_layCame_4 : decode cX10_layCame 4 = .ok (.invokevirtual 474, 3) := dec_of (decode cX10_layCame) da_384 4 rfl
theorem dX10_layCame_7 : decode cX10_layCame 7 = .ok (.if_icmp .ge 16, 3) := dec_of (decode cX10_layCame) da_384 5 rfl
theorem dX10_layCame_10 : decode cX10_layCame 10 = .ok (.aload_n 0, 1) := dec_of (decode cX10_layCame) da_384 6 rfl
theorem dX10_layCame_11 : decode cX10_layCame 11 = .ok (.getfield 147, 3) := dec_of (decode cX10_layCame) da_384 7 rfl
theorem dX10_layCame_14 : decode cX10_layCame 14 = .ok (.iload_n 2, 1) := dec_of (decode cX10_layCame) da_384 8 rfl
theorem dX10_layCame_15 : decode cX10_layCame 15 = .ok (.iconst 0, 1) := dec_of (decode cX10_layCame) da_384 9 rfl
theorem dX10_layCame_16 : decode cX10_layCame 16 = .ok (.bastore, 1) := dec_of (decode cX10_layCame) da_384 10 rfl
theorem dX10_layCame_17 : decode cX10_layCame 17 = .ok (.iinc 2 1, 3) := dec_of (decode cX10_layCame) da_384 11 rfl
theorem dX10_layCame_20 : decode cX10_layCame 20 = .ok (.goto (-18), 3) := dec_of (decode cX10_layCame) da_384 12 rfl
theorem dX10_layCame_23 : decode cX10_layCame 23 = .ok (.aload_n 0, 1) := dec_of (decode cX10_layCame) da_384 13 rfl
theorem dX10_layCame_24 : decode cX10_layCame 24 = .ok (.invokevirtual 474, 3) := dec_of (decode cX10_layCame) da_384 14 rfl
theorem dX10_layCame_27 : decode cX10_layCame 27 = .ok (.iconst 1, 1) := dec_of (decode cX10_layCame) da_384 15 rfl
theorem dX10_layCame_28 : decode cX10_layCame 28 = .ok (.isub, 1) := dec_of (decode cX10_layCame) da_384 16 rfl
theorem dX10_layCame_29 : decode cX10_layCame 29 = .ok (.istore_n 2, 1) := dec_of (decode cX10_layCame) da_384 17 rfl
theorem dX10_layCame_30 : decode cX10_layCame 30 = .ok (.iload_n 2, 1) := dec_of (decode cX10_layCame) da_384 18 rfl
theorem dX10_layCame_31 : decode cX10_layCame 31 = .ok (.ifCond .lt 40, 3) := dec_of (decode cX10_layCame) da_384 19 rfl
theorem dX10_layCame_34 : decode cX10_layCame 34 = .ok (.aload_n 0, 1) := dec_of (decode cX10_layCame) da_384 20 rfl
theorem dX10_layCame_35 : decode cX10_layCame 35 = .ok (.getfield 147, 3) := dec_of (decode cX10_layCame) da_384 21 rfl
theorem dX10_layCame_38 : decode cX10_layCame 38 = .ok (.iload_n 2, 1) := dec_of (decode cX10_layCame) da_384 22 rfl
theorem dX10_layCame_39 : decode cX10_layCame 39 = .ok (.baload, 1) := dec_of (decode cX10_layCame) da_384 23 rfl
theorem dX10_layCame_40 : decode cX10_layCame 40 = .ok (.ifCond .ne 25, 3) := dec_of (decode cX10_layCame) da_384 24 rfl
theorem dX10_layCame_43 : decode cX10_layCame 43 = .ok (.aload_n 0, 1) := dec_of (decode cX10_layCame) da_384 25 rfl
theorem dX10_layCame_44 : decode cX10_layCame 44 = .ok (.getfield 144, 3) := dec_of (decode cX10_layCame) da_384 26 rfl
theorem dX10_layCame_47 : decode cX10_layCame 47 = .ok (.iload_n 2, 1) := dec_of (decode cX10_layCame) da_384 27 rfl
theorem dX10_layCame_48 : decode cX10_layCame 48 = .ok (.iaload, 1) := dec_of (decode cX10_layCame) da_384 28 rfl
theorem dX10_layCame_49 : decode cX10_layCame 49 = .ok (.iconst (-1), 1) := dec_of (decode cX10_layCame) da_384 29 rfl
theorem dX10_layCame_50 : decode cX10_layCame 50 = .ok (.if_icmp .eq 15, 3) := dec_of (decode cX10_layCame) da_384 30 rfl
theorem dX10_layCame_53 : decode cX10_layCame 53 = .ok (.aload_n 0, 1) := dec_of (decode cX10_layCame) da_384 31 rfl
theorem dX10_layCame_54 : decode cX10_layCame 54 = .ok (.getfield 147, 3) := dec_of (decode cX10_layCame) da_384 32 rfl
theorem dX10_layCame_57 : decode cX10_layCame 57 = .ok (.aload_n 0, 1) := dec_of (decode cX10_layCame) da_384 33 rfl
theorem dX10_layCame_58 : decode cX10_layCame 58 = .ok (.getfield 144, 3) := dec_of (decode cX10_layCame) da_384 34 rfl
theorem dX10_layCame_61 : decode cX10_layCame 61 = .ok (.iload_n 2, 1) := dec_of (decode cX10_layCame) da_384 35 rfl
theorem dX10_layCame_62 : decode cX10_layCame 62 = .ok (.iaload, 1) := dec_of (decode cX10_layCame) da_384 36 rfl
theorem dX10_layCame_63 : decode cX10_layCame 63 = .ok (.iconst 1, 1) := dec_of (decode cX10_layCame) da_384 37 rfl
theorem dX10_layCame_64 : decode cX10_layCame 64 = .ok (.bastore, 1) := dec_of (decode cX10_layCame) da_384 38 rfl
theorem dX10_layCame_65 : decode cX10_layCame 65 = .ok (.iinc 2 (-1), 3) := dec_of (decode cX10_layCame) da_384 39 rfl
abbrev dl_385 : List (Nat × Except DecodeError (Instr × Nat)) := [(68, .ok (.goto (-38), 3)), (71, .ok (.iconst 0, 1)), (72, .ok (.istore_n 2, 1)), (73, .ok (.iconst 0, 1)), (74, .ok (.istore_n 3, 1)), (75, .ok (.iload_n 3, 1)), (76, .ok (.aload_n 0, 1)), (77, .ok (.getfield 13, 3)), (80, .ok (.iconst 0, 1)), (81, .ok (.iaload, 1)), (82, .ok (.if_icmp .ge 57, 3)), (85, .ok (.iconst 0, 1)), (86, .ok (.istore 4, 2)), (88, .ok (.iload 4, 2)), (90, .ok (.bipush 59, 2)), (92, .ok (.if_icmp .gt 41, 3)), (95, .ok (.aload_n 0, 1)), (96, .ok (.iload_n 3, 1)), (97, .ok (.iload 4, 2)), (99, .ok (.invokevirtual 479, 3)), (102, .ok (.ifCond .ne 6, 3)), (105, .ok (.goto 22, 3)), (108, .ok (.iload_n 2, 1)), (109, .ok (.iload_n 1, 1)), (110, .ok (.if_icmp .ne 14, 3)), (113, .ok (.aload_n 0, 1)), (114, .ok (.iload_n 3, 1)), (115, .ok (.putfield 482, 3)), (118, .ok (.aload_n 0, 1)), (119, .ok (.iload 4, 2)), (121, .ok (.putfield 485, 3)), (124, .ok (.iinc 2 1, 3)), (127, .ok (.iinc 4 1, 3)), (130, .ok (.goto (-42), 3)), (133, .ok (.iinc 3 1, 3)), (136, .ok (.goto (-61), 3)), (139, .ok (.iload_n 2, 1)), (140, .ok (.ireturn, 1))]
theorem da_385 : dl_385.all (fun q => decide (decode cX10_layCame q.1 = q.2)) = true := by decide +kernel
theorem dX10_layCame_68 : decode cX10_layCame 68 = .ok (.goto (-38), 3) := dec_of (decode cX10_layCame) da_385 0 rfl
theorem dX10_layCame_71 : decode cX10_layCame 71 = .ok (.iconst 0, 1) := dec_of (decode cX10_layCame) da_385 1 rfl
theorem dX10_layCame_72 : decode cX10_layCame 72 = .ok (.istore_n 2, 1) := dec_of (decode cX10_layCame) da_385 2 rfl
theorem dX10_layCame_73 : decode cX10_layCame 73 = .ok (.iconst 0, 1) := dec_of (decode cX10_layCame) da_385 3 rfl
theorem dX10_layCame_74 : decode cX10_layCame 74 = .ok (.istore_n 3, 1) := dec_of (decode cX10_layCame) da_385 4 rfl
theorem dX10_layCame_75 : decode cX10_layCame 75 = .ok (.iload_n 3, 1) := dec_of (decode cX10_layCame) da_385 5 rfl
theorem dX10_layCame_76 : decode cX10_layCame 76 = .ok (.aload_n 0, 1) := dec_of (decode cX10_layCame) da_385 6 rfl
theorem dX10_layCame_77 : decode cX10_layCame 77 = .ok (.getfield 13, 3) := dec_of (decode cX10_layCame) da_385 7 rfl
theorem dX10_layCame_80 : decode cX10_layCame 80 = .ok (.iconst 0, 1) := dec_of (decode cX10_layCame) da_385 8 rfl
theorem dX10_layCame_81 : decode cX10_layCame 81 = .ok (.iaload, 1) := dec_of (decode cX10_layCame) da_385 9 rfl
theorem dX10_layCame_82 : decode cX10_layCame 82 = .ok (.if_icmp .ge 57, 3) := dec_of (decode cX10_layCame) da_385 10 rfl
theorem dX10_layCame_85 : decode cX10_layCame 85 = .ok (.iconst 0, 1) := dec_of (decode cX10_layCame) da_385 11 rfl
theorem dX10_layCame_86 : decode cX10_layCame 86 = .ok (.istore 4, 2) := dec_of (decode cX10_layCame) da_385 12 rfl
theorem dX10_layCame_88 : decode cX10_layCame 88 = .ok (.iload 4, 2) := dec_of (decode cX10_layCame) da_385 13 rfl
theorem dX10_layCame_90 : decode cX10_layCame 90 = .ok (.bipush 59, 2) := dec_of (decode cX10_layCame) da_385 14 rfl
theorem dX10_layCame_92 : decode cX10_layCame 92 = .ok (.if_icmp .gt 41, 3) := dec_of (decode cX10_layCame) da_385 15 rfl
theorem dX10_layCame_95 : decode cX10_layCame 95 = .ok (.aload_n 0, 1) := dec_of (decode cX10_layCame) da_385 16 rfl
theorem dX10_layCame_96 : decode cX10_layCame 96 = .ok (.iload_n 3, 1) := dec_of (decode cX10_layCame) da_385 17 rfl
theorem dX10_layCame_97 : decode cX10_layCame 97 = .ok (.iload 4, 2) := dec_of (decode cX10_layCame) da_385 18 rfl
theorem dX10_layCame_99 : decode cX10_layCame 99 = .ok (.invokevirtual 479, 3) := dec_of (decode cX10_layCame) da_385 19 rfl
theorem dX10_layCame_102 : decode cX10_layCame 102 = .ok (.ifCond .ne 6, 3) := dec_of (decode cX10_layCame) da_385 20 rfl
theorem dX10_layCame_105 : decode cX10_layCame 105 = .ok (.goto 22, 3) := dec_of (decode cX10_layCame) da_385 21 rfl
theorem dX10_layCame_108 : decode cX10_layCame 108 = .ok (.iload_n 2, 1) := dec_of (decode cX10_layCame) da_385 22 rfl
theorem dX10_layCame_109 : decode cX10_layCame 109 = .ok (.iload_n 1, 1) := dec_of (decode cX10_layCame) da_385 23 rfl
theorem dX10_layCame_110 : decode cX10_layCame 110 = .ok (.if_icmp .ne 14, 3) := dec_of (decode cX10_layCame) da_385 24 rfl
theorem dX10_layCame_113 : decode cX10_layCame 113 = .ok (.aload_n 0, 1) := dec_of (decode cX10_layCame) da_385 25 rfl
theorem dX10_layCame_114 : decode cX10_layCame 114 = .ok (.iload_n 3, 1) := dec_of (decode cX10_layCame) da_385 26 rfl
theorem dX10_layCame_115 : decode cX10_layCame 115 = .ok (.putfield 482, 3) := dec_of (decode cX10_layCame) da_385 27 rfl
theorem dX10_layCame_118 : decode cX10_layCame 118 = .ok (.aload_n 0, 1) := dec_of (decode cX10_layCame) da_385 28 rfl
theorem dX10_layCame_119 : decode cX10_layCame 119 = .ok (.iload 4, 2) := dec_of (decode cX10_layCame) da_385 29 rfl
theorem dX10_layCame_121 : decode cX10_layCame 121 = .ok (.putfield 485, 3) := dec_of (decode cX10_layCame) da_385 30 rfl
theorem dX10_layCame_124 : decode cX10_layCame 124 = .ok (.iinc 2 1, 3) := dec_of (decode cX10_layCame) da_385 31 rfl
theorem dX10_layCame_127 : decode cX10_layCame 127 = .ok (.iinc 4 1, 3) := dec_of (decode cX10_layCame) da_385 32 rfl
theorem dX10_layCame_130 : decode cX10_layCame 130 = .ok (.goto (-42), 3) := dec_of (decode cX10_layCame) da_385 33 rfl
theorem dX10_layCame_133 : decode cX10_layCame 133 = .ok (.iinc 3 1, 3) := dec_of (decode cX10_layCame) da_385 34 rfl
theorem dX10_layCame_136 : decode cX10_layCame 136 = .ok (.goto (-61), 3) := dec_of (decode cX10_layCame) da_385 35 rfl
theorem dX10_layCame_139 : decode cX10_layCame 139 = .ok (.iload_n 2, 1) := dec_of (decode cX10_layCame) da_385 36 rfl
theorem dX10_layCame_140 : decode cX10_layCame 140 = .ok (.ireturn, 1) := dec_of (decode cX10_layCame) da_385 37 rfl
abbrev dl_386 : List (Nat × Except DecodeError (Instr × Nat)) := [(0, .ok (.aload_n 0, 1)), (1, .ok (.iconst 0, 1)), (2, .ok (.putfield 154, 3)), (5, .ok (.aload_n 0, 1)), (6, .ok (.iconst (-1), 1)), (7, .ok (.invokevirtual 488, 3)), (10, .ok (.ireturn, 1))]
theorem da_386 : dl_386.all (fun q => decide (decode cX10_came q.1 = q.2)) = true := by decide +kernel
theorem dX10_came_0 : decode cX10_came 0 = .ok (.aload_n 0, 1) := dec_of (decode cX10_came) da_386 0 rfl
theorem dX10_came_1 : decode cX10_came 1 = .ok (.iconst 0, 1) := dec_of (decode cX10_came) da_386 1 rfl
theorem dX10_came_2 : decode cX10_came 2 = .ok (.putfield 154, 3) := dec_of (decode cX10_came) da_386 2 rfl
theorem dX10_came_5 : decode cX10_came 5 = .ok (.aload_n 0, 1) := dec_of (decode cX10_came) da_386 3 rfl
theorem dX10_came_6 : decode cX10_came 6 = .ok (.iconst (-1), 1) := dec_of (decode cX10_came) da_386 4 rfl
theorem dX10_came_7 : decode cX10_came 7 = .ok (.invokevirtual 488, 3) := dec_of (decode cX10_came) da_386 5 rfl
theorem dX10_came_10 : decode cX10_came 10 = .ok (.ireturn, 1) := dec_of (decode cX10_came) da_386 6 rfl
abbrev dl_387 : List (Nat × Except DecodeError (Instr × Nat)) := [(0, .ok (.aload_n 0, 1)), (1, .ok (.iconst 0, 1)), (2, .ok (.putfield 154, 3)), (5, .ok (.iload_n 1, 1)), (6, .ok (.ifCond .lt 12, 3)), (9, .ok (.iload_n 2, 1)), (10, .ok (.ifCond .lt 8, 3)), (13, .ok (.iload_n 2, 1)), (14, .ok (.iconst 1, 1)), (15, .ok (.if_icmp .le 5, 3)), (18, .ok (.iconst (-1), 1)), (19, .ok (.ireturn, 1)), (20, .ok (.iload_n 1, 1)), (21, .ok (.aload_n 0, 1)), (22, .ok (.iload_n 1, 1)), (23, .ok (.invokevirtual 488, 3)), (26, .ok (.if_icmp .lt 6, 3)), (29, .ok (.bipush (-2), 2)), (31, .ok (.ireturn, 1)), (32, .ok (.iload_n 2, 1)), (33, .ok (.ifCond .ne 10, 3)), (36, .ok (.aload_n 0, 1)), (37, .ok (.getfield 482, 3)), (40, .ok (.goto 7, 3)), (43, .ok (.aload_n 0, 1)), (44, .ok (.getfield 485, 3)), (47, .ok (.ireturn, 1))]
theorem da_387 : dl_387.all (fun q => decide (decode cX10_one q.1 = q.2)) = true := by decide +kernel
theorem dX10_one_0 : decode cX10_one 0 = .ok (.aload_n 0, 1) := dec_of (decode cX10_one) da_387 0 rfl
theorem dX10_one_1 : decode cX10_one 1 = .ok (.iconst 0, 1) := dec_of (decode cX10_one) da_387 1 rfl
theorem dX10_one_2 : decode cX10_one 2 = .ok (.putfield 154, 3) := dec_of (decode cX10_one) da_387 2 rfl
theorem dX10_one_5 : decode cX10_one 5 = .ok (.iload_n 1, 1) := dec_of (decode cX10_one) da_387 3 rfl
theorem dX10_one_6 : decode cX10_one 6 = .ok (.ifCond .lt 12, 3) := dec_of (decode cX10_one) da_387 4 rfl
theorem dX10_one_9 : decode cX10_one 9 = .ok (.iload_n 2, 1) := dec_of (decode cX10_one) da_387 5 rfl
theorem dX10_one_10 : decode cX10_one 10 = .ok (.ifCond .lt 8, 3) := dec_of (decode cX10_one) da_387 6 rfl
theorem dX10_one_13 : decode cX10_one 13 = .ok (.iload_n 2, 1) := dec_of (decode cX10_one) da_387 7 rfl
theorem dX10_one_14 : decode cX10_one 14 = .ok (.iconst 1, 1) := dec_of (decode cX10_one) da_387 8 rfl
theorem dX10_one_15 : decode cX10_one 15 = .ok (.if_icmp .le 5, 3) := dec_of (decode cX10_one) da_387 9 rfl
theorem dX10_one_18 : decode cX10_one 18 = .ok (.iconst (-1), 1) := dec_of (decode cX10_one) da_387 10 rfl
theorem dX10_one_19 : decode cX10_one 19 = .ok (.ireturn, 1) := dec_of (decode cX10_one) da_387 11 rfl
theorem dX10_one_20 : decode cX10_one 20 = .ok (.iload_n 1, 1) := dec_of (decode cX10_one) da_387 12 rfl
theorem dX10_one_21 : decode cX10_one 21 = .ok (.aload_n 0, 1) := dec_of (decode cX10_one) da_387 13 rfl
theorem dX10_one_22 : decode cX10_one 22 = .ok (.iload_n 1, 1) := dec_of (decode cX10_one) da_387 14 rfl
theorem dX10_one_23 : decode cX10_one 23 = .ok (.invokevirtual 488, 3) := dec_of (decode cX10_one) da_387 15 rfl
theorem dX10_one_26 : decode cX10_one 26 = .ok (.if_icmp .lt 6, 3) := dec_of (decode cX10_one) da_387 16 rfl
theorem dX10_one_29 : decode cX10_one 29 = .ok (.bipush (-2), 2) := dec_of (decode cX10_one) da_387 17 rfl
theorem dX10_one_31 : decode cX10_one 31 = .ok (.ireturn, 1) := dec_of (decode cX10_one) da_387 18 rfl
theorem dX10_one_32 : decode cX10_one 32 = .ok (.iload_n 2, 1) := dec_of (decode cX10_one) da_387 19 rfl
theorem dX10_one_33 : decode cX10_one 33 = .ok (.ifCond .ne 10, 3) := dec_of (decode cX10_one) da_387 20 rfl
theorem dX10_one_36 : decode cX10_one 36 = .ok (.aload_n 0, 1) := dec_of (decode cX10_one) da_387 21 rfl
theorem dX10_one_37 : decode cX10_one 37 = .ok (.getfield 482, 3) := dec_of (decode cX10_one) da_387 22 rfl
theorem dX10_one_40 : decode cX10_one 40 = .ok (.goto 7, 3) := dec_of (decode cX10_one) da_387 23 rfl
theorem dX10_one_43 : decode cX10_one 43 = .ok (.aload_n 0, 1) := dec_of (decode cX10_one) da_387 24 rfl
theorem dX10_one_44 : decode cX10_one 44 = .ok (.getfield 485, 3) := dec_of (decode cX10_one) da_387 25 rfl
theorem dX10_one_47 : decode cX10_one 47 = .ok (.ireturn, 1) := dec_of (decode cX10_one) da_387 26 rfl
abbrev dl_388 : List (Nat × Except DecodeError (Instr × Nat)) := [(0, .ok (.aload_n 0, 1)), (1, .ok (.iconst 0, 1)), (2, .ok (.putfield 154, 3)), (5, .ok (.aload_n 0, 1)), (6, .ok (.iload_n 1, 1)), (7, .ok (.invokevirtual 461, 3)), (10, .ok (.ifCond .eq 12, 3)), (13, .ok (.iload_n 2, 1)), (14, .ok (.ifCond .lt 8, 3)), (17, .ok (.iload_n 2, 1)), (18, .ok (.iconst 1, 1)), (19, .ok (.if_icmp .le 5, 3)), (22, .ok (.iconst (-1), 1)), (23, .ok (.ireturn, 1)), (24, .ok (.aload_n 0, 1)), (25, .ok (.invokevirtual 442, 3)), (28, .ok (.iconst 0, 1)), (29, .ok (.istore_n 3, 1)), (30, .ok (.bipush (-2), 2)), (32, .ok (.istore 4, 2)), (34, .ok (.iconst 0, 1)), (35, .ok (.istore 5, 2)), (37, .ok (.iload 5, 2)), (39, .ok (.iload_n 1, 1)), (40, .ok (.if_icmp .ge 47, 3)), (43, .ok (.aload_n 0, 1)), (44, .ok (.iconst 1, 1)), (45, .ok (.iconst 0, 1)), (46, .ok (.invokevirtual 407, 3)), (49, .ok (.aload_n 0, 1)), (50, .ok (.getfield 81, 3)), (53, .ok (.iconst 1, 1)), (54, .ok (.iaload, 1)), (55, .ok (.ifCond .le 6, 3)), (58, .ok (.goto 23, 3)), (61, .ok (.iinc 3 1, 3)), (64, .ok (.iload 4, 2)), (66, .ok (.bipush (-2), 2)), (68, .ok (.if_icmp .ne 13, 3)), (71, .ok (.aload_n 0, 1))]
theorem da_388 : dl_388.all (fun q => decide (decode cX10_empty q.1 = q.2)) = true := by decide +kernel
theorem dX10_empty_0 : decode cX10_empty 0 = .ok (.aload_n 0, 1) := dec_of (decode cX10_empty) da_388 0 rfl
theorem dX10_empty_1 : decode cX10_empty 1 = .ok (.iconst 0, 1) := dec_of (decode cX10_empty) da_388 1 rfl
theorem dX10_empty_2 : decode cX10_empty 2 = .ok (.putfield 154, 3) := dec_of (decode cX10_empty) da_388 2 rfl
theorem dX10_empty_5 : decode cX10_empty 5 = .ok (.aload_n 0, 1) := dec_of (decode cX10_empty) da_388 3 rfl
theorem dX10_empty_6 : decode cX10_empty 6 = .ok (.iload_n 1, 1) := dec_of (decode cX10_empty) da_388 4 rfl
theorem dX10_empty_7 : decode cX10_empty 7 = .ok (.invokevirtual 461, 3) := dec_of (decode cX10_empty) da_388 5 rfl
theorem dX10_empty_10 : decode cX10_empty 10 = .ok (.ifCond .eq 12, 3) := dec_of (decode cX10_empty) da_388 6 rfl
theorem dX10_empty_13 : decode cX10_empty 13 = .ok (.iload_n 2, 1) := dec_of (decode cX10_empty) da_388 7 rfl
theorem dX10_empty_14 : decode cX10_empty 14 = .ok (.ifCond .lt 8, 3) := dec_of (decode cX10_empty) da_388 8 rfl
theorem dX10_empty_17 : decode cX10_empty 17 = .ok (.iload_n 2, 1) := dec_of (decode cX10_empty) da_388 9 rfl
theorem dX10_empty_18 : decode cX10_empty 18 = .ok (.iconst 1, 1) := dec_of (decode cX10_empty) da_388 10 rfl
theorem dX10_empty_19 : decode cX10_empty 19 = .ok (.if_icmp .le 5, 3) := dec_of (decode cX10_empty) da_388 11 rfl
theorem dX10_empty_22 : decode cX10_empty 22 = .ok (.iconst (-1), 1) := dec_of (decode cX10_empty) da_388 12 rfl
theorem dX10_empty_23 : decode cX10_empty 23 = .ok (.ireturn, 1) := dec_of (decode cX10_empty) da_388 13 rfl
theorem dX10_empty_24 : decode cX10_empty 24 = .ok (.aload_n 0, 1) := dec_of (decode cX10_empty) da_388 14 rfl
theorem dX10_empty_25 : decode cX10_empty 25 = .ok (.invokevirtual 442, 3) := dec_of (decode cX10_empty) da_388 15 rfl
theorem dX10_empty_28 : decode cX10_empty 28 = .ok (.iconst 0, 1) := dec_of (decode cX10_empty) da_388 16 rfl
theorem dX10_empty_29 : decode cX10_empty 29 = .ok (.istore_n 3, 1) := dec_of (decode cX10_empty) da_388 17 rfl
theorem dX10_empty_30 : decode cX10_empty 30 = .ok (.bipush (-2), 2) := dec_of (decode cX10_empty) da_388 18 rfl
theorem dX10_empty_32 : decode cX10_empty 32 = .ok (.istore 4, 2) := dec_of (decode cX10_empty) da_388 19 rfl
theorem dX10_empty_34 : decode cX10_empty 34 = .ok (.iconst 0, 1) := dec_of (decode cX10_empty) da_388 20 rfl
theorem dX10_empty_35 : decode cX10_empty 35 = .ok (.istore 5, 2) := dec_of (decode cX10_empty) da_388 21 rfl
theorem dX10_empty_37 : decode cX10_empty 37 = .ok (.iload 5, 2) := dec_of (decode cX10_empty) da_388 22 rfl
theorem dX10_empty_39 : decode cX10_empty 39 = .ok (.iload_n 1, 1) := dec_of (decode cX10_empty) da_388 23 rfl
theorem dX10_empty_40 : decode cX10_empty 40 = .ok (.if_icmp .ge 47, 3) := dec_of (decode cX10_empty) da_388 24 rfl
theorem dX10_empty_43 : decode cX10_empty 43 = .ok (.aload_n 0, 1) := dec_of (decode cX10_empty) da_388 25 rfl
theorem dX10_empty_44 : decode cX10_empty 44 = .ok (.iconst 1, 1) := dec_of (decode cX10_empty) da_388 26 rfl
theorem dX10_empty_45 : decode cX10_empty 45 = .ok (.iconst 0, 1) := dec_of (decode cX10_empty) da_388 27 rfl
theorem dX10_empty_46 : decode cX10_empty 46 = .ok (.invokevirtual 407, 3) := dec_of (decode cX10_empty) da_388 28 rfl
theorem dX10_empty_49 : decode cX10_empty 49 = .ok (.aload_n 0, 1) := dec_of (decode cX10_empty) da_388 29 rfl
theorem dX10_empty_50 : decode cX10_empty 50 = .ok (.getfield 81, 3) := dec_of (decode cX10_empty) da_388 30 rfl
theorem dX10_empty_53 : decode cX10_empty 53 = .ok (.iconst 1, 1) := dec_of (decode cX10_empty) da_388 31 rfl
theorem dX10_empty_54 : decode cX10_empty 54 = .ok (.iaload, 1) := dec_of (decode cX10_empty) da_388 32 rfl
theorem dX10_empty_55 : decode cX10_empty 55 = .ok (.ifCond .le 6, 3) := dec_of (decode cX10_empty) da_388 33 rfl
theorem dX10_empty_58 : decode cX10_empty 58 = .ok (.goto 23, 3) := dec_of (decode cX10_empty) da_388 34 rfl
theorem dX10_empty_61 : decode cX10_empty 61 = .ok (.iinc 3 1, 3) := dec_of (decode cX10_empty) da_388 35 rfl
theorem dX10_empty_64 : decode cX10_empty 64 = .ok (.iload 4, 2) := dec_of (decode cX10_empty) da_388 36 rfl
theorem dX10_empty_66 : decode cX10_empty 66 = .ok (.bipush (-2), 2) := dec_of (decode cX10_empty) da_388 37 rfl
theorem dX10_empty_68 : decode cX10_empty 68 = .ok (.if_icmp .ne 13, 3) := dec_of (decode cX10_empty) da_388 38 rfl
theorem dX10_empty_71 : decode cX10_empty 71 = .ok (.aload_n 0, 1) := dec_of (decode cX10_empty) da_388 39 rfl
abbrev dl_389 : List (Nat × Except DecodeError (Instr × Nat)) := [(72, .ok (.getfield 69, 3)), (75, .ok (.iconst 1, 1)), (76, .ok (.iaload, 1)), (77, .ok (.iconst 1, 1)), (78, .ok (.isub, 1)), (79, .ok (.istore 4, 2)), (81, .ok (.iinc 5 1, 3)), (84, .ok (.goto (-47), 3)), (87, .ok (.iload_n 2, 1)), (88, .ok (.ifCond .ne 7, 3)), (91, .ok (.iload_n 3, 1)), (92, .ok (.goto 5, 3)), (95, .ok (.iload 4, 2)), (97, .ok (.ireturn, 1))]
theorem da_389 : dl_389.all (fun q => decide (decode cX10_empty q.1 = q.2)) = true := by decide +kernel
theorem dX10_empty_72 : decode cX10_empty 72 = .ok (.getfield 69, 3) := dec_of (decode cX10_empty) da_389 0 rfl
theorem dX10_empty_75 : decode cX10_empty 75 = .ok (.iconst 1, 1) := dec_of (decode cX10_empty) da_389 1 rfl
theorem dX10_empty_76 : decode cX10_empty 76 = .ok (.iaload, 1) := dec_of (decode cX10_empty) da_389 2 rfl
theorem dX10_empty_77 : decode cX10_empty 77 = .ok (.iconst 1, 1) := dec_of (decode cX10_empty) da_389 3 rfl
theorem dX10_empty_78 : decode cX10_empty 78 = .ok (.isub, 1) := dec_of (decode cX10_empty) da_389 4 rfl
theorem dX10_empty_79 : decode cX10_empty 79 = .ok (.istore 4, 2) := dec_of (decode cX10_empty) da_389 5 rfl
theorem dX10_empty_81 : decode cX10_empty 81 = .ok (.iinc 5 1, 3) := dec_of (decode cX10_empty) da_389 6 rfl
theorem dX10_empty_84 : decode cX10_empty 84 = .ok (.goto (-47), 3) := dec_of (decode cX10_empty) da_389 7 rfl
theorem dX10_empty_87 : decode cX10_empty 87 = .ok (.iload_n 2, 1) := dec_of (decode cX10_empty) da_389 8 rfl
theorem dX10_empty_88 : decode cX10_empty 88 = .ok (.ifCond .ne 7, 3) := dec_of (decode cX10_empty) da_389 9 rfl
theorem dX10_empty_91 : decode cX10_empty 91 = .ok (.iload_n 3, 1) := dec_of (decode cX10_empty) da_389 10 rfl
theorem dX10_empty_92 : decode cX10_empty 92 = .ok (.goto 5, 3) := dec_of (decode cX10_empty) da_389 11 rfl
theorem dX10_empty_95 : decode cX10_empty 95 = .ok (.iload 4, 2) := dec_of (decode cX10_empty) da_389 12 rfl
theorem dX10_empty_97 : decode cX10_empty 97 = .ok (.ireturn, 1) := dec_of (decode cX10_empty) da_389 13 rfl
abbrev dl_390 : List (Nat × Except DecodeError (Instr × Nat)) := [(0, .ok (.aload_n 0, 1)), (1, .ok (.iconst 0, 1)), (2, .ok (.putfield 154, 3)), (5, .ok (.iload_n 1, 1)), (6, .ok (.ifCond .lt 19, 3)), (9, .ok (.aload_n 0, 1)), (10, .ok (.iload_n 2, 1)), (11, .ok (.invokevirtual 356, 3)), (14, .ok (.ifCond .eq 11, 3)), (17, .ok (.aload_n 0, 1)), (18, .ok (.iload_n 3, 1)), (19, .ok (.invokevirtual 461, 3)), (22, .ok (.ifCond .ne 5, 3)), (25, .ok (.iconst (-1), 1)), (26, .ok (.ireturn, 1)), (27, .ok (.iload_n 1, 1)), (28, .ok (.istore 4, 2)), (30, .ok (.iconst 0, 1)), (31, .ok (.istore 5, 2)), (33, .ok (.iconst 0, 1)), (34, .ok (.istore 6, 2)), (36, .ok (.iload 6, 2)), (38, .ok (.bipush 10, 2)), (40, .ok (.if_icmp .ge 73, 3)), (43, .ok (.aload_n 0, 1)), (44, .ok (.invokevirtual 442, 3)), (47, .ok (.aload_n 0, 1)), (48, .ok (.getfield 75, 3)), (51, .ok (.iconst 1, 1)), (52, .ok (.iload 4, 2)), (54, .ok (.iastore, 1)), (55, .ok (.iconst 0, 1)), (56, .ok (.istore 7, 2)), (58, .ok (.iload 7, 2)), (60, .ok (.iload_n 3, 1)), (61, .ok (.if_icmp .ge 15, 3)), (64, .ok (.aload_n 0, 1)), (65, .ok (.iconst 1, 1)), (66, .ok (.iconst 1, 1)), (67, .ok (.invokevirtual 407, 3))]
theorem da_390 : dl_390.all (fun q => decide (decode cX10_chance q.1 = q.2)) = true := by decide +kernel
theorem dX10_chance_0 : decode cX10_chance 0 = .ok (.aload_n 0, 1) := dec_of (decode cX10_chance) da_390 0 rfl
theorem dX10_chance_1 : decode cX10_chance 1 = .ok (.iconst 0, 1) := dec_of (decode cX10_chance) da_390 1 rfl
theorem dX10_chance_2 : decode cX10_chance 2 = .ok (.putfield 154, 3) := dec_of (decode cX10_chance) da_390 2 rfl
theorem dX10_chance_5 : decode cX10_chance 5 = .ok (.iload_n 1, 1) := dec_of (decode cX10_chance) da_390 3 rfl
theorem dX10_chance_6 : decode cX10_chance 6 = .ok (.ifCond .lt 19, 3) := dec_of (decode cX10_chance) da_390 4 rfl
theorem dX10_chance_9 : decode cX10_chance 9 = .ok (.aload_n 0, 1) := dec_of (decode cX10_chance) da_390 5 rfl
theorem dX10_chance_10 : decode cX10_chance 10 = .ok (.iload_n 2, 1) := dec_of (decode cX10_chance) da_390 6 rfl
theorem dX10_chance_11 : decode cX10_chance 11 = .ok (.invokevirtual 356, 3) := dec_of (decode cX10_chance) da_390 7 rfl
theorem dX10_chance_14 : decode cX10_chance 14 = .ok (.ifCond .eq 11, 3) := dec_of (decode cX10_chance) da_390 8 rfl
theorem dX10_chance_17 : decode cX10_chance 17 = .ok (.aload_n 0, 1) := dec_of (decode cX10_chance) da_390 9 rfl
theorem dX10_chance_18 : decode cX10_chance 18 = .ok (.iload_n 3, 1) := dec_of (decode cX10_chance) da_390 10 rfl
theorem dX10_chance_19 : decode cX10_chance 19 = .ok (.invokevirtual 461, 3) := dec_of (decode cX10_chance) da_390 11 rfl
theorem dX10_chance_22 : decode cX10_chance 22 = .ok (.ifCond .ne 5, 3) := dec_of (decode cX10_chance) da_390 12 rfl
theorem dX10_chance_25 : decode cX10_chance 25 = .ok (.iconst (-1), 1) := dec_of (decode cX10_chance) da_390 13 rfl
theorem dX10_chance_26 : decode cX10_chance 26 = .ok (.ireturn, 1) := dec_of (decode cX10_chance) da_390 14 rfl
theorem dX10_chance_27 : decode cX10_chance 27 = .ok (.iload_n 1, 1) := dec_of (decode cX10_chance) da_390 15 rfl
theorem dX10_chance_28 : decode cX10_chance 28 = .ok (.istore 4, 2) := dec_of (decode cX10_chance) da_390 16 rfl
theorem dX10_chance_30 : decode cX10_chance 30 = .ok (.iconst 0, 1) := dec_of (decode cX10_chance) da_390 17 rfl
theorem dX10_chance_31 : decode cX10_chance 31 = .ok (.istore 5, 2) := dec_of (decode cX10_chance) da_390 18 rfl
theorem dX10_chance_33 : decode cX10_chance 33 = .ok (.iconst 0, 1) := dec_of (decode cX10_chance) da_390 19 rfl
theorem dX10_chance_34 : decode cX10_chance 34 = .ok (.istore 6, 2) := dec_of (decode cX10_chance) da_390 20 rfl
theorem dX10_chance_36 : decode cX10_chance 36 = .ok (.iload 6, 2) := dec_of (decode cX10_chance) da_390 21 rfl
theorem dX10_chance_38 : decode cX10_chance 38 = .ok (.bipush 10, 2) := dec_of (decode cX10_chance) da_390 22 rfl
theorem dX10_chance_40 : decode cX10_chance 40 = .ok (.if_icmp .ge 73, 3) := dec_of (decode cX10_chance) da_390 23 rfl
theorem dX10_chance_43 : decode cX10_chance 43 = .ok (.aload_n 0, 1) := dec_of (decode cX10_chance) da_390 24 rfl
theorem dX10_chance_44 : decode cX10_chance 44 = .ok (.invokevirtual 442, 3) := dec_of (decode cX10_chance) da_390 25 rfl
theorem dX10_chance_47 : decode cX10_chance 47 = .ok (.aload_n 0, 1) := dec_of (decode cX10_chance) da_390 26 rfl
theorem dX10_chance_48 : decode cX10_chance 48 = .ok (.getfield 75, 3) := dec_of (decode cX10_chance) da_390 27 rfl
theorem dX10_chance_51 : decode cX10_chance 51 = .ok (.iconst 1, 1) := dec_of (decode cX10_chance) da_390 28 rfl
theorem dX10_chance_52 : decode cX10_chance 52 = .ok (.iload 4, 2) := dec_of (decode cX10_chance) da_390 29 rfl
theorem dX10_chance_54 : decode cX10_chance 54 = .ok (.iastore, 1) := dec_of (decode cX10_chance) da_390 30 rfl
theorem dX10_chance_55 : decode cX10_chance 55 = .ok (.iconst 0, 1) := dec_of (decode cX10_chance) da_390 31 rfl
theorem dX10_chance_56 : decode cX10_chance 56 = .ok (.istore 7, 2) := dec_of (decode cX10_chance) da_390 32 rfl
theorem dX10_chance_58 : decode cX10_chance 58 = .ok (.iload 7, 2) := dec_of (decode cX10_chance) da_390 33 rfl
theorem dX10_chance_60 : decode cX10_chance 60 = .ok (.iload_n 3, 1) := dec_of (decode cX10_chance) da_390 34 rfl
theorem dX10_chance_61 : decode cX10_chance 61 = .ok (.if_icmp .ge 15, 3) := dec_of (decode cX10_chance) da_390 35 rfl
theorem dX10_chance_64 : decode cX10_chance 64 = .ok (.aload_n 0, 1) := dec_of (decode cX10_chance) da_390 36 rfl
theorem dX10_chance_65 : decode cX10_chance 65 = .ok (.iconst 1, 1) := dec_of (decode cX10_chance) da_390 37 rfl
theorem dX10_chance_66 : decode cX10_chance 66 = .ok (.iconst 1, 1) := dec_of (decode cX10_chance) da_390 38 rfl
theorem dX10_chance_67 : decode cX10_chance 67 = .ok (.invokevirtual 407, 3) := dec_of (decode cX10_chance) da_390 39 rfl
abbrev dl_391 : List (Nat × Except DecodeError (Instr × Nat)) := [(70, .ok (.iinc 7 1, 3)), (73, .ok (.goto (-15), 3)), (76, .ok (.aload_n 0, 1)), (77, .ok (.getfield 75, 3)), (80, .ok (.iconst 1, 1)), (81, .ok (.iaload, 1)), (82, .ok (.istore 4, 2)), (84, .ok (.iload 5, 2)), (86, .ok (.aload_n 0, 1)), (87, .ok (.getfield 87, 3)), (90, .ok (.bipush 8, 2)), (92, .ok (.iload_n 2, 1)), (93, .ok (.iadd, 1)), (94, .ok (.iaload, 1)), (95, .ok (.iconst 2, 1)), (96, .ok (.if_icmp .ne 7, 3)), (99, .ok (.iconst 1, 1)), (100, .ok (.goto 4, 3)), (103, .ok (.iconst 0, 1)), (104, .ok (.iadd, 1)), (105, .ok (.istore 5, 2)), (107, .ok (.iinc 6 1, 3)), (110, .ok (.goto (-74), 3)), (113, .ok (.iload 5, 2)), (115, .ok (.ireturn, 1))]
theorem da_391 : dl_391.all (fun q => decide (decode cX10_chance q.1 = q.2)) = true := by decide +kernel
theorem dX10_chance_70 : decode cX10_chance 70 = .ok (.iinc 7 1, 3) := dec_of (decode cX10_chance) da_391 0 rfl
theorem dX10_chance_73 : decode cX10_chance 73 = .ok (.goto (-15), 3) := dec_of (decode cX10_chance) da_391 1 rfl
theorem dX10_chance_76 : decode cX10_chance 76 = .ok (.aload_n 0, 1) := dec_of (decode cX10_chance) da_391 2 rfl
theorem dX10_chance_77 : decode cX10_chance 77 = .ok (.getfield 75, 3) := dec_of (decode cX10_chance) da_391 3 rfl
theorem dX10_chance_80 : decode cX10_chance 80 = .ok (.iconst 1, 1) := dec_of (decode cX10_chance) da_391 4 rfl
theorem dX10_chance_81 : decode cX10_chance 81 = .ok (.iaload, 1) := dec_of (decode cX10_chance) da_391 5 rfl
theorem dX10_chance_82 : decode cX10_chance 82 = .ok (.istore 4, 2) := dec_of (decode cX10_chance) da_391 6 rfl
theorem dX10_chance_84 : decode cX10_chance 84 = .ok (.iload 5, 2) := dec_of (decode cX10_chance) da_391 7 rfl
theorem dX10_chance_86 : decode cX10_chance 86 = .ok (.aload_n 0, 1) := dec_of (decode cX10_chance) da_391 8 rfl
theorem dX10_chance_87 : decode cX10_chance 87 = .ok (.getfield 87, 3) := dec_of (decode cX10_chance) da_391 9 rfl
theorem dX10_chance_90 : decode cX10_chance 90 = .ok (.bipush 8, 2) := dec_of (decode cX10_chance) da_391 10 rfl
theorem dX10_chance_92 : decode cX10_chance 92 = .ok (.iload_n 2, 1) := dec_of (decode cX10_chance) da_391 11 rfl
theorem dX10_chance_93 : decode cX10_chance 93 = .ok (.iadd, 1) := dec_of (decode cX10_chance) da_391 12 rfl
theorem dX10_chance_94 : decode cX10_chance 94 = .ok (.iaload, 1) := dec_of (decode cX10_chance) da_391 13 rfl
theorem dX10_chance_95 : decode cX10_chance 95 = .ok (.iconst 2, 1) := dec_of (decode cX10_chance) da_391 14 rfl
theorem dX10_chance_96 : decode cX10_chance 96 = .ok (.if_icmp .ne 7, 3) := dec_of (decode cX10_chance) da_391 15 rfl
theorem dX10_chance_99 : decode cX10_chance 99 = .ok (.iconst 1, 1) := dec_of (decode cX10_chance) da_391 16 rfl
theorem dX10_chance_100 : decode cX10_chance 100 = .ok (.goto 4, 3) := dec_of (decode cX10_chance) da_391 17 rfl
theorem dX10_chance_103 : decode cX10_chance 103 = .ok (.iconst 0, 1) := dec_of (decode cX10_chance) da_391 18 rfl
theorem dX10_chance_104 : decode cX10_chance 104 = .ok (.iadd, 1) := dec_of (decode cX10_chance) da_391 19 rfl
theorem dX10_chance_105 : decode cX10_chance 105 = .ok (.istore 5, 2) := dec_of (decode cX10_chance) da_391 20 rfl
theorem dX10_chance_107 : decode cX10_chance 107 = .ok (.iinc 6 1, 3) := dec_of (decode cX10_chance) da_391 21 rfl
theorem dX10_chance_110 : decode cX10_chance 110 = .ok (.goto (-74), 3) := dec_of (decode cX10_chance) da_391 22 rfl
theorem dX10_chance_113 : decode cX10_chance 113 = .ok (.iload 5, 2) := dec_of (decode cX10_chance) da_391 23 rfl
theorem dX10_chance_115 : decode cX10_chance 115 = .ok (.ireturn, 1) := dec_of (decode cX10_chance) da_391 24 rfl
abbrev dl_392 : List (Nat × Except DecodeError (Instr × Nat)) := [(0, .ok (.aload_n 0, 1)), (1, .ok (.iconst 0, 1)), (2, .ok (.putfield 154, 3)), (5, .ok (.iload_n 1, 1)), (6, .ok (.iconst 2, 1)), (7, .ok (.if_icmp .ne 11, 3)), (10, .ok (.aload_n 0, 1)), (11, .ok (.iload_n 2, 1)), (12, .ok (.invokevirtual 356, 3)), (15, .ok (.goto 21, 3)), (18, .ok (.iload_n 1, 1)), (19, .ok (.ifCond .lt 16, 3)), (22, .ok (.iload_n 1, 1)), (23, .ok (.iconst 5, 1)), (24, .ok (.if_icmp .gt 11, 3)), (27, .ok (.iload_n 2, 1)), (28, .ok (.ifCond .ne 7, 3)), (31, .ok (.iconst 1, 1)), (32, .ok (.goto 4, 3)), (35, .ok (.iconst 0, 1)), (36, .ok (.istore 4, 2)), (38, .ok (.iload 4, 2)), (40, .ok (.ifCond .eq 21, 3)), (43, .ok (.iload_n 3, 1)), (44, .ok (.ifCond .lt 17, 3)), (47, .ok (.iload_n 3, 1)), (48, .ok (.bipush 60, 2)), (50, .ok (.if_icmp .gt 11, 3)), (53, .ok (.iload_n 3, 1)), (54, .ok (.aload_n 0, 1)), (55, .ok (.invokevirtual 430, 3)), (58, .ok (.if_icmp .le 5, 3)), (61, .ok (.iconst (-1), 1)), (62, .ok (.ireturn, 1)), (63, .ok (.aload_n 0, 1)), (64, .ok (.invokevirtual 442, 3)), (67, .ok (.iload_n 1, 1)), (68, .ok (.iconst 2, 1)), (69, .ok (.if_icmp .ne 50, 3)), (72, .ok (.aload_n 0, 1))]
theorem da_392 : dl_392.all (fun q => decide (decode cX10_tried q.1 = q.2)) = true := by decide +kernel
theorem dX10_tried_0 : decode cX10_tried 0 = .ok (.aload_n 0, 1) := dec_of (decode cX10_tried) da_392 0 rfl
theorem dX10_tried_1 : decode cX10_tried 1 = .ok (.iconst 0, 1) := dec_of (decode cX10_tried) da_392 1 rfl
theorem dX10_tried_2 : decode cX10_tried 2 = .ok (.putfield 154, 3) := dec_of (decode cX10_tried) da_392 2 rfl
theorem dX10_tried_5 : decode cX10_tried 5 = .ok (.iload_n 1, 1) := dec_of (decode cX10_tried) da_392 3 rfl
theorem dX10_tried_6 : decode cX10_tried 6 = .ok (.iconst 2, 1) := dec_of (decode cX10_tried) da_392 4 rfl
theorem dX10_tried_7 : decode cX10_tried 7 = .ok (.if_icmp .ne 11, 3) := dec_of (decode cX10_tried) da_392 5 rfl
theorem dX10_tried_10 : decode cX10_tried 10 = .ok (.aload_n 0, 1) := dec_of (decode cX10_tried) da_392 6 rfl
theorem dX10_tried_11 : decode cX10_tried 11 = .ok (.iload_n 2, 1) := dec_of (decode cX10_tried) da_392 7 rfl
theorem dX10_tried_12 : decode cX10_tried 12 = .ok (.invokevirtual 356, 3) := dec_of (decode cX10_tried) da_392 8 rfl
theorem dX10_tried_15 : decode cX10_tried 15 = .ok (.goto 21, 3) := dec_of (decode cX10_tried) da_392 9 rfl
theorem dX10_tried_18 : decode cX10_tried 18 = .ok (.iload_n 1, 1) := dec_of (decode cX10_tried) da_392 10 rfl
theorem dX10_tried_19 : decode cX10_tried 19 = .ok (.ifCond .lt 16, 3) := dec_of (decode cX10_tried) da_392 11 rfl
theorem dX10_tried_22 : decode cX10_tried 22 = .ok (.iload_n 1, 1) := dec_of (decode cX10_tried) da_392 12 rfl
theorem dX10_tried_23 : decode cX10_tried 23 = .ok (.iconst 5, 1) := dec_of (decode cX10_tried) da_392 13 rfl
theorem dX10_tried_24 : decode cX10_tried 24 = .ok (.if_icmp .gt 11, 3) := dec_of (decode cX10_tried) da_392 14 rfl
theorem dX10_tried_27 : decode cX10_tried 27 = .ok (.iload_n 2, 1) := dec_of (decode cX10_tried) da_392 15 rfl
theorem dX10_tried_28 : decode cX10_tried 28 = .ok (.ifCond .ne 7, 3) := dec_of (decode cX10_tried) da_392 16 rfl
theorem dX10_tried_31 : decode cX10_tried 31 = .ok (.iconst 1, 1) := dec_of (decode cX10_tried) da_392 17 rfl
theorem dX10_tried_32 : decode cX10_tried 32 = .ok (.goto 4, 3) := dec_of (decode cX10_tried) da_392 18 rfl
theorem dX10_tried_35 : decode cX10_tried 35 = .ok (.iconst 0, 1) := dec_of (decode cX10_tried) da_392 19 rfl
theorem dX10_tried_36 : decode cX10_tried 36 = .ok (.istore 4, 2) := dec_of (decode cX10_tried) da_392 20 rfl
theorem dX10_tried_38 : decode cX10_tried 38 = .ok (.iload 4, 2) := dec_of (decode cX10_tried) da_392 21 rfl
theorem dX10_tried_40 : decode cX10_tried 40 = .ok (.ifCond .eq 21, 3) := dec_of (decode cX10_tried) da_392 22 rfl
theorem dX10_tried_43 : decode cX10_tried 43 = .ok (.iload_n 3, 1) := dec_of (decode cX10_tried) da_392 23 rfl
theorem dX10_tried_44 : decode cX10_tried 44 = .ok (.ifCond .lt 17, 3) := dec_of (decode cX10_tried) da_392 24 rfl
theorem dX10_tried_47 : decode cX10_tried 47 = .ok (.iload_n 3, 1) := dec_of (decode cX10_tried) da_392 25 rfl
theorem dX10_tried_48 : decode cX10_tried 48 = .ok (.bipush 60, 2) := dec_of (decode cX10_tried) da_392 26 rfl
theorem dX10_tried_50 : decode cX10_tried 50 = .ok (.if_icmp .gt 11, 3) := dec_of (decode cX10_tried) da_392 27 rfl
theorem dX10_tried_53 : decode cX10_tried 53 = .ok (.iload_n 3, 1) := dec_of (decode cX10_tried) da_392 28 rfl
theorem dX10_tried_54 : decode cX10_tried 54 = .ok (.aload_n 0, 1) := dec_of (decode cX10_tried) da_392 29 rfl
theorem dX10_tried_55 : decode cX10_tried 55 = .ok (.invokevirtual 430, 3) := dec_of (decode cX10_tried) da_392 30 rfl
theorem dX10_tried_58 : decode cX10_tried 58 = .ok (.if_icmp .le 5, 3) := dec_of (decode cX10_tried) da_392 31 rfl
theorem dX10_tried_61 : decode cX10_tried 61 = .ok (.iconst (-1), 1) := dec_of (decode cX10_tried) da_392 32 rfl
theorem dX10_tried_62 : decode cX10_tried 62 = .ok (.ireturn, 1) := dec_of (decode cX10_tried) da_392 33 rfl
theorem dX10_tried_63 : decode cX10_tried 63 = .ok (.aload_n 0, 1) := dec_of (decode cX10_tried) da_392 34 rfl
theorem dX10_tried_64 : decode cX10_tried 64 = .ok (.invokevirtual 442, 3) := dec_of (decode cX10_tried) da_392 35 rfl
theorem dX10_tried_67 : decode cX10_tried 67 = .ok (.iload_n 1, 1) := dec_of (decode cX10_tried) da_392 36 rfl
theorem dX10_tried_68 : decode cX10_tried 68 = .ok (.iconst 2, 1) := dec_of (decode cX10_tried) da_392 37 rfl
theorem dX10_tried_69 : decode cX10_tried 69 = .ok (.if_icmp .ne 50, 3) := dec_of (decode cX10_tried) da_392 38 rfl
theorem dX10_tried_72 : decode cX10_tried 72 = .ok (.aload_n 0, 1) := dec_of (decode cX10_tried) da_392 39 rfl
abbrev dl_393 : List (Nat × Except DecodeError (Instr × Nat)) := [(73, .ok (.getfield 87, 3)), (76, .ok (.iload_n 2, 1)), (77, .ok (.iaload, 1)), (78, .ok (.iconst 1, 1)), (79, .ok (.if_icmp .ne 21, 3)), (82, .ok (.aload_n 0, 1)), (83, .ok (.iconst 1, 1)), (84, .ok (.aload_n 0, 1)), (85, .ok (.iconst 1, 1)), (86, .ok (.iload_n 2, 1)), (87, .ok (.invokevirtual 411, 3)), (90, .ok (.iconst 3, 1)), (91, .ok (.aload_n 0, 1)), (92, .ok (.getfield 69, 3)), (95, .ok (.iconst 0, 1)), (96, .ok (.iaload, 1)), (97, .ok (.invokevirtual 377, 3)), (100, .ok (.aload_n 0, 1)), (101, .ok (.getfield 87, 3)), (104, .ok (.iload_n 2, 1)), (105, .ok (.iaload, 1)), (106, .ok (.ifCond .ne 13, 3)), (109, .ok (.aload_n 0, 1)), (110, .ok (.getfield 87, 3)), (113, .ok (.bipush 8, 2)), (115, .ok (.iload_n 2, 1)), (116, .ok (.iadd, 1)), (117, .ok (.iconst 3, 1)), (118, .ok (.iastore, 1)), (119, .ok (.iconst 0, 1)), (120, .ok (.istore 5, 2)), (122, .ok (.iload 5, 2)), (124, .ok (.aload_n 0, 1)), (125, .ok (.getfield 13, 3)), (128, .ok (.iconst 0, 1)), (129, .ok (.iaload, 1)), (130, .ok (.if_icmp .ge 40, 3)), (133, .ok (.iload_n 1, 1)), (134, .ok (.iconst 5, 1)), (135, .ok (.if_icmp .ne 35, 3))]
theorem da_393 : dl_393.all (fun q => decide (decode cX10_tried q.1 = q.2)) = true := by decide +kernel
theorem dX10_tried_73 : decode cX10_tried 73 = .ok (.getfield 87, 3) := dec_of (decode cX10_tried) da_393 0 rfl
theorem dX10_tried_76 : decode cX10_tried 76 = .ok (.iload_n 2, 1) := dec_of (decode cX10_tried) da_393 1 rfl
theorem dX10_tried_77 : decode cX10_tried 77 = .ok (.iaload, 1) := dec_of (decode cX10_tried) da_393 2 rfl
theorem dX10_tried_78 : decode cX10_tried 78 = .ok (.iconst 1, 1) := dec_of (decode cX10_tried) da_393 3 rfl
theorem dX10_tried_79 : decode cX10_tried 79 = .ok (.if_icmp .ne 21, 3) := dec_of (decode cX10_tried) da_393 4 rfl
theorem dX10_tried_82 : decode cX10_tried 82 = .ok (.aload_n 0, 1) := dec_of (decode cX10_tried) da_393 5 rfl
theorem dX10_tried_83 : decode cX10_tried 83 = .ok (.iconst 1, 1) := dec_of (decode cX10_tried) da_393 6 rfl
theorem dX10_tried_84 : decode cX10_tried 84 = .ok (.aload_n 0, 1) := dec_of (decode cX10_tried) da_393 7 rfl
theorem dX10_tried_85 : decode cX10_tried 85 = .ok (.iconst 1, 1) := dec_of (decode cX10_tried) da_393 8 rfl
theorem dX10_tried_86 : decode cX10_tried 86 = .ok (.iload_n 2, 1) := dec_of (decode cX10_tried) da_393 9 rfl
theorem dX10_tried_87 : decode cX10_tried 87 = .ok (.invokevirtual 411, 3) := dec_of (decode cX10_tried) da_393 10 rfl
theorem dX10_tried_90 : decode cX10_tried 90 = .ok (.iconst 3, 1) := dec_of (decode cX10_tried) da_393 11 rfl
theorem dX10_tried_91 : decode cX10_tried 91 = .ok (.aload_n 0, 1) := dec_of (decode cX10_tried) da_393 12 rfl
theorem dX10_tried_92 : decode cX10_tried 92 = .ok (.getfield 69, 3) := dec_of (decode cX10_tried) da_393 13 rfl
theorem dX10_tried_95 : decode cX10_tried 95 = .ok (.iconst 0, 1) := dec_of (decode cX10_tried) da_393 14 rfl
theorem dX10_tried_96 : decode cX10_tried 96 = .ok (.iaload, 1) := dec_of (decode cX10_tried) da_393 15 rfl
theorem dX10_tried_97 : decode cX10_tried 97 = .ok (.invokevirtual 377, 3) := dec_of (decode cX10_tried) da_393 16 rfl
theorem dX10_tried_100 : decode cX10_tried 100 = .ok (.aload_n 0, 1) := dec_of (decode cX10_tried) da_393 17 rfl
theorem dX10_tried_101 : decode cX10_tried 101 = .ok (.getfield 87, 3) := dec_of (decode cX10_tried) da_393 18 rfl
theorem dX10_tried_104 : decode cX10_tried 104 = .ok (.iload_n 2, 1) := dec_of (decode cX10_tried) da_393 19 rfl
theorem dX10_tried_105 : decode cX10_tried 105 = .ok (.iaload, 1) := dec_of (decode cX10_tried) da_393 20 rfl
theorem dX10_tried_106 : decode cX10_tried 106 = .ok (.ifCond .ne 13, 3) := dec_of (decode cX10_tried) da_393 21 rfl
theorem dX10_tried_109 : decode cX10_tried 109 = .ok (.aload_n 0, 1) := dec_of (decode cX10_tried) da_393 22 rfl
theorem dX10_tried_110 : decode cX10_tried 110 = .ok (.getfield 87, 3) := dec_of (decode cX10_tried) da_393 23 rfl
theorem dX10_tried_113 : decode cX10_tried 113 = .ok (.bipush 8, 2) := dec_of (decode cX10_tried) da_393 24 rfl
theorem dX10_tried_115 : decode cX10_tried 115 = .ok (.iload_n 2, 1) := dec_of (decode cX10_tried) da_393 25 rfl
theorem dX10_tried_116 : decode cX10_tried 116 = .ok (.iadd, 1) := dec_of (decode cX10_tried) da_393 26 rfl
theorem dX10_tried_117 : decode cX10_tried 117 = .ok (.iconst 3, 1) := dec_of (decode cX10_tried) da_393 27 rfl
theorem dX10_tried_118 : decode cX10_tried 118 = .ok (.iastore, 1) := dec_of (decode cX10_tried) da_393 28 rfl
theorem dX10_tried_119 : decode cX10_tried 119 = .ok (.iconst 0, 1) := dec_of (decode cX10_tried) da_393 29 rfl
theorem dX10_tried_120 : decode cX10_tried 120 = .ok (.istore 5, 2) := dec_of (decode cX10_tried) da_393 30 rfl
theorem dX10_tried_122 : decode cX10_tried 122 = .ok (.iload 5, 2) := dec_of (decode cX10_tried) da_393 31 rfl
theorem dX10_tried_124 : decode cX10_tried 124 = .ok (.aload_n 0, 1) := dec_of (decode cX10_tried) da_393 32 rfl
theorem dX10_tried_125 : decode cX10_tried 125 = .ok (.getfield 13, 3) := dec_of (decode cX10_tried) da_393 33 rfl
theorem dX10_tried_128 : decode cX10_tried 128 = .ok (.iconst 0, 1) := dec_of (decode cX10_tried) da_393 34 rfl
theorem dX10_tried_129 : decode cX10_tried 129 = .ok (.iaload, 1) := dec_of (decode cX10_tried) da_393 35 rfl
theorem dX10_tried_130 : decode cX10_tried 130 = .ok (.if_icmp .ge 40, 3) := dec_of (decode cX10_tried) da_393 36 rfl
theorem dX10_tried_133 : decode cX10_tried 133 = .ok (.iload_n 1, 1) := dec_of (decode cX10_tried) da_393 37 rfl
theorem dX10_tried_134 : decode cX10_tried 134 = .ok (.iconst 5, 1) := dec_of (decode cX10_tried) da_393 38 rfl
theorem dX10_tried_135 : decode cX10_tried 135 = .ok (.if_icmp .ne 35, 3) := dec_of (decode cX10_tried) da_393 39 rfl
abbrev dl_394 : List (Nat × Except DecodeError (Instr × Nat)) := [(138, .ok (.aload_n 0, 1)), (139, .ok (.getfield 87, 3)), (142, .ok (.iload 5, 2)), (144, .ok (.iaload, 1)), (145, .ok (.ifCond .ne 19, 3)), (148, .ok (.aload_n 0, 1)), (149, .ok (.getfield 99, 3)), (152, .ok (.bipush 8, 2)), (154, .ok (.iload 5, 2)), (156, .ok (.iadd, 1)), (157, .ok (.aload_n 0, 1)), (158, .ok (.getfield 69, 3)), (161, .ok (.iconst 0, 1)), (162, .ok (.iaload, 1)), (163, .ok (.iastore, 1)), (164, .ok (.iinc 5 1, 3)), (167, .ok (.goto (-45), 3)), (170, .ok (.aload_n 0, 1)), (171, .ok (.iload_n 1, 1)), (172, .ok (.putfield 120, 3)), (175, .ok (.aload_n 0, 1)), (176, .ok (.iload_n 3, 1)), (177, .ok (.invokevirtual 445, 3)), (180, .ok (.aload_n 0, 1)), (181, .ok (.iconst (-1), 1)), (182, .ok (.putfield 120, 3)), (185, .ok (.aload_n 0, 1)), (186, .ok (.iconst 1, 1)), (187, .ok (.invokevirtual 491, 3)), (190, .ok (.ireturn, 1))]
theorem da_394 : dl_394.all (fun q => decide (decode cX10_tried q.1 = q.2)) = true := by decide +kernel
theorem dX10_tried_138 : decode cX10_tried 138 = .ok (.aload_n 0, 1) := dec_of (decode cX10_tried) da_394 0 rfl
theorem dX10_tried_139 : decode cX10_tried 139 = .ok (.getfield 87, 3) := dec_of (decode cX10_tried) da_394 1 rfl
theorem dX10_tried_142 : decode cX10_tried 142 = .ok (.iload 5, 2) := dec_of (decode cX10_tried) da_394 2 rfl
theorem dX10_tried_144 : decode cX10_tried 144 = .ok (.iaload, 1) := dec_of (decode cX10_tried) da_394 3 rfl
theorem dX10_tried_145 : decode cX10_tried 145 = .ok (.ifCond .ne 19, 3) := dec_of (decode cX10_tried) da_394 4 rfl
theorem dX10_tried_148 : decode cX10_tried 148 = .ok (.aload_n 0, 1) := dec_of (decode cX10_tried) da_394 5 rfl
theorem dX10_tried_149 : decode cX10_tried 149 = .ok (.getfield 99, 3) := dec_of (decode cX10_tried) da_394 6 rfl
theorem dX10_tried_152 : decode cX10_tried 152 = .ok (.bipush 8, 2) := dec_of (decode cX10_tried) da_394 7 rfl
theorem dX10_tried_154 : decode cX10_tried 154 = .ok (.iload 5, 2) := dec_of (decode cX10_tried) da_394 8 rfl
theorem dX10_tried_156 : decode cX10_tried 156 = .ok (.iadd, 1) := dec_of (decode cX10_tried) da_394 9 rfl
theorem dX10_tried_157 : decode cX10_tried 157 = .ok (.aload_n 0, 1) := dec_of (decode cX10_tried) da_394 10 rfl
theorem dX10_tried_158 : decode cX10_tried 158 = .ok (.getfield 69, 3) := dec_of (decode cX10_tried) da_394 11 rfl
theorem dX10_tried_161 : decode cX10_tried 161 = .ok (.iconst 0, 1) := dec_of (decode cX10_tried) da_394 12 rfl
theorem dX10_tried_162 : decode cX10_tried 162 = .ok (.iaload, 1) := dec_of (decode cX10_tried) da_394 13 rfl
theorem dX10_tried_163 : decode cX10_tried 163 = .ok (.iastore, 1) := dec_of (decode cX10_tried) da_394 14 rfl
theorem dX10_tried_164 : decode cX10_tried 164 = .ok (.iinc 5 1, 3) := dec_of (decode cX10_tried) da_394 15 rfl
theorem dX10_tried_167 : decode cX10_tried 167 = .ok (.goto (-45), 3) := dec_of (decode cX10_tried) da_394 16 rfl
theorem dX10_tried_170 : decode cX10_tried 170 = .ok (.aload_n 0, 1) := dec_of (decode cX10_tried) da_394 17 rfl
theorem dX10_tried_171 : decode cX10_tried 171 = .ok (.iload_n 1, 1) := dec_of (decode cX10_tried) da_394 18 rfl
theorem dX10_tried_172 : decode cX10_tried 172 = .ok (.putfield 120, 3) := dec_of (decode cX10_tried) da_394 19 rfl
theorem dX10_tried_175 : decode cX10_tried 175 = .ok (.aload_n 0, 1) := dec_of (decode cX10_tried) da_394 20 rfl
theorem dX10_tried_176 : decode cX10_tried 176 = .ok (.iload_n 3, 1) := dec_of (decode cX10_tried) da_394 21 rfl
theorem dX10_tried_177 : decode cX10_tried 177 = .ok (.invokevirtual 445, 3) := dec_of (decode cX10_tried) da_394 22 rfl
theorem dX10_tried_180 : decode cX10_tried 180 = .ok (.aload_n 0, 1) := dec_of (decode cX10_tried) da_394 23 rfl
theorem dX10_tried_181 : decode cX10_tried 181 = .ok (.iconst (-1), 1) := dec_of (decode cX10_tried) da_394 24 rfl
theorem dX10_tried_182 : decode cX10_tried 182 = .ok (.putfield 120, 3) := dec_of (decode cX10_tried) da_394 25 rfl
theorem dX10_tried_185 : decode cX10_tried 185 = .ok (.aload_n 0, 1) := dec_of (decode cX10_tried) da_394 26 rfl
theorem dX10_tried_186 : decode cX10_tried 186 = .ok (.iconst 1, 1) := dec_of (decode cX10_tried) da_394 27 rfl
theorem dX10_tried_187 : decode cX10_tried 187 = .ok (.invokevirtual 491, 3) := dec_of (decode cX10_tried) da_394 28 rfl
theorem dX10_tried_190 : decode cX10_tried 190 = .ok (.ireturn, 1) := dec_of (decode cX10_tried) da_394 29 rfl
abbrev dl_395 : List (Nat × Except DecodeError (Instr × Nat)) := [(0, .ok (.iconst 0, 1)), (1, .ok (.istore_n 3, 1)), (2, .ok (.iconst 0, 1)), (3, .ok (.istore 4, 2)), (5, .ok (.iload 4, 2)), (7, .ok (.aload_n 0, 1)), (8, .ok (.getfield 13, 3)), (11, .ok (.iconst 0, 1)), (12, .ok (.iaload, 1)), (13, .ok (.if_icmp .ge 33, 3)), (16, .ok (.iload_n 3, 1)), (17, .ok (.aload_n 0, 1)), (18, .ok (.getfield 87, 3)), (21, .ok (.bipush 8, 2)), (23, .ok (.iload_n 1, 1)), (24, .ok (.imul, 1)), (25, .ok (.iload 4, 2)), (27, .ok (.iadd, 1)), (28, .ok (.iaload, 1)), (29, .ok (.iload_n 2, 1)), (30, .ok (.if_icmp .ne 7, 3)), (33, .ok (.iconst 1, 1)), (34, .ok (.goto 4, 3)), (37, .ok (.iconst 0, 1)), (38, .ok (.iadd, 1)), (39, .ok (.istore_n 3, 1)), (40, .ok (.iinc 4 1, 3)), (43, .ok (.goto (-38), 3)), (46, .ok (.iload_n 3, 1)), (47, .ok (.ireturn, 1))]
theorem da_395 : dl_395.all (fun q => decide (decode cX10_howMany q.1 = q.2)) = true := by decide +kernel
theorem dX10_howMany_0 : decode cX10_howMany 0 = .ok (.iconst 0, 1) := dec_of (decode cX10_howMany) da_395 0 rfl
theorem dX10_howMany_1 : decode cX10_howMany 1 = .ok (.istore_n 3, 1) := dec_of (decode cX10_howMany) da_395 1 rfl
theorem dX10_howMany_2 : decode cX10_howMany 2 = .ok (.iconst 0, 1) := dec_of (decode cX10_howMany) da_395 2 rfl
theorem dX10_howMany_3 : decode cX10_howMany 3 = .ok (.istore 4, 2) := dec_of (decode cX10_howMany) da_395 3 rfl
theorem dX10_howMany_5 : decode cX10_howMany 5 = .ok (.iload 4, 2) := dec_of (decode cX10_howMany) da_395 4 rfl
theorem dX10_howMany_7 : decode cX10_howMany 7 = .ok (.aload_n 0, 1) := dec_of (decode cX10_howMany) da_395 5 rfl
theorem dX10_howMany_8 : decode cX10_howMany 8 = .ok (.getfield 13, 3) := dec_of (decode cX10_howMany) da_395 6 rfl
theorem dX10_howMany_11 : decode cX10_howMany 11 = .ok (.iconst 0, 1) := dec_of (decode cX10_howMany) da_395 7 rfl
theorem dX10_howMany_12 : decode cX10_howMany 12 = .ok (.iaload, 1) := dec_of (decode cX10_howMany) da_395 8 rfl
theorem dX10_howMany_13 : decode cX10_howMany 13 = .ok (.if_icmp .ge 33, 3) := dec_of (decode cX10_howMany) da_395 9 rfl
theorem dX10_howMany_16 : decode cX10_howMany 16 = .ok (.iload_n 3, 1) := dec_of (decode cX10_howMany) da_395 10 rfl
theorem dX10_howMany_17 : decode cX10_howMany 17 = .ok (.aload_n 0, 1) := dec_of (decode cX10_howMany) da_395 11 rfl
theorem dX10_howMany_18 : decode cX10_howMany 18 = .ok (.getfield 87, 3) := dec_of (decode cX10_howMany) da_395 12 rfl
theorem dX10_howMany_21 : decode cX10_howMany 21 = .ok (.bipush 8, 2) := dec_of (decode cX10_howMany) da_395 13 rfl
theorem dX10_howMany_23 : decode cX10_howMany 23 = .ok (.iload_n 1, 1) := dec_of (decode cX10_howMany) da_395 14 rfl
theorem dX10_howMany_24 : decode cX10_howMany 24 = .ok (.imul, 1) := dec_of (decode cX10_howMany) da_395 15 rfl
theorem dX10_howMany_25 : decode cX10_howMany 25 = .ok (.iload 4, 2) := dec_of (decode cX10_howMany) da_395 16 rfl
theorem dX10_howMany_27 : decode cX10_howMany 27 = .ok (.iadd, 1) := dec_of (decode cX10_howMany) da_395 17 rfl
theorem dX10_howMany_28 : decode cX10_howMany 28 = .ok (.iaload, 1) := dec_of (decode cX10_howMany) da_395 18 rfl
theorem dX10_howMany_29 : decode cX10_howMany 29 = .ok (.iload_n 2, 1) := dec_of (decode cX10_howMany) da_395 19 rfl
theorem dX10_howMany_30 : decode cX10_howMany 30 = .ok (.if_icmp .ne 7, 3) := dec_of (decode cX10_howMany) da_395 20 rfl
theorem dX10_howMany_33 : decode cX10_howMany 33 = .ok (.iconst 1, 1) := dec_of (decode cX10_howMany) da_395 21 rfl
theorem dX10_howMany_34 : decode cX10_howMany 34 = .ok (.goto 4, 3) := dec_of (decode cX10_howMany) da_395 22 rfl
theorem dX10_howMany_37 : decode cX10_howMany 37 = .ok (.iconst 0, 1) := dec_of (decode cX10_howMany) da_395 23 rfl
theorem dX10_howMany_38 : decode cX10_howMany 38 = .ok (.iadd, 1) := dec_of (decode cX10_howMany) da_395 24 rfl
theorem dX10_howMany_39 : decode cX10_howMany 39 = .ok (.istore_n 3, 1) := dec_of (decode cX10_howMany) da_395 25 rfl
theorem dX10_howMany_40 : decode cX10_howMany 40 = .ok (.iinc 4 1, 3) := dec_of (decode cX10_howMany) da_395 26 rfl
theorem dX10_howMany_43 : decode cX10_howMany 43 = .ok (.goto (-38), 3) := dec_of (decode cX10_howMany) da_395 27 rfl
theorem dX10_howMany_46 : decode cX10_howMany 46 = .ok (.iload_n 3, 1) := dec_of (decode cX10_howMany) da_395 28 rfl
theorem dX10_howMany_47 : decode cX10_howMany 47 = .ok (.ireturn, 1) := dec_of (decode cX10_howMany) da_395 29 rfl
abbrev dl_396 : List (Nat × Except DecodeError (Instr × Nat)) := [(0, .ok (.aload_n 0, 1)), (1, .ok (.iload_n 1, 1)), (2, .ok (.iconst 2, 1)), (3, .ok (.invokevirtual 494, 3)), (6, .ok (.ireturn, 1))]
theorem da_396 : dl_396.all (fun q => decide (decode cX10_servedMany q.1 = q.2)) = true := by decide +kernel
theorem dX10_servedMany_0 : decode cX10_servedMany 0 = .ok (.aload_n 0, 1) := dec_of (decode cX10_servedMany) da_396 0 rfl
theorem dX10_servedMany_1 : decode cX10_servedMany 1 = .ok (.iload_n 1, 1) := dec_of (decode cX10_servedMany) da_396 1 rfl
theorem dX10_servedMany_2 : decode cX10_servedMany 2 = .ok (.iconst 2, 1) := dec_of (decode cX10_servedMany) da_396 2 rfl
theorem dX10_servedMany_3 : decode cX10_servedMany 3 = .ok (.invokevirtual 494, 3) := dec_of (decode cX10_servedMany) da_396 3 rfl
theorem dX10_servedMany_6 : decode cX10_servedMany 6 = .ok (.ireturn, 1) := dec_of (decode cX10_servedMany) da_396 4 rfl
abbrev dl_397 : List (Nat × Except DecodeError (Instr × Nat)) := [(0, .ok (.aload_n 0, 1)), (1, .ok (.iconst 0, 1)), (2, .ok (.putfield 154, 3)), (5, .ok (.aload_n 0, 1)), (6, .ok (.getfield 317, 3)), (9, .ok (.ifCond .ne 5, 3)), (12, .ok (.iconst (-1), 1)), (13, .ok (.ireturn, 1)), (14, .ok (.aload_n 0, 1)), (15, .ok (.dup, 1)), (16, .ok (.getfield 317, 3)), (19, .ok (.iconst 1, 1)), (20, .ok (.isub, 1)), (21, .ok (.putfield 317, 3)), (24, .ok (.aload_n 0, 1)), (25, .ok (.iconst 0, 1)), (26, .ok (.iconst 3, 1)), (27, .ok (.aload_n 0, 1)), (28, .ok (.getfield 317, 3)), (31, .ok (.iadd, 1)), (32, .ok (.invokevirtual 404, 3)), (35, .ok (.aload_n 0, 1)), (36, .ok (.getfield 317, 3)), (39, .ok (.ireturn, 1))]
theorem da_397 : dl_397.all (fun q => decide (decode cX10_undo q.1 = q.2)) = true := by decide +kernel
theorem dX10_undo_0 : decode cX10_undo 0 = .ok (.aload_n 0, 1) := dec_of (decode cX10_undo) da_397 0 rfl
theorem dX10_undo_1 : decode cX10_undo 1 = .ok (.iconst 0, 1) := dec_of (decode cX10_undo) da_397 1 rfl
theorem dX10_undo_2 : decode cX10_undo 2 = .ok (.putfield 154, 3) := dec_of (decode cX10_undo) da_397 2 rfl
theorem dX10_undo_5 : decode cX10_undo 5 = .ok (.aload_n 0, 1) := dec_of (decode cX10_undo) da_397 3 rfl
theorem dX10_undo_6 : decode cX10_undo 6 = .ok (.getfield 317, 3) := dec_of (decode cX10_undo) da_397 4 rfl
theorem dX10_undo_9 : decode cX10_undo 9 = .ok (.ifCond .ne 5, 3) := dec_of (decode cX10_undo) da_397 5 rfl
theorem dX10_undo_12 : decode cX10_undo 12 = .ok (.iconst (-1), 1) := dec_of (decode cX10_undo) da_397 6 rfl
theorem dX10_undo_13 : decode cX10_undo 13 = .ok (.ireturn, 1) := dec_of (decode cX10_undo) da_397 7 rfl
theorem dX10_undo_14 : decode cX10_undo 14 = .ok (.aload_n 0, 1) := dec_of (decode cX10_undo) da_397 8 rfl
theorem dX10_undo_15 : decode cX10_undo 15 = .ok (.dup, 1) := dec_of (decode cX10_undo) da_397 9 rfl
theorem dX10_undo_16 : decode cX10_undo 16 = .ok (.getfield 317, 3) := dec_of (decode cX10_undo) da_397 10 rfl
theorem dX10_undo_19 : decode cX10_undo 19 = .ok (.iconst 1, 1) := dec_of (decode cX10_undo) da_397 11 rfl
theorem dX10_undo_20 : decode cX10_undo 20 = .ok (.isub, 1) := dec_of (decode cX10_undo) da_397 12 rfl
theorem dX10_undo_21 : decode cX10_undo 21 = .ok (.putfield 317, 3) := dec_of (decode cX10_undo) da_397 13 rfl
theorem dX10_undo_24 : decode cX10_undo 24 = .ok (.aload_n 0, 1) := dec_of (decode cX10_undo) da_397 14 rfl
theorem dX10_undo_25 : decode cX10_undo 25 = .ok (.iconst 0, 1) := dec_of (decode cX10_undo) da_397 15 rfl
theorem dX10_undo_26 : decode cX10_undo 26 = .ok (.iconst 3, 1) := dec_of (decode cX10_undo) da_397 16 rfl
theorem dX10_undo_27 : decode cX10_undo 27 = .ok (.aload_n 0, 1) := dec_of (decode cX10_undo) da_397 17 rfl
theorem dX10_undo_28 : decode cX10_undo 28 = .ok (.getfield 317, 3) := dec_of (decode cX10_undo) da_397 18 rfl
theorem dX10_undo_31 : decode cX10_undo 31 = .ok (.iadd, 1) := dec_of (decode cX10_undo) da_397 19 rfl
theorem dX10_undo_32 : decode cX10_undo 32 = .ok (.invokevirtual 404, 3) := dec_of (decode cX10_undo) da_397 20 rfl
theorem dX10_undo_35 : decode cX10_undo 35 = .ok (.aload_n 0, 1) := dec_of (decode cX10_undo) da_397 21 rfl
theorem dX10_undo_36 : decode cX10_undo 36 = .ok (.getfield 317, 3) := dec_of (decode cX10_undo) da_397 22 rfl
theorem dX10_undo_39 : decode cX10_undo 39 = .ok (.ireturn, 1) := dec_of (decode cX10_undo) da_397 23 rfl
abbrev dl_398 : List (Nat × Except DecodeError (Instr × Nat)) := [(0, .ok (.aload_n 0, 1)), (1, .ok (.iconst 0, 1)), (2, .ok (.putfield 154, 3)), (5, .ok (.aload_n 0, 1)), (6, .ok (.iconst 2, 1)), (7, .ok (.iconst 0, 1)), (8, .ok (.invokevirtual 404, 3)), (11, .ok (.aload_n 0, 1)), (12, .ok (.iconst 1, 1)), (13, .ok (.iconst 0, 1)), (14, .ok (.invokevirtual 497, 3)), (17, .ok (.aload_n 0, 1)), (18, .ok (.iconst 1, 1)), (19, .ok (.putfield 313, 3)), (22, .ok (.aload_n 0, 1)), (23, .ok (.getfield 69, 3)), (26, .ok (.iconst 0, 1)), (27, .ok (.iaload, 1)), (28, .ok (.ireturn, 1))]
theorem da_398 : dl_398.all (fun q => decide (decode cX10_keep q.1 = q.2)) = true := by decide +kernel
theorem dX10_keep_0 : decode cX10_keep 0 = .ok (.aload_n 0, 1) := dec_of (decode cX10_keep) da_398 0 rfl
theorem dX10_keep_1 : decode cX10_keep 1 = .ok (.iconst 0, 1) := dec_of (decode cX10_keep) da_398 1 rfl
theorem dX10_keep_2 : decode cX10_keep 2 = .ok (.putfield 154, 3) := dec_of (decode cX10_keep) da_398 2 rfl
theorem dX10_keep_5 : decode cX10_keep 5 = .ok (.aload_n 0, 1) := dec_of (decode cX10_keep) da_398 3 rfl
theorem dX10_keep_6 : decode cX10_keep 6 = .ok (.iconst 2, 1) := dec_of (decode cX10_keep) da_398 4 rfl
theorem dX10_keep_7 : decode cX10_keep 7 = .ok (.iconst 0, 1) := dec_of (decode cX10_keep) da_398 5 rfl
theorem dX10_keep_8 : decode cX10_keep 8 = .ok (.invokevirtual 404, 3) := dec_of (decode cX10_keep) da_398 6 rfl
theorem dX10_keep_11 : decode cX10_keep 11 = .ok (.aload_n 0, 1) := dec_of (decode cX10_keep) da_398 7 rfl
theorem dX10_keep_12 : decode cX10_keep 12 = .ok (.iconst 1, 1) := dec_of (decode cX10_keep) da_398 8 rfl
theorem dX10_keep_13 : decode cX10_keep 13 = .ok (.iconst 0, 1) := dec_of (decode cX10_keep) da_398 9 rfl
theorem dX10_keep_14 : decode cX10_keep 14 = .ok (.invokevirtual 497, 3) := dec_of (decode cX10_keep) da_398 10 rfl
theorem dX10_keep_17 : decode cX10_keep 17 = .ok (.aload_n 0, 1) := dec_of (decode cX10_keep) da_398 11 rfl
theorem dX10_keep_18 : decode cX10_keep 18 = .ok (.iconst 1, 1) := dec_of (decode cX10_keep) da_398 12 rfl
theorem dX10_keep_19 : decode cX10_keep 19 = .ok (.putfield 313, 3) := dec_of (decode cX10_keep) da_398 13 rfl
theorem dX10_keep_22 : decode cX10_keep 22 = .ok (.aload_n 0, 1) := dec_of (decode cX10_keep) da_398 14 rfl
theorem dX10_keep_23 : decode cX10_keep 23 = .ok (.getfield 69, 3) := dec_of (decode cX10_keep) da_398 15 rfl
theorem dX10_keep_26 : decode cX10_keep 26 = .ok (.iconst 0, 1) := dec_of (decode cX10_keep) da_398 16 rfl
theorem dX10_keep_27 : decode cX10_keep 27 = .ok (.iaload, 1) := dec_of (decode cX10_keep) da_398 17 rfl
theorem dX10_keep_28 : decode cX10_keep 28 = .ok (.ireturn, 1) := dec_of (decode cX10_keep) da_398 18 rfl
abbrev dl_399 : List (Nat × Except DecodeError (Instr × Nat)) := [(0, .ok (.aload_n 0, 1)), (1, .ok (.iconst 0, 1)), (2, .ok (.putfield 154, 3)), (5, .ok (.aload_n 0, 1)), (6, .ok (.getfield 313, 3)), (9, .ok (.ifCond .ne 5, 3)), (12, .ok (.iconst (-1), 1)), (13, .ok (.ireturn, 1)), (14, .ok (.aload_n 0, 1)), (15, .ok (.iconst 0, 1)), (16, .ok (.iconst 2, 1)), (17, .ok (.invokevirtual 404, 3)), (20, .ok (.aload_n 0, 1)), (21, .ok (.iconst 0, 1)), (22, .ok (.iconst 1, 1)), (23, .ok (.invokevirtual 497, 3)), (26, .ok (.aload_n 0, 1)), (27, .ok (.iconst 0, 1)), (28, .ok (.putfield 317, 3)), (31, .ok (.aload_n 0, 1)), (32, .ok (.getfield 69, 3)), (35, .ok (.iconst 0, 1)), (36, .ok (.iaload, 1)), (37, .ok (.ireturn, 1))]
theorem da_399 : dl_399.all (fun q => decide (decode cX10_back q.1 = q.2)) = true := by decide +kernel
theorem dX10_back_0 : decode cX10_back 0 = .ok (.aload_n 0, 1) := dec_of (decode cX10_back) da_399 0 rfl
theorem dX10_back_1 : decode cX10_back 1 = .ok (.iconst 0, 1) := dec_of (decode cX10_back) da_399 1 rfl
theorem dX10_back_2 : decode cX10_back 2 = .ok (.putfield 154, 3) := dec_of (decode cX10_back) da_399 2 rfl
theorem dX10_back_5 : decode cX10_back 5 = .ok (.aload_n 0, 1) := dec_of (decode cX10_back) da_399 3 rfl
theorem dX10_back_6 : decode cX10_back 6 = .ok (.getfield 313, 3) := dec_of (decode cX10_back) da_399 4 rfl
theorem dX10_back_9 : decode cX10_back 9 = .ok (.ifCond .ne 5, 3) := dec_of (decode cX10_back) da_399 5 rfl
theorem dX10_back_12 : decode cX10_back 12 = .ok (.iconst (-1), 1) := dec_of (decode cX10_back) da_399 6 rfl
theorem dX10_back_13 : decode cX10_back 13 = .ok (.ireturn, 1) := dec_of (decode cX10_back) da_399 7 rfl
theorem dX10_back_14 : decode cX10_back 14 = .ok (.aload_n 0, 1) := dec_of (decode cX10_back) da_399 8 rfl
theorem dX10_back_15 : decode cX10_back 15 = .ok (.iconst 0, 1) := dec_of (decode cX10_back) da_399 9 rfl
theorem dX10_back_16 : decode cX10_back 16 = .ok (.iconst 2, 1) := dec_of (decode cX10_back) da_399 10 rfl
theorem dX10_back_17 : decode cX10_back 17 = .ok (.invokevirtual 404, 3) := dec_of (decode cX10_back) da_399 11 rfl
theorem dX10_back_20 : decode cX10_back 20 = .ok (.aload_n 0, 1) := dec_of (decode cX10_back) da_399 12 rfl
theorem dX10_back_21 : decode cX10_back 21 = .ok (.iconst 0, 1) := dec_of (decode cX10_back) da_399 13 rfl
theorem dX10_back_22 : decode cX10_back 22 = .ok (.iconst 1, 1) := dec_of (decode cX10_back) da_399 14 rfl
theorem dX10_back_23 : decode cX10_back 23 = .ok (.invokevirtual 497, 3) := dec_of (decode cX10_back) da_399 15 rfl
theorem dX10_back_26 : decode cX10_back 26 = .ok (.aload_n 0, 1) := dec_of (decode cX10_back) da_399 16 rfl
theorem dX10_back_27 : decode cX10_back 27 = .ok (.iconst 0, 1) := dec_of (decode cX10_back) da_399 17 rfl
theorem dX10_back_28 : decode cX10_back 28 = .ok (.putfield 317, 3) := dec_of (decode cX10_back) da_399 18 rfl
theorem dX10_back_31 : decode cX10_back 31 = .ok (.aload_n 0, 1) := dec_of (decode cX10_back) da_399 19 rfl
theorem dX10_back_32 : decode cX10_back 32 = .ok (.getfield 69, 3) := dec_of (decode cX10_back) da_399 20 rfl
theorem dX10_back_35 : decode cX10_back 35 = .ok (.iconst 0, 1) := dec_of (decode cX10_back) da_399 21 rfl
theorem dX10_back_36 : decode cX10_back 36 = .ok (.iaload, 1) := dec_of (decode cX10_back) da_399 22 rfl
theorem dX10_back_37 : decode cX10_back 37 = .ok (.ireturn, 1) := dec_of (decode cX10_back) da_399 23 rfl
abbrev dl_400 : List (Nat × Except DecodeError (Instr × Nat)) := [(0, .ok (.aload_n 0, 1)), (1, .ok (.iconst 0, 1)), (2, .ok (.putfield 154, 3)), (5, .ok (.iconst 0, 1)), (6, .ok (.istore_n 2, 1)), (7, .ok (.iload_n 1, 1)), (8, .ok (.tableswitch 200 0 14 #[76, 83, 91, 98, 105, 111, 118, 125, 154, 159, 164, 169, 176, 183, 190], 76)), (84, .ok (.aload_n 0, 1)), (85, .ok (.getfield 13, 3)), (88, .ok (.iconst 0, 1)), (89, .ok (.iaload, 1)), (90, .ok (.ireturn, 1)), (91, .ok (.aload_n 0, 1)), (92, .ok (.getfield 13, 3)), (95, .ok (.bipush 7, 2)), (97, .ok (.iaload, 1)), (98, .ok (.ireturn, 1)), (99, .ok (.aload_n 0, 1)), (100, .ok (.getfield 69, 3)), (103, .ok (.iconst 0, 1)), (104, .ok (.iaload, 1)), (105, .ok (.ireturn, 1)), (106, .ok (.aload_n 0, 1)), (107, .ok (.getfield 81, 3)), (110, .ok (.iconst 0, 1)), (111, .ok (.iaload, 1)), (112, .ok (.ireturn, 1)), (113, .ok (.aload_n 0, 1)), (114, .ok (.iconst 0, 1)), (115, .ok (.invokevirtual 491, 3)), (118, .ok (.ireturn, 1)), (119, .ok (.aload_n 0, 1)), (120, .ok (.iconst 0, 1)), (121, .ok (.iconst 3, 1)), (122, .ok (.invokevirtual 494, 3)), (125, .ok (.ireturn, 1)), (126, .ok (.aload_n 0, 1)), (127, .ok (.getfield 72, 3)), (130, .ok (.iconst 0, 1)), (131, .ok (.iaload, 1))]
theorem da_400 : dl_400.all (fun q => decide (decode cX10_count q.1 = q.2)) = true := by decide +kernel
theorem dX10_count_0 : decode cX10_count 0 = .ok (.aload_n 0, 1) := dec_of (decode cX10_count) da_400 0 rfl
theorem dX10_count_1 : decode cX10_count 1 = .ok (.iconst 0, 1) := dec_of (decode cX10_count) da_400 1 rfl
theorem dX10_count_2 : decode cX10_count 2 = .ok (.putfield 154, 3) := dec_of (decode cX10_count) da_400 2 rfl
theorem dX10_count_5 : decode cX10_count 5 = .ok (.iconst 0, 1) := dec_of (decode cX10_count) da_400 3 rfl
theorem dX10_count_6 : decode cX10_count 6 = .ok (.istore_n 2, 1) := dec_of (decode cX10_count) da_400 4 rfl
theorem dX10_count_7 : decode cX10_count 7 = .ok (.iload_n 1, 1) := dec_of (decode cX10_count) da_400 5 rfl
theorem dX10_count_8 : decode cX10_count 8 = .ok (.tableswitch 200 0 14 #[76, 83, 91, 98, 105, 111, 118, 125, 154, 159, 164, 169, 176, 183, 190], 76) := dec_of (decode cX10_count) da_400 6 rfl
theorem dX10_count_84 : decode cX10_count 84 = .ok (.aload_n 0, 1) := dec_of (decode cX10_count) da_400 7 rfl
theorem dX10_count_85 : decode cX10_count 85 = .ok (.getfield 13, 3) := dec_of (decode cX10_count) da_400 8 rfl
theorem dX10_count_88 : decode cX10_count 88 = .ok (.iconst 0, 1) := dec_of (decode cX10_count) da_400 9 rfl
theorem dX10_count_89 : decode cX10_count 89 = .ok (.iaload, 1) := dec_of (decode cX10_count) da_400 10 rfl
theorem dX10_count_90 : decode cX10_count 90 = .ok (.ireturn, 1) := dec_of (decode cX10_count) da_400 11 rfl
theorem dX10_count_91 : decode cX10_count 91 = .ok (.aload_n 0, 1) := dec_of (decode cX10_count) da_400 12 rfl
theorem dX10_count_92 : decode cX10_count 92 = .ok (.getfield 13, 3) := dec_of (decode cX10_count) da_400 13 rfl
theorem dX10_count_95 : decode cX10_count 95 = .ok (.bipush 7, 2) := dec_of (decode cX10_count) da_400 14 rfl
theorem dX10_count_97 : decode cX10_count 97 = .ok (.iaload, 1) := dec_of (decode cX10_count) da_400 15 rfl
theorem dX10_count_98 : decode cX10_count 98 = .ok (.ireturn, 1) := dec_of (decode cX10_count) da_400 16 rfl
theorem dX10_count_99 : decode cX10_count 99 = .ok (.aload_n 0, 1) := dec_of (decode cX10_count) da_400 17 rfl
theorem dX10_count_100 : decode cX10_count 100 = .ok (.getfield 69, 3) := dec_of (decode cX10_count) da_400 18 rfl
theorem dX10_count_103 : decode cX10_count 103 = .ok (.iconst 0, 1) := dec_of (decode cX10_count) da_400 19 rfl
theorem dX10_count_104 : decode cX10_count 104 = .ok (.iaload, 1) := dec_of (decode cX10_count) da_400 20 rfl
theorem dX10_count_105 : decode cX10_count 105 = .ok (.ireturn, 1) := dec_of (decode cX10_count) da_400 21 rfl
theorem dX10_count_106 : decode cX10_count 106 = .ok (.aload_n 0, 1) := dec_of (decode cX10_count) da_400 22 rfl
theorem dX10_count_107 : decode cX10_count 107 = .ok (.getfield 81, 3) := dec_of (decode cX10_count) da_400 23 rfl
theorem dX10_count_110 : decode cX10_count 110 = .ok (.iconst 0, 1) := dec_of (decode cX10_count) da_400 24 rfl
theorem dX10_count_111 : decode cX10_count 111 = .ok (.iaload, 1) := dec_of (decode cX10_count) da_400 25 rfl
theorem dX10_count_112 : decode cX10_count 112 = .ok (.ireturn, 1) := dec_of (decode cX10_count) da_400 26 rfl
theorem dX10_count_113 : decode cX10_count 113 = .ok (.aload_n 0, 1) := dec_of (decode cX10_count) da_400 27 rfl
theorem dX10_count_114 : decode cX10_count 114 = .ok (.iconst 0, 1) := dec_of (decode cX10_count) da_400 28 rfl
theorem dX10_count_115 : decode cX10_count 115 = .ok (.invokevirtual 491, 3) := dec_of (decode cX10_count) da_400 29 rfl
theorem dX10_count_118 : decode cX10_count 118 = .ok (.ireturn, 1) := dec_of (decode cX10_count) da_400 30 rfl
theorem dX10_count_119 : decode cX10_count 119 = .ok (.aload_n 0, 1) := dec_of (decode cX10_count) da_400 31 rfl
theorem dX10_count_120 : decode cX10_count 120 = .ok (.iconst 0, 1) := dec_of (decode cX10_count) da_400 32 rfl
theorem dX10_count_121 : decode cX10_count 121 = .ok (.iconst 3, 1) := dec_of (decode cX10_count) da_400 33 rfl
theorem dX10_count_122 : decode cX10_count 122 = .ok (.invokevirtual 494, 3) := dec_of (decode cX10_count) da_400 34 rfl
theorem dX10_count_125 : decode cX10_count 125 = .ok (.ireturn, 1) := dec_of (decode cX10_count) da_400 35 rfl
theorem dX10_count_126 : decode cX10_count 126 = .ok (.aload_n 0, 1) := dec_of (decode cX10_count) da_400 36 rfl
theorem dX10_count_127 : decode cX10_count 127 = .ok (.getfield 72, 3) := dec_of (decode cX10_count) da_400 37 rfl
theorem dX10_count_130 : decode cX10_count 130 = .ok (.iconst 0, 1) := dec_of (decode cX10_count) da_400 38 rfl
theorem dX10_count_131 : decode cX10_count 131 = .ok (.iaload, 1) := dec_of (decode cX10_count) da_400 39 rfl
abbrev dl_401 : List (Nat × Except DecodeError (Instr × Nat)) := [(132, .ok (.ireturn, 1)), (133, .ok (.iconst 0, 1)), (134, .ok (.istore_n 3, 1)), (135, .ok (.iload_n 3, 1)), (136, .ok (.aload_n 0, 1)), (137, .ok (.getfield 13, 3)), (140, .ok (.iconst 0, 1)), (141, .ok (.iaload, 1)), (142, .ok (.if_icmp .ge 18, 3)), (145, .ok (.iload_n 2, 1)), (146, .ok (.aload_n 0, 1)), (147, .ok (.getfield 96, 3)), (150, .ok (.iload_n 3, 1)), (151, .ok (.iaload, 1)), (152, .ok (.iadd, 1)), (153, .ok (.istore_n 2, 1)), (154, .ok (.iinc 3 1, 3)), (157, .ok (.goto (-22), 3)), (160, .ok (.iload_n 2, 1)), (161, .ok (.ireturn, 1)), (162, .ok (.aload_n 0, 1)), (163, .ok (.getfield 310, 3)), (166, .ok (.ireturn, 1)), (167, .ok (.aload_n 0, 1)), (168, .ok (.invokevirtual 474, 3)), (171, .ok (.ireturn, 1)), (172, .ok (.aload_n 0, 1)), (173, .ok (.getfield 317, 3)), (176, .ok (.ireturn, 1)), (177, .ok (.aload_n 0, 1)), (178, .ok (.getfield 114, 3)), (181, .ok (.iconst 0, 1)), (182, .ok (.iaload, 1)), (183, .ok (.ireturn, 1)), (184, .ok (.aload_n 0, 1)), (185, .ok (.getfield 114, 3)), (188, .ok (.iconst 1, 1)), (189, .ok (.iaload, 1)), (190, .ok (.ireturn, 1)), (191, .ok (.aload_n 0, 1))]
theorem da_401 : dl_401.all (fun q => decide (decode cX10_count q.1 = q.2)) = true := by decide +kernel
theorem dX10_count_132 : decode cX10_count 132 = .ok (.ireturn, 1) := dec_of (decode cX10_count) da_401 0 rfl
theorem dX10_count_133 : decode cX10_count 133 = .ok (.iconst 0, 1) := dec_of (decode cX10_count) da_401 1 rfl
theorem dX10_count_134 : decode cX10_count 134 = .ok (.istore_n 3, 1) := dec_of (decode cX10_count) da_401 2 rfl
theorem dX10_count_135 : decode cX10_count 135 = .ok (.iload_n 3, 1) := dec_of (decode cX10_count) da_401 3 rfl
theorem dX10_count_136 : decode cX10_count 136 = .ok (.aload_n 0, 1) := dec_of (decode cX10_count) da_401 4 rfl
theorem dX10_count_137 : decode cX10_count 137 = .ok (.getfield 13, 3) := dec_of (decode cX10_count) da_401 5 rfl
theorem dX10_count_140 : decode cX10_count 140 = .ok (.iconst 0, 1) := dec_of (decode cX10_count) da_401 6 rfl
theorem dX10_count_141 : decode cX10_count 141 = .ok (.iaload, 1) := dec_of (decode cX10_count) da_401 7 rfl
theorem dX10_count_142 : decode cX10_count 142 = .ok (.if_icmp .ge 18, 3) := dec_of (decode cX10_count) da_401 8 rfl
theorem dX10_count_145 : decode cX10_count 145 = .ok (.iload_n 2, 1) := dec_of (decode cX10_count) da_401 9 rfl
theorem dX10_count_146 : decode cX10_count 146 = .ok (.aload_n 0, 1) := dec_of (decode cX10_count) da_401 10 rfl
theorem dX10_count_147 : decode cX10_count 147 = .ok (.getfield 96, 3) := dec_of (decode cX10_count) da_401 11 rfl
theorem dX10_count_150 : decode cX10_count 150 = .ok (.iload_n 3, 1) := dec_of (decode cX10_count) da_401 12 rfl
theorem dX10_count_151 : decode cX10_count 151 = .ok (.iaload, 1) := dec_of (decode cX10_count) da_401 13 rfl
theorem dX10_count_152 : decode cX10_count 152 = .ok (.iadd, 1) := dec_of (decode cX10_count) da_401 14 rfl
theorem dX10_count_153 : decode cX10_count 153 = .ok (.istore_n 2, 1) := dec_of (decode cX10_count) da_401 15 rfl
theorem dX10_count_154 : decode cX10_count 154 = .ok (.iinc 3 1, 3) := dec_of (decode cX10_count) da_401 16 rfl
theorem dX10_count_157 : decode cX10_count 157 = .ok (.goto (-22), 3) := dec_of (decode cX10_count) da_401 17 rfl
theorem dX10_count_160 : decode cX10_count 160 = .ok (.iload_n 2, 1) := dec_of (decode cX10_count) da_401 18 rfl
theorem dX10_count_161 : decode cX10_count 161 = .ok (.ireturn, 1) := dec_of (decode cX10_count) da_401 19 rfl
theorem dX10_count_162 : decode cX10_count 162 = .ok (.aload_n 0, 1) := dec_of (decode cX10_count) da_401 20 rfl
theorem dX10_count_163 : decode cX10_count 163 = .ok (.getfield 310, 3) := dec_of (decode cX10_count) da_401 21 rfl
theorem dX10_count_166 : decode cX10_count 166 = .ok (.ireturn, 1) := dec_of (decode cX10_count) da_401 22 rfl
theorem dX10_count_167 : decode cX10_count 167 = .ok (.aload_n 0, 1) := dec_of (decode cX10_count) da_401 23 rfl
theorem dX10_count_168 : decode cX10_count 168 = .ok (.invokevirtual 474, 3) := dec_of (decode cX10_count) da_401 24 rfl
theorem dX10_count_171 : decode cX10_count 171 = .ok (.ireturn, 1) := dec_of (decode cX10_count) da_401 25 rfl
theorem dX10_count_172 : decode cX10_count 172 = .ok (.aload_n 0, 1) := dec_of (decode cX10_count) da_401 26 rfl
theorem dX10_count_173 : decode cX10_count 173 = .ok (.getfield 317, 3) := dec_of (decode cX10_count) da_401 27 rfl
theorem dX10_count_176 : decode cX10_count 176 = .ok (.ireturn, 1) := dec_of (decode cX10_count) da_401 28 rfl
theorem dX10_count_177 : decode cX10_count 177 = .ok (.aload_n 0, 1) := dec_of (decode cX10_count) da_401 29 rfl
theorem dX10_count_178 : decode cX10_count 178 = .ok (.getfield 114, 3) := dec_of (decode cX10_count) da_401 30 rfl
theorem dX10_count_181 : decode cX10_count 181 = .ok (.iconst 0, 1) := dec_of (decode cX10_count) da_401 31 rfl
theorem dX10_count_182 : decode cX10_count 182 = .ok (.iaload, 1) := dec_of (decode cX10_count) da_401 32 rfl
theorem dX10_count_183 : decode cX10_count 183 = .ok (.ireturn, 1) := dec_of (decode cX10_count) da_401 33 rfl
theorem dX10_count_184 : decode cX10_count 184 = .ok (.aload_n 0, 1) := dec_of (decode cX10_count) da_401 34 rfl
theorem dX10_count_185 : decode cX10_count 185 = .ok (.getfield 114, 3) := dec_of (decode cX10_count) da_401 35 rfl
theorem dX10_count_188 : decode cX10_count 188 = .ok (.iconst 1, 1) := dec_of (decode cX10_count) da_401 36 rfl
theorem dX10_count_189 : decode cX10_count 189 = .ok (.iaload, 1) := dec_of (decode cX10_count) da_401 37 rfl
theorem dX10_count_190 : decode cX10_count 190 = .ok (.ireturn, 1) := dec_of (decode cX10_count) da_401 38 rfl
theorem dX10_count_191 : decode cX10_count 191 = .ok (.aload_n 0, 1) := dec_of (decode cX10_count) da_401 39 rfl
abbrev dl_402 : List (Nat × Except DecodeError (Instr × Nat)) := [(192, .ok (.getfield 114, 3)), (195, .ok (.iconst 2, 1)), (196, .ok (.iaload, 1)), (197, .ok (.ireturn, 1)), (198, .ok (.aload_n 0, 1)), (199, .ok (.getfield 78, 3)), (202, .ok (.iconst 0, 1)), (203, .ok (.iaload, 1)), (204, .ok (.invokestatic 448, 3)), (207, .ok (.ireturn, 1)), (208, .ok (.iconst (-1), 1)), (209, .ok (.ireturn, 1))]
theorem da_402 : dl_402.all (fun q => decide (decode cX10_count q.1 = q.2)) = true := by decide +kernel
theorem dX10_count_192 : decode cX10_count 192 = .ok (.getfield 114, 3) := dec_of (decode cX10_count) da_402 0 rfl
theorem dX10_count_195 : decode cX10_count 195 = .ok (.iconst 2, 1) := dec_of (decode cX10_count) da_402 1 rfl
theorem dX10_count_196 : decode cX10_count 196 = .ok (.iaload, 1) := dec_of (decode cX10_count) da_402 2 rfl
theorem dX10_count_197 : decode cX10_count 197 = .ok (.ireturn, 1) := dec_of (decode cX10_count) da_402 3 rfl
theorem dX10_count_198 : decode cX10_count 198 = .ok (.aload_n 0, 1) := dec_of (decode cX10_count) da_402 4 rfl
theorem dX10_count_199 : decode cX10_count 199 = .ok (.getfield 78, 3) := dec_of (decode cX10_count) da_402 5 rfl
theorem dX10_count_202 : decode cX10_count 202 = .ok (.iconst 0, 1) := dec_of (decode cX10_count) da_402 6 rfl
theorem dX10_count_203 : decode cX10_count 203 = .ok (.iaload, 1) := dec_of (decode cX10_count) da_402 7 rfl
theorem dX10_count_204 : decode cX10_count 204 = .ok (.invokestatic 448, 3) := dec_of (decode cX10_count) da_402 8 rfl
theorem dX10_count_207 : decode cX10_count 207 = .ok (.ireturn, 1) := dec_of (decode cX10_count) da_402 9 rfl
theorem dX10_count_208 : decode cX10_count 208 = .ok (.iconst (-1), 1) := dec_of (decode cX10_count) da_402 10 rfl
theorem dX10_count_209 : decode cX10_count 209 = .ok (.ireturn, 1) := dec_of (decode cX10_count) da_402 11 rfl
abbrev dl_403 : List (Nat × Except DecodeError (Instr × Nat)) := [(0, .ok (.iload_n 0, 1)), (1, .ok (.iload_n 0, 1)), (2, .ok (.iconst 1, 1)), (3, .ok (.iushr, 1)), (4, .ok (.ldc_w 265, 3)), (7, .ok (.iand, 1)), (8, .ok (.isub, 1)), (9, .ok (.istore_n 0, 1)), (10, .ok (.iload_n 0, 1)), (11, .ok (.ldc_w 266, 3)), (14, .ok (.iand, 1)), (15, .ok (.iload_n 0, 1)), (16, .ok (.iconst 2, 1)), (17, .ok (.iushr, 1)), (18, .ok (.ldc_w 266, 3)), (21, .ok (.iand, 1)), (22, .ok (.iadd, 1)), (23, .ok (.istore_n 0, 1)), (24, .ok (.iload_n 0, 1)), (25, .ok (.iload_n 0, 1)), (26, .ok (.iconst 4, 1)), (27, .ok (.iushr, 1)), (28, .ok (.iadd, 1)), (29, .ok (.ldc_w 267, 3)), (32, .ok (.iand, 1)), (33, .ok (.istore_n 0, 1)), (34, .ok (.iload_n 0, 1)), (35, .ok (.iload_n 0, 1)), (36, .ok (.bipush 8, 2)), (38, .ok (.iushr, 1)), (39, .ok (.iadd, 1)), (40, .ok (.istore_n 0, 1)), (41, .ok (.iload_n 0, 1)), (42, .ok (.iload_n 0, 1)), (43, .ok (.bipush 16, 2)), (45, .ok (.iushr, 1)), (46, .ok (.iadd, 1)), (47, .ok (.istore_n 0, 1)), (48, .ok (.iload_n 0, 1)), (49, .ok (.bipush 63, 2))]
theorem da_403 : dl_403.all (fun q => decide (decode cJ6_bitCount_0f7a4 q.1 = q.2)) = true := by decide +kernel
theorem dJ6_bitCount_0f7a4_0 : decode cJ6_bitCount_0f7a4 0 = .ok (.iload_n 0, 1) := dec_of (decode cJ6_bitCount_0f7a4) da_403 0 rfl
theorem dJ6_bitCount_0f7a4_1 : decode cJ6_bitCount_0f7a4 1 = .ok (.iload_n 0, 1) := dec_of (decode cJ6_bitCount_0f7a4) da_403 1 rfl
theorem dJ6_bitCount_0f7a4_2 : decode cJ6_bitCount_0f7a4 2 = .ok (.iconst 1, 1) := dec_of (decode cJ6_bitCount_0f7a4) da_403 2 rfl
theorem dJ6_bitCount_0f7a4_3 : decode cJ6_bitCount_0f7a4 3 = .ok (.iushr, 1) := dec_of (decode cJ6_bitCount_0f7a4) da_403 3 rfl
theorem dJ6_bitCount_0f7a4_4 : decode cJ6_bitCount_0f7a4 4 = .ok (.ldc_w 265, 3) := dec_of (decode cJ6_bitCount_0f7a4) da_403 4 rfl
theorem dJ6_bitCount_0f7a4_7 : decode cJ6_bitCount_0f7a4 7 = .ok (.iand, 1) := dec_of (decode cJ6_bitCount_0f7a4) da_403 5 rfl
theorem dJ6_bitCount_0f7a4_8 : decode cJ6_bitCount_0f7a4 8 = .ok (.isub, 1) := dec_of (decode cJ6_bitCount_0f7a4) da_403 6 rfl
theorem dJ6_bitCount_0f7a4_9 : decode cJ6_bitCount_0f7a4 9 = .ok (.istore_n 0, 1) := dec_of (decode cJ6_bitCount_0f7a4) da_403 7 rfl
theorem dJ6_bitCount_0f7a4_10 : decode cJ6_bitCount_0f7a4 10 = .ok (.iload_n 0, 1) := dec_of (decode cJ6_bitCount_0f7a4) da_403 8 rfl
theorem dJ6_bitCount_0f7a4_11 : decode cJ6_bitCount_0f7a4 11 = .ok (.ldc_w 266, 3) := dec_of (decode cJ6_bitCount_0f7a4) da_403 9 rfl
theorem dJ6_bitCount_0f7a4_14 : decode cJ6_bitCount_0f7a4 14 = .ok (.iand, 1) := dec_of (decode cJ6_bitCount_0f7a4) da_403 10 rfl
theorem dJ6_bitCount_0f7a4_15 : decode cJ6_bitCount_0f7a4 15 = .ok (.iload_n 0, 1) := dec_of (decode cJ6_bitCount_0f7a4) da_403 11 rfl
theorem dJ6_bitCount_0f7a4_16 : decode cJ6_bitCount_0f7a4 16 = .ok (.iconst 2, 1) := dec_of (decode cJ6_bitCount_0f7a4) da_403 12 rfl
theorem dJ6_bitCount_0f7a4_17 : decode cJ6_bitCount_0f7a4 17 = .ok (.iushr, 1) := dec_of (decode cJ6_bitCount_0f7a4) da_403 13 rfl
theorem dJ6_bitCount_0f7a4_18 : decode cJ6_bitCount_0f7a4 18 = .ok (.ldc_w 266, 3) := dec_of (decode cJ6_bitCount_0f7a4) da_403 14 rfl
theorem dJ6_bitCount_0f7a4_21 : decode cJ6_bitCount_0f7a4 21 = .ok (.iand, 1) := dec_of (decode cJ6_bitCount_0f7a4) da_403 15 rfl
theorem dJ6_bitCount_0f7a4_22 : decode cJ6_bitCount_0f7a4 22 = .ok (.iadd, 1) := dec_of (decode cJ6_bitCount_0f7a4) da_403 16 rfl
theorem dJ6_bitCount_0f7a4_23 : decode cJ6_bitCount_0f7a4 23 = .ok (.istore_n 0, 1) := dec_of (decode cJ6_bitCount_0f7a4) da_403 17 rfl
theorem dJ6_bitCount_0f7a4_24 : decode cJ6_bitCount_0f7a4 24 = .ok (.iload_n 0, 1) := dec_of (decode cJ6_bitCount_0f7a4) da_403 18 rfl
theorem dJ6_bitCount_0f7a4_25 : decode cJ6_bitCount_0f7a4 25 = .ok (.iload_n 0, 1) := dec_of (decode cJ6_bitCount_0f7a4) da_403 19 rfl
theorem dJ6_bitCount_0f7a4_26 : decode cJ6_bitCount_0f7a4 26 = .ok (.iconst 4, 1) := dec_of (decode cJ6_bitCount_0f7a4) da_403 20 rfl
theorem dJ6_bitCount_0f7a4_27 : decode cJ6_bitCount_0f7a4 27 = .ok (.iushr, 1) := dec_of (decode cJ6_bitCount_0f7a4) da_403 21 rfl
theorem dJ6_bitCount_0f7a4_28 : decode cJ6_bitCount_0f7a4 28 = .ok (.iadd, 1) := dec_of (decode cJ6_bitCount_0f7a4) da_403 22 rfl
theorem dJ6_bitCount_0f7a4_29 : decode cJ6_bitCount_0f7a4 29 = .ok (.ldc_w 267, 3) := dec_of (decode cJ6_bitCount_0f7a4) da_403 23 rfl
theorem dJ6_bitCount_0f7a4_32 : decode cJ6_bitCount_0f7a4 32 = .ok (.iand, 1) := dec_of (decode cJ6_bitCount_0f7a4) da_403 24 rfl
theorem dJ6_bitCount_0f7a4_33 : decode cJ6_bitCount_0f7a4 33 = .ok (.istore_n 0, 1) := dec_of (decode cJ6_bitCount_0f7a4) da_403 25 rfl
theorem dJ6_bitCount_0f7a4_34 : decode cJ6_bitCount_0f7a4 34 = .ok (.iload_n 0, 1) := dec_of (decode cJ6_bitCount_0f7a4) da_403 26 rfl
theorem dJ6_bitCount_0f7a4_35 : decode cJ6_bitCount_0f7a4 35 = .ok (.iload_n 0, 1) := dec_of (decode cJ6_bitCount_0f7a4) da_403 27 rfl
theorem dJ6_bitCount_0f7a4_36 : decode cJ6_bitCount_0f7a4 36 = .ok (.bipush 8, 2) := dec_of (decode cJ6_bitCount_0f7a4) da_403 28 rfl
theorem dJ6_bitCount_0f7a4_38 : decode cJ6_bitCount_0f7a4 38 = .ok (.iushr, 1) := dec_of (decode cJ6_bitCount_0f7a4) da_403 29 rfl
theorem dJ6_bitCount_0f7a4_39 : decode cJ6_bitCount_0f7a4 39 = .ok (.iadd, 1) := dec_of (decode cJ6_bitCount_0f7a4) da_403 30 rfl
theorem dJ6_bitCount_0f7a4_40 : decode cJ6_bitCount_0f7a4 40 = .ok (.istore_n 0, 1) := dec_of (decode cJ6_bitCount_0f7a4) da_403 31 rfl
theorem dJ6_bitCount_0f7a4_41 : decode cJ6_bitCount_0f7a4 41 = .ok (.iload_n 0, 1) := dec_of (decode cJ6_bitCount_0f7a4) da_403 32 rfl
theorem dJ6_bitCount_0f7a4_42 : decode cJ6_bitCount_0f7a4 42 = .ok (.iload_n 0, 1) := dec_of (decode cJ6_bitCount_0f7a4) da_403 33 rfl
theorem dJ6_bitCount_0f7a4_43 : decode cJ6_bitCount_0f7a4 43 = .ok (.bipush 16, 2) := dec_of (decode cJ6_bitCount_0f7a4) da_403 34 rfl
theorem dJ6_bitCount_0f7a4_45 : decode cJ6_bitCount_0f7a4 45 = .ok (.iushr, 1) := dec_of (decode cJ6_bitCount_0f7a4) da_403 35 rfl
theorem dJ6_bitCount_0f7a4_46 : decode cJ6_bitCount_0f7a4 46 = .ok (.iadd, 1) := dec_of (decode cJ6_bitCount_0f7a4) da_403 36 rfl
theorem dJ6_bitCount_0f7a4_47 : decode cJ6_bitCount_0f7a4 47 = .ok (.istore_n 0, 1) := dec_of (decode cJ6_bitCount_0f7a4) da_403 37 rfl
theorem dJ6_bitCount_0f7a4_48 : decode cJ6_bitCount_0f7a4 48 = .ok (.iload_n 0, 1) := dec_of (decode cJ6_bitCount_0f7a4) da_403 38 rfl
theorem dJ6_bitCount_0f7a4_49 : decode cJ6_bitCount_0f7a4 49 = .ok (.bipush 63, 2) := dec_of (decode cJ6_bitCount_0f7a4) da_403 39 rfl
abbrev dl_404 : List (Nat × Except DecodeError (Instr × Nat)) := [(51, .ok (.iand, 1)), (52, .ok (.ireturn, 1))]
theorem da_404 : dl_404.all (fun q => decide (decode cJ6_bitCount_0f7a4 q.1 = q.2)) = true := by decide +kernel
theorem dJ6_bitCount_0f7a4_51 : decode cJ6_bitCount_0f7a4 51 = .ok (.iand, 1) := dec_of (decode cJ6_bitCount_0f7a4) da_404 0 rfl
theorem dJ6_bitCount_0f7a4_52 : decode cJ6_bitCount_0f7a4 52 = .ok (.ireturn, 1) := dec_of (decode cJ6_bitCount_0f7a4) da_404 1 rfl
abbrev dl_410 : List (Nat × Except DecodeError (Instr × Nat)) := [(0, .ok (.aload_n 0, 1)), (1, .ok (.getfield 9, 3)), (4, .ok (.arraylength, 1)), (5, .ok (.aload_n 0, 1)), (6, .ok (.invokevirtual 335, 3)), (9, .ok (.ishr, 1)), (10, .ok (.ireturn, 1))]
theorem da_410 : dl_410.all (fun q => decide (decode cJ0_length_8abf5 q.1 = q.2)) = true := by decide +kernel
theorem dJ0_length_8abf5_0 : decode cJ0_length_8abf5 0 = .ok (.aload_n 0, 1) := dec_of (decode cJ0_length_8abf5) da_410 0 rfl
theorem dJ0_length_8abf5_1 : decode cJ0_length_8abf5 1 = .ok (.getfield 9, 3) := dec_of (decode cJ0_length_8abf5) da_410 1 rfl
theorem dJ0_length_8abf5_4 : decode cJ0_length_8abf5 4 = .ok (.arraylength, 1) := dec_of (decode cJ0_length_8abf5) da_410 2 rfl
theorem dJ0_length_8abf5_5 : decode cJ0_length_8abf5 5 = .ok (.aload_n 0, 1) := dec_of (decode cJ0_length_8abf5) da_410 3 rfl
theorem dJ0_length_8abf5_6 : decode cJ0_length_8abf5 6 = .ok (.invokevirtual 335, 3) := dec_of (decode cJ0_length_8abf5) da_410 4 rfl
theorem dJ0_length_8abf5_9 : decode cJ0_length_8abf5 9 = .ok (.ishr, 1) := dec_of (decode cJ0_length_8abf5) da_410 5 rfl
theorem dJ0_length_8abf5_10 : decode cJ0_length_8abf5 10 = .ok (.ireturn, 1) := dec_of (decode cJ0_length_8abf5) da_410 6 rfl
abbrev dl_411 : List (Nat × Except DecodeError (Instr × Nat)) := [(0, .ok (.aload_n 0, 1)), (1, .ok (.invokevirtual 492, 3)), (4, .ok (.ifCond .eq 12, 3)), (7, .ok (.aload_n 0, 1)), (8, .ok (.getfield 9, 3)), (11, .ok (.iload_n 1, 1)), (12, .ok (.invokestatic 495, 3)), (15, .ok (.ireturn, 1)), (16, .ok (.aload_n 0, 1)), (17, .ok (.getfield 9, 3)), (20, .ok (.iload_n 1, 1)), (21, .ok (.invokestatic 498, 3)), (24, .ok (.ireturn, 1))]
theorem da_411 : dl_411.all (fun q => decide (decode cJ0_charAt_5068e q.1 = q.2)) = true := by decide +kernel
theorem dJ0_charAt_5068e_0 : decode cJ0_charAt_5068e 0 = .ok (.aload_n 0, 1) := dec_of (decode cJ0_charAt_5068e) da_411 0 rfl
theorem dJ0_charAt_5068e_1 : decode cJ0_charAt_5068e 1 = .ok (.invokevirtual 492, 3) := dec_of (decode cJ0_charAt_5068e) da_411 1 rfl
theorem dJ0_charAt_5068e_4 : decode cJ0_charAt_5068e 4 = .ok (.ifCond .eq 12, 3) := dec_of (decode cJ0_charAt_5068e) da_411 2 rfl
theorem dJ0_charAt_5068e_7 : decode cJ0_charAt_5068e 7 = .ok (.aload_n 0, 1) := dec_of (decode cJ0_charAt_5068e) da_411 3 rfl
theorem dJ0_charAt_5068e_8 : decode cJ0_charAt_5068e 8 = .ok (.getfield 9, 3) := dec_of (decode cJ0_charAt_5068e) da_411 4 rfl
theorem dJ0_charAt_5068e_11 : decode cJ0_charAt_5068e 11 = .ok (.iload_n 1, 1) := dec_of (decode cJ0_charAt_5068e) da_411 5 rfl
theorem dJ0_charAt_5068e_12 : decode cJ0_charAt_5068e 12 = .ok (.invokestatic 495, 3) := dec_of (decode cJ0_charAt_5068e) da_411 6 rfl
theorem dJ0_charAt_5068e_15 : decode cJ0_charAt_5068e 15 = .ok (.ireturn, 1) := dec_of (decode cJ0_charAt_5068e) da_411 7 rfl
abbrev dl_412 : List (Nat × Except DecodeError (Instr × Nat)) := [(0, .ok (.getstatic 38, 3)), (3, .ok (.ifCond .eq 10, 3)), (6, .ok (.aload_n 0, 1)), (7, .ok (.getfield 15, 3)), (10, .ok (.goto 4, 3)), (13, .ok (.iconst 1, 1)), (14, .ok (.ireturn, 1))]
theorem da_412 : dl_412.all (fun q => decide (decode cJ0_coder_7d493 q.1 = q.2)) = true := by decide +kernel
theorem dJ0_coder_7d493_0 : decode cJ0_coder_7d493 0 = .ok (.getstatic 38, 3) := dec_of (decode cJ0_coder_7d493) da_412 0 rfl
theorem dJ0_coder_7d493_3 : decode cJ0_coder_7d493 3 = .ok (.ifCond .eq 10, 3) := dec_of (decode cJ0_coder_7d493) da_412 1 rfl
theorem dJ0_coder_7d493_6 : decode cJ0_coder_7d493 6 = .ok (.aload_n 0, 1) := dec_of (decode cJ0_coder_7d493) da_412 2 rfl
theorem dJ0_coder_7d493_7 : decode cJ0_coder_7d493 7 = .ok (.getfield 15, 3) := dec_of (decode cJ0_coder_7d493) da_412 3 rfl
theorem dJ0_coder_7d493_10 : decode cJ0_coder_7d493 10 = .ok (.goto 4, 3) := dec_of (decode cJ0_coder_7d493) da_412 4 rfl
theorem dJ0_coder_7d493_14 : decode cJ0_coder_7d493 14 = .ok (.ireturn, 1) := dec_of (decode cJ0_coder_7d493) da_412 6 rfl
abbrev dl_413 : List (Nat × Except DecodeError (Instr × Nat)) := [(0, .ok (.getstatic 38, 3)), (3, .ok (.ifCond .eq 14, 3)), (6, .ok (.aload_n 0, 1)), (7, .ok (.getfield 15, 3)), (10, .ok (.ifCond .ne 7, 3)), (13, .ok (.iconst 1, 1)), (14, .ok (.goto 4, 3)), (17, .ok (.iconst 0, 1)), (18, .ok (.ireturn, 1))]
theorem da_413 : dl_413.all (fun q => decide (decode cJ0_isLatin1_aae02 q.1 = q.2)) = true := by decide +kernel
theorem dJ0_isLatin1_aae02_0 : decode cJ0_isLatin1_aae02 0 = .ok (.getstatic 38, 3) := dec_of (decode cJ0_isLatin1_aae02) da_413 0 rfl
theorem dJ0_isLatin1_aae02_3 : decode cJ0_isLatin1_aae02 3 = .ok (.ifCond .eq 14, 3) := dec_of (decode cJ0_isLatin1_aae02) da_413 1 rfl
theorem dJ0_isLatin1_aae02_6 : decode cJ0_isLatin1_aae02 6 = .ok (.aload_n 0, 1) := dec_of (decode cJ0_isLatin1_aae02) da_413 2 rfl
theorem dJ0_isLatin1_aae02_7 : decode cJ0_isLatin1_aae02 7 = .ok (.getfield 15, 3) := dec_of (decode cJ0_isLatin1_aae02) da_413 3 rfl
theorem dJ0_isLatin1_aae02_10 : decode cJ0_isLatin1_aae02 10 = .ok (.ifCond .ne 7, 3) := dec_of (decode cJ0_isLatin1_aae02) da_413 4 rfl
theorem dJ0_isLatin1_aae02_13 : decode cJ0_isLatin1_aae02 13 = .ok (.iconst 1, 1) := dec_of (decode cJ0_isLatin1_aae02) da_413 5 rfl
theorem dJ0_isLatin1_aae02_14 : decode cJ0_isLatin1_aae02 14 = .ok (.goto 4, 3) := dec_of (decode cJ0_isLatin1_aae02) da_413 6 rfl
theorem dJ0_isLatin1_aae02_18 : decode cJ0_isLatin1_aae02 18 = .ok (.ireturn, 1) := dec_of (decode cJ0_isLatin1_aae02) da_413 8 rfl
abbrev dl_414 : List (Nat × Except DecodeError (Instr × Nat)) := [(0, .ok (.iload_n 0, 1)), (1, .ok (.iload_n 1, 1)), (2, .ok (.getstatic 1053, 3)), (5, .ok (.invokestatic 1059, 3)), (8, .ok (.pop, 1)), (9, .ok (.return_, 1))]
theorem da_414 : dl_414.all (fun q => decide (decode cJ0_checkIndex_df160 q.1 = q.2)) = true := by decide +kernel
theorem dJ0_checkIndex_df160_0 : decode cJ0_checkIndex_df160 0 = .ok (.iload_n 0, 1) := dec_of (decode cJ0_checkIndex_df160) da_414 0 rfl
theorem dJ0_checkIndex_df160_1 : decode cJ0_checkIndex_df160 1 = .ok (.iload_n 1, 1) := dec_of (decode cJ0_checkIndex_df160) da_414 1 rfl
theorem dJ0_checkIndex_df160_2 : decode cJ0_checkIndex_df160 2 = .ok (.getstatic 1053, 3) := dec_of (decode cJ0_checkIndex_df160) da_414 2 rfl
theorem dJ0_checkIndex_df160_5 : decode cJ0_checkIndex_df160 5 = .ok (.invokestatic 1059, 3) := dec_of (decode cJ0_checkIndex_df160) da_414 3 rfl
theorem dJ0_checkIndex_df160_8 : decode cJ0_checkIndex_df160 8 = .ok (.pop, 1) := dec_of (decode cJ0_checkIndex_df160) da_414 4 rfl
theorem dJ0_checkIndex_df160_9 : decode cJ0_checkIndex_df160 9 = .ok (.return_, 1) := dec_of (decode cJ0_checkIndex_df160) da_414 5 rfl
abbrev dl_415 : List (Nat × Except DecodeError (Instr × Nat)) := [(0, .ok (.iload_n 1, 1)), (1, .ok (.aload_n 0, 1)), (2, .ok (.arraylength, 1)), (3, .ok (.invokestatic 9, 3)), (6, .ok (.aload_n 0, 1)), (7, .ok (.iload_n 1, 1)), (8, .ok (.baload, 1)), (9, .ok (.sipush 255, 3)), (12, .ok (.iand, 1)), (13, .ok (.i2c, 1)), (14, .ok (.ireturn, 1))]
theorem da_415 : dl_415.all (fun q => decide (decode cJ1_charAt_3b067 q.1 = q.2)) = true := by decide +kernel
theorem dJ1_charAt_3b067_0 : decode cJ1_charAt_3b067 0 = .ok (.iload_n 1, 1) := dec_of (decode cJ1_charAt_3b067) da_415 0 rfl
theorem dJ1_charAt_3b067_1 : decode cJ1_charAt_3b067 1 = .ok (.aload_n 0, 1) := dec_of (decode cJ1_charAt_3b067) da_415 1 rfl
theorem dJ1_charAt_3b067_2 : decode cJ1_charAt_3b067 2 = .ok (.arraylength, 1) := dec_of (decode cJ1_charAt_3b067) da_415 2 rfl
theorem dJ1_charAt_3b067_3 : decode cJ1_charAt_3b067 3 = .ok (.invokestatic 9, 3) := dec_of (decode cJ1_charAt_3b067) da_415 3 rfl
theorem dJ1_charAt_3b067_6 : decode cJ1_charAt_3b067 6 = .ok (.aload_n 0, 1) := dec_of (decode cJ1_charAt_3b067) da_415 4 rfl
theorem dJ1_charAt_3b067_7 : decode cJ1_charAt_3b067 7 = .ok (.iload_n 1, 1) := dec_of (decode cJ1_charAt_3b067) da_415 5 rfl
theorem dJ1_charAt_3b067_8 : decode cJ1_charAt_3b067 8 = .ok (.baload, 1) := dec_of (decode cJ1_charAt_3b067) da_415 6 rfl
theorem dJ1_charAt_3b067_9 : decode cJ1_charAt_3b067 9 = .ok (.sipush 255, 3) := dec_of (decode cJ1_charAt_3b067) da_415 7 rfl
theorem dJ1_charAt_3b067_12 : decode cJ1_charAt_3b067 12 = .ok (.iand, 1) := dec_of (decode cJ1_charAt_3b067) da_415 8 rfl
theorem dJ1_charAt_3b067_13 : decode cJ1_charAt_3b067 13 = .ok (.i2c, 1) := dec_of (decode cJ1_charAt_3b067) da_415 9 rfl
theorem dJ1_charAt_3b067_14 : decode cJ1_charAt_3b067 14 = .ok (.ireturn, 1) := dec_of (decode cJ1_charAt_3b067) da_415 10 rfl
abbrev dl_420 : List (Nat × Except DecodeError (Instr × Nat)) := [(0, .ok (.iconst 0, 1)), (1, .ok (.istore_n 2, 1)), (2, .ok (.aload_n 0, 1)), (3, .ok (.arraylength, 1)), (4, .ok (.istore_n 3, 1)), (5, .ok (.iload_n 2, 1)), (6, .ok (.iload_n 3, 1)), (7, .ok (.if_icmp .ge 13, 3)), (10, .ok (.aload_n 0, 1)), (11, .ok (.iload_n 2, 1)), (12, .ok (.iload_n 1, 1)), (13, .ok (.iastore, 1)), (14, .ok (.iinc 2 1, 3)), (17, .ok (.goto (-12), 3)), (20, .ok (.return_, 1))]
theorem da_420 : dl_420.all (fun q => decide (decode cJ7_fill_53178 q.1 = q.2)) = true := by decide +kernel
theorem dJ7_fill_53178_0 : decode cJ7_fill_53178 0 = .ok (.iconst 0, 1) := dec_of (decode cJ7_fill_53178) da_420 0 rfl
theorem dJ7_fill_53178_1 : decode cJ7_fill_53178 1 = .ok (.istore_n 2, 1) := dec_of (decode cJ7_fill_53178) da_420 1 rfl
theorem dJ7_fill_53178_2 : decode cJ7_fill_53178 2 = .ok (.aload_n 0, 1) := dec_of (decode cJ7_fill_53178) da_420 2 rfl
theorem dJ7_fill_53178_3 : decode cJ7_fill_53178 3 = .ok (.arraylength, 1) := dec_of (decode cJ7_fill_53178) da_420 3 rfl
theorem dJ7_fill_53178_4 : decode cJ7_fill_53178 4 = .ok (.istore_n 3, 1) := dec_of (decode cJ7_fill_53178) da_420 4 rfl
theorem dJ7_fill_53178_5 : decode cJ7_fill_53178 5 = .ok (.iload_n 2, 1) := dec_of (decode cJ7_fill_53178) da_420 5 rfl
theorem dJ7_fill_53178_6 : decode cJ7_fill_53178 6 = .ok (.iload_n 3, 1) := dec_of (decode cJ7_fill_53178) da_420 6 rfl
theorem dJ7_fill_53178_7 : decode cJ7_fill_53178 7 = .ok (.if_icmp .ge 13, 3) := dec_of (decode cJ7_fill_53178) da_420 7 rfl
theorem dJ7_fill_53178_10 : decode cJ7_fill_53178 10 = .ok (.aload_n 0, 1) := dec_of (decode cJ7_fill_53178) da_420 8 rfl
theorem dJ7_fill_53178_11 : decode cJ7_fill_53178 11 = .ok (.iload_n 2, 1) := dec_of (decode cJ7_fill_53178) da_420 9 rfl
theorem dJ7_fill_53178_12 : decode cJ7_fill_53178 12 = .ok (.iload_n 1, 1) := dec_of (decode cJ7_fill_53178) da_420 10 rfl
theorem dJ7_fill_53178_13 : decode cJ7_fill_53178 13 = .ok (.iastore, 1) := dec_of (decode cJ7_fill_53178) da_420 11 rfl
theorem dJ7_fill_53178_14 : decode cJ7_fill_53178 14 = .ok (.iinc 2 1, 3) := dec_of (decode cJ7_fill_53178) da_420 12 rfl
theorem dJ7_fill_53178_17 : decode cJ7_fill_53178 17 = .ok (.goto (-12), 3) := dec_of (decode cJ7_fill_53178) da_420 13 rfl
theorem dJ7_fill_53178_20 : decode cJ7_fill_53178 20 = .ok (.return_, 1) := dec_of (decode cJ7_fill_53178) da_420 14 rfl
abbrev dl_421 : List (Nat × Except DecodeError (Instr × Nat)) := [(0, .ok (.iload_n 0, 1)), (1, .ok (.ifCond .lt 8, 3)), (4, .ok (.iload_n 0, 1)), (5, .ok (.iload_n 1, 1)), (6, .ok (.if_icmp .lt 10, 3)), (9, .ok (.aload_n 2, 1)), (10, .ok (.iload_n 0, 1)), (11, .ok (.iload_n 1, 1)), (12, .ok (.invokestatic 95, 3)), (15, .ok (.athrow, 1)), (16, .ok (.iload_n 0, 1)), (17, .ok (.ireturn, 1))]
theorem da_421 : dl_421.all (fun q => decide (decode cJ3_checkIndex_8e157 q.1 = q.2)) = true := by decide +kernel
theorem dJ3_checkIndex_8e157_0 : decode cJ3_checkIndex_8e157 0 = .ok (.iload_n 0, 1) := dec_of (decode cJ3_checkIndex_8e157) da_421 0 rfl
theorem dJ3_checkIndex_8e157_1 : decode cJ3_checkIndex_8e157 1 = .ok (.ifCond .lt 8, 3) := dec_of (decode cJ3_checkIndex_8e157) da_421 1 rfl
theorem dJ3_checkIndex_8e157_4 : decode cJ3_checkIndex_8e157 4 = .ok (.iload_n 0, 1) := dec_of (decode cJ3_checkIndex_8e157) da_421 2 rfl
theorem dJ3_checkIndex_8e157_5 : decode cJ3_checkIndex_8e157 5 = .ok (.iload_n 1, 1) := dec_of (decode cJ3_checkIndex_8e157) da_421 3 rfl
theorem dJ3_checkIndex_8e157_6 : decode cJ3_checkIndex_8e157 6 = .ok (.if_icmp .lt 10, 3) := dec_of (decode cJ3_checkIndex_8e157) da_421 4 rfl
theorem dJ3_checkIndex_8e157_16 : decode cJ3_checkIndex_8e157 16 = .ok (.iload_n 0, 1) := dec_of (decode cJ3_checkIndex_8e157) da_421 10 rfl
theorem dJ3_checkIndex_8e157_17 : decode cJ3_checkIndex_8e157 17 = .ok (.ireturn, 1) := dec_of (decode cJ3_checkIndex_8e157) da_421 11 rfl
abbrev dl_422 : List (Nat × Except DecodeError (Instr × Nat)) := [(0, .ok (.aload_n 3, 1)), (1, .ok (.iconst 0, 1)), (2, .ok (.aload_n 0, 1)), (3, .ok (.iload_n 1, 1)), (4, .ok (.iload_n 2, 1)), (5, .ok (.invokevirtual 7, 3)), (8, .ok (.i2l, 1)), (9, .ok (.lastore, 1)), (10, .ok (.goto 11, 3)), (13, .ok (.astore 4, 2)), (15, .ok (.iconst 1, 1)), (16, .ok (.ireturn, 1)), (17, .ok (.astore 4, 2)), (19, .ok (.iconst 2, 1)), (20, .ok (.ireturn, 1)), (21, .ok (.iconst 0, 1)), (22, .ok (.ireturn, 1))]
theorem da_422 : dl_422.all (fun q => decide (decode cL_look q.1 = q.2)) = true := by decide +kernel
theorem dL_look_0 : decode cL_look 0 = .ok (.aload_n 3, 1) := dec_of (decode cL_look) da_422 0 rfl
theorem dL_look_1 : decode cL_look 1 = .ok (.iconst 0, 1) := dec_of (decode cL_look) da_422 1 rfl
theorem dL_look_2 : decode cL_look 2 = .ok (.aload_n 0, 1) := dec_of (decode cL_look) da_422 2 rfl
theorem dL_look_3 : decode cL_look 3 = .ok (.iload_n 1, 1) := dec_of (decode cL_look) da_422 3 rfl
theorem dL_look_4 : decode cL_look 4 = .ok (.iload_n 2, 1) := dec_of (decode cL_look) da_422 4 rfl
theorem dL_look_5 : decode cL_look 5 = .ok (.invokevirtual 7, 3) := dec_of (decode cL_look) da_422 5 rfl
theorem dL_look_8 : decode cL_look 8 = .ok (.i2l, 1) := dec_of (decode cL_look) da_422 6 rfl
theorem dL_look_9 : decode cL_look 9 = .ok (.lastore, 1) := dec_of (decode cL_look) da_422 7 rfl
theorem dL_look_10 : decode cL_look 10 = .ok (.goto 11, 3) := dec_of (decode cL_look) da_422 8 rfl
theorem dL_look_13 : decode cL_look 13 = .ok (.astore 4, 2) := dec_of (decode cL_look) da_422 9 rfl
theorem dL_look_15 : decode cL_look 15 = .ok (.iconst 1, 1) := dec_of (decode cL_look) da_422 10 rfl
theorem dL_look_16 : decode cL_look 16 = .ok (.ireturn, 1) := dec_of (decode cL_look) da_422 11 rfl
theorem dL_look_17 : decode cL_look 17 = .ok (.astore 4, 2) := dec_of (decode cL_look) da_422 12 rfl
theorem dL_look_19 : decode cL_look 19 = .ok (.iconst 2, 1) := dec_of (decode cL_look) da_422 13 rfl
theorem dL_look_20 : decode cL_look 20 = .ok (.ireturn, 1) := dec_of (decode cL_look) da_422 14 rfl
theorem dL_look_21 : decode cL_look 21 = .ok (.iconst 0, 1) := dec_of (decode cL_look) da_422 15 rfl
theorem dL_look_22 : decode cL_look 22 = .ok (.ireturn, 1) := dec_of (decode cL_look) da_422 16 rfl
abbrev dl_423 : List (Nat × Except DecodeError (Instr × Nat)) := [(0, .ok (.new 8, 3)), (3, .ok (.dup, 1)), (4, .ok (.invokespecial 17, 3)), (7, .ok (.astore_n 1, 1)), (8, .ok (.new 18, 3)), (11, .ok (.dup, 1)), (12, .ok (.invokespecial 20, 3)), (15, .ok (.astore_n 2, 1)), (16, .ok (.iconst 1, 1)), (17, .ok (.newarray .long, 2)), (19, .ok (.astore_n 3, 1)), (20, .ok (.iconst 0, 1)), (21, .ok (.istore 4, 2)), (23, .ok (.iload 4, 2)), (25, .ok (.aload_n 0, 1)), (26, .ok (.arraylength, 1)), (27, .ok (.bipush 6, 2)), (29, .ok (.isub, 1)), (30, .ok (.if_icmp .gt 1525, 3)), (33, .ok (.aload_n 0, 1)), (34, .ok (.iload 4, 2)), (36, .ok (.iaload, 1)), (37, .ok (.bipush 63, 2)), (39, .ok (.iand, 1)), (40, .ok (.tableswitch 1509 0 37 #[168, 241, 266, 291, 316, 384, 409, 434, 471, 496, 521, 546, 595, 632, 657, 694, 731, 768, 793, 842, 891, 904, 953, 1014, 1075, 1124, 1161, 1210, 1235, 1260, 1273, 1310, 1347, 1396, 1445, 1458, 1471, 1484], 168)), (208, .ok (.aload_n 1, 1)), (209, .ok (.aload_n 0, 1)), (210, .ok (.iload 4, 2)), (212, .ok (.iconst 1, 1)), (213, .ok (.iadd, 1)), (214, .ok (.iaload, 1)), (215, .ok (.aload_n 0, 1)), (216, .ok (.iload 4, 2)), (218, .ok (.iconst 2, 1)), (219, .ok (.iadd, 1)), (220, .ok (.iaload, 1)), (221, .ok (.aload_n 0, 1)), (222, .ok (.iload 4, 2)), (224, .ok (.iconst 3, 1)), (225, .ok (.iadd, 1))]
theorem da_423 : dl_423.all (fun q => decide (decode cL_law q.1 = q.2)) = true := by decide +kernel
theorem dL_law_0 : decode cL_law 0 = .ok (.new 8, 3) := dec_of (decode cL_law) da_423 0 rfl
theorem dL_law_3 : decode cL_law 3 = .ok (.dup, 1) := dec_of (decode cL_law) da_423 1 rfl
theorem dL_law_4 : decode cL_law 4 = .ok (.invokespecial 17, 3) := dec_of (decode cL_law) da_423 2 rfl
theorem dL_law_7 : decode cL_law 7 = .ok (.astore_n 1, 1) := dec_of (decode cL_law) da_423 3 rfl
theorem dL_law_8 : decode cL_law 8 = .ok (.new 18, 3) := dec_of (decode cL_law) da_423 4 rfl
theorem dL_law_11 : decode cL_law 11 = .ok (.dup, 1) := dec_of (decode cL_law) da_423 5 rfl
theorem dL_law_12 : decode cL_law 12 = .ok (.invokespecial 20, 3) := dec_of (decode cL_law) da_423 6 rfl
theorem dL_law_15 : decode cL_law 15 = .ok (.astore_n 2, 1) := dec_of (decode cL_law) da_423 7 rfl
theorem dL_law_16 : decode cL_law 16 = .ok (.iconst 1, 1) := dec_of (decode cL_law) da_423 8 rfl
theorem dL_law_17 : decode cL_law 17 = .ok (.newarray .long, 2) := dec_of (decode cL_law) da_423 9 rfl
theorem dL_law_19 : decode cL_law 19 = .ok (.astore_n 3, 1) := dec_of (decode cL_law) da_423 10 rfl
theorem dL_law_20 : decode cL_law 20 = .ok (.iconst 0, 1) := dec_of (decode cL_law) da_423 11 rfl
theorem dL_law_21 : decode cL_law 21 = .ok (.istore 4, 2) := dec_of (decode cL_law) da_423 12 rfl
theorem dL_law_23 : decode cL_law 23 = .ok (.iload 4, 2) := dec_of (decode cL_law) da_423 13 rfl
theorem dL_law_25 : decode cL_law 25 = .ok (.aload_n 0, 1) := dec_of (decode cL_law) da_423 14 rfl
theorem dL_law_26 : decode cL_law 26 = .ok (.arraylength, 1) := dec_of (decode cL_law) da_423 15 rfl
theorem dL_law_27 : decode cL_law 27 = .ok (.bipush 6, 2) := dec_of (decode cL_law) da_423 16 rfl
theorem dL_law_29 : decode cL_law 29 = .ok (.isub, 1) := dec_of (decode cL_law) da_423 17 rfl
theorem dL_law_30 : decode cL_law 30 = .ok (.if_icmp .gt 1525, 3) := dec_of (decode cL_law) da_423 18 rfl
theorem dL_law_33 : decode cL_law 33 = .ok (.aload_n 0, 1) := dec_of (decode cL_law) da_423 19 rfl
theorem dL_law_34 : decode cL_law 34 = .ok (.iload 4, 2) := dec_of (decode cL_law) da_423 20 rfl
theorem dL_law_36 : decode cL_law 36 = .ok (.iaload, 1) := dec_of (decode cL_law) da_423 21 rfl
theorem dL_law_37 : decode cL_law 37 = .ok (.bipush 63, 2) := dec_of (decode cL_law) da_423 22 rfl
theorem dL_law_39 : decode cL_law 39 = .ok (.iand, 1) := dec_of (decode cL_law) da_423 23 rfl
theorem dL_law_40 : decode cL_law 40 = .ok (.tableswitch 1509 0 37 #[168, 241, 266, 291, 316, 384, 409, 434, 471, 496, 521, 546, 595, 632, 657, 694, 731, 768, 793, 842, 891, 904, 953, 1014, 1075, 1124, 1161, 1210, 1235, 1260, 1273, 1310, 1347, 1396, 1445, 1458, 1471, 1484], 168) := dec_of (decode cL_law) da_423 24 rfl
theorem dL_law_208 : decode cL_law 208 = .ok (.aload_n 1, 1) := dec_of (decode cL_law) da_423 25 rfl
theorem dL_law_209 : decode cL_law 209 = .ok (.aload_n 0, 1) := dec_of (decode cL_law) da_423 26 rfl
theorem dL_law_210 : decode cL_law 210 = .ok (.iload 4, 2) := dec_of (decode cL_law) da_423 27 rfl
theorem dL_law_212 : decode cL_law 212 = .ok (.iconst 1, 1) := dec_of (decode cL_law) da_423 28 rfl
theorem dL_law_213 : decode cL_law 213 = .ok (.iadd, 1) := dec_of (decode cL_law) da_423 29 rfl
theorem dL_law_214 : decode cL_law 214 = .ok (.iaload, 1) := dec_of (decode cL_law) da_423 30 rfl
theorem dL_law_215 : decode cL_law 215 = .ok (.aload_n 0, 1) := dec_of (decode cL_law) da_423 31 rfl
theorem dL_law_216 : decode cL_law 216 = .ok (.iload 4, 2) := dec_of (decode cL_law) da_423 32 rfl
theorem dL_law_218 : decode cL_law 218 = .ok (.iconst 2, 1) := dec_of (decode cL_law) da_423 33 rfl
theorem dL_law_219 : decode cL_law 219 = .ok (.iadd, 1) := dec_of (decode cL_law) da_423 34 rfl
theorem dL_law_220 : decode cL_law 220 = .ok (.iaload, 1) := dec_of (decode cL_law) da_423 35 rfl
theorem dL_law_221 : decode cL_law 221 = .ok (.aload_n 0, 1) := dec_of (decode cL_law) da_423 36 rfl
theorem dL_law_222 : decode cL_law 222 = .ok (.iload 4, 2) := dec_of (decode cL_law) da_423 37 rfl
theorem dL_law_224 : decode cL_law 224 = .ok (.iconst 3, 1) := dec_of (decode cL_law) da_423 38 rfl
theorem dL_law_225 : decode cL_law 225 = .ok (.iadd, 1) := dec_of (decode cL_law) da_423 39 rfl
abbrev dl_424 : List (Nat × Except DecodeError (Instr × Nat)) := [(226, .ok (.iaload, 1)), (227, .ok (.aload_n 0, 1)), (228, .ok (.iload 4, 2)), (230, .ok (.iconst 4, 1)), (231, .ok (.iadd, 1)), (232, .ok (.iaload, 1)), (233, .ok (.aload_n 0, 1)), (234, .ok (.iload 4, 2)), (236, .ok (.iconst 5, 1)), (237, .ok (.iadd, 1)), (238, .ok (.iaload, 1)), (239, .ok (.invokevirtual 21, 3)), (242, .ok (.pop, 1)), (243, .ok (.aload_n 2, 1)), (244, .ok (.aload_n 0, 1)), (245, .ok (.iload 4, 2)), (247, .ok (.iconst 1, 1)), (248, .ok (.iadd, 1)), (249, .ok (.iaload, 1)), (250, .ok (.aload_n 0, 1)), (251, .ok (.iload 4, 2)), (253, .ok (.iconst 2, 1)), (254, .ok (.iadd, 1)), (255, .ok (.iaload, 1)), (256, .ok (.aload_n 0, 1)), (257, .ok (.iload 4, 2)), (259, .ok (.iconst 3, 1)), (260, .ok (.iadd, 1)), (261, .ok (.iaload, 1)), (262, .ok (.aload_n 0, 1)), (263, .ok (.iload 4, 2)), (265, .ok (.iconst 4, 1)), (266, .ok (.iadd, 1)), (267, .ok (.iaload, 1)), (268, .ok (.aload_n 0, 1)), (269, .ok (.iload 4, 2)), (271, .ok (.iconst 5, 1)), (272, .ok (.iadd, 1)), (273, .ok (.iaload, 1)), (274, .ok (.invokevirtual 25, 3))]
theorem da_424 : dl_424.all (fun q => decide (decode cL_law q.1 = q.2)) = true := by decide +kernel
theorem dL_law_226 : decode cL_law 226 = .ok (.iaload, 1) := dec_of (decode cL_law) da_424 0 rfl
theorem dL_law_227 : decode cL_law 227 = .ok (.aload_n 0, 1) := dec_of (decode cL_law) da_424 1 rfl
theorem dL_law_228 : decode cL_law 228 = .ok (.iload 4, 2) := dec_of (decode cL_law) da_424 2 rfl
theorem dL_law_230 : decode cL_law 230 = .ok (.iconst 4, 1) := dec_of (decode cL_law) da_424 3 rfl
theorem dL_law_231 : decode cL_law 231 = .ok (.iadd, 1) := dec_of (decode cL_law) da_424 4 rfl
theorem dL_law_232 : decode cL_law 232 = .ok (.iaload, 1) := dec_of (decode cL_law) da_424 5 rfl
theorem dL_law_233 : decode cL_law 233 = .ok (.aload_n 0, 1) := dec_of (decode cL_law) da_424 6 rfl
theorem dL_law_234 : decode cL_law 234 = .ok (.iload 4, 2) := dec_of (decode cL_law) da_424 7 rfl
theorem dL_law_236 : decode cL_law 236 = .ok (.iconst 5, 1) := dec_of (decode cL_law) da_424 8 rfl
theorem dL_law_237 : decode cL_law 237 = .ok (.iadd, 1) := dec_of (decode cL_law) da_424 9 rfl
theorem dL_law_238 : decode cL_law 238 = .ok (.iaload, 1) := dec_of (decode cL_law) da_424 10 rfl
theorem dL_law_239 : decode cL_law 239 = .ok (.invokevirtual 21, 3) := dec_of (decode cL_law) da_424 11 rfl
theorem dL_law_242 : decode cL_law 242 = .ok (.pop, 1) := dec_of (decode cL_law) da_424 12 rfl
theorem dL_law_243 : decode cL_law 243 = .ok (.aload_n 2, 1) := dec_of (decode cL_law) da_424 13 rfl
theorem dL_law_244 : decode cL_law 244 = .ok (.aload_n 0, 1) := dec_of (decode cL_law) da_424 14 rfl
theorem dL_law_245 : decode cL_law 245 = .ok (.iload 4, 2) := dec_of (decode cL_law) da_424 15 rfl
theorem dL_law_247 : decode cL_law 247 = .ok (.iconst 1, 1) := dec_of (decode cL_law) da_424 16 rfl
theorem dL_law_248 : decode cL_law 248 = .ok (.iadd, 1) := dec_of (decode cL_law) da_424 17 rfl
theorem dL_law_249 : decode cL_law 249 = .ok (.iaload, 1) := dec_of (decode cL_law) da_424 18 rfl
theorem dL_law_250 : decode cL_law 250 = .ok (.aload_n 0, 1) := dec_of (decode cL_law) da_424 19 rfl
theorem dL_law_251 : decode cL_law 251 = .ok (.iload 4, 2) := dec_of (decode cL_law) da_424 20 rfl
theorem dL_law_253 : decode cL_law 253 = .ok (.iconst 2, 1) := dec_of (decode cL_law) da_424 21 rfl
theorem dL_law_254 : decode cL_law 254 = .ok (.iadd, 1) := dec_of (decode cL_law) da_424 22 rfl
theorem dL_law_255 : decode cL_law 255 = .ok (.iaload, 1) := dec_of (decode cL_law) da_424 23 rfl
theorem dL_law_256 : decode cL_law 256 = .ok (.aload_n 0, 1) := dec_of (decode cL_law) da_424 24 rfl
theorem dL_law_257 : decode cL_law 257 = .ok (.iload 4, 2) := dec_of (decode cL_law) da_424 25 rfl
theorem dL_law_259 : decode cL_law 259 = .ok (.iconst 3, 1) := dec_of (decode cL_law) da_424 26 rfl
theorem dL_law_260 : decode cL_law 260 = .ok (.iadd, 1) := dec_of (decode cL_law) da_424 27 rfl
theorem dL_law_261 : decode cL_law 261 = .ok (.iaload, 1) := dec_of (decode cL_law) da_424 28 rfl
theorem dL_law_262 : decode cL_law 262 = .ok (.aload_n 0, 1) := dec_of (decode cL_law) da_424 29 rfl
theorem dL_law_263 : decode cL_law 263 = .ok (.iload 4, 2) := dec_of (decode cL_law) da_424 30 rfl
theorem dL_law_265 : decode cL_law 265 = .ok (.iconst 4, 1) := dec_of (decode cL_law) da_424 31 rfl
theorem dL_law_266 : decode cL_law 266 = .ok (.iadd, 1) := dec_of (decode cL_law) da_424 32 rfl
theorem dL_law_267 : decode cL_law 267 = .ok (.iaload, 1) := dec_of (decode cL_law) da_424 33 rfl
theorem dL_law_268 : decode cL_law 268 = .ok (.aload_n 0, 1) := dec_of (decode cL_law) da_424 34 rfl
theorem dL_law_269 : decode cL_law 269 = .ok (.iload 4, 2) := dec_of (decode cL_law) da_424 35 rfl
theorem dL_law_271 : decode cL_law 271 = .ok (.iconst 5, 1) := dec_of (decode cL_law) da_424 36 rfl
theorem dL_law_272 : decode cL_law 272 = .ok (.iadd, 1) := dec_of (decode cL_law) da_424 37 rfl
theorem dL_law_273 : decode cL_law 273 = .ok (.iaload, 1) := dec_of (decode cL_law) da_424 38 rfl
theorem dL_law_274 : decode cL_law 274 = .ok (.invokevirtual 25, 3) := dec_of (decode cL_law) da_424 39 rfl
abbrev dl_425 : List (Nat × Except DecodeError (Instr × Nat)) := [(277, .ok (.pop, 1)), (278, .ok (.goto 1271, 3)), (281, .ok (.aload_n 1, 1)), (282, .ok (.aload_n 0, 1)), (283, .ok (.iload 4, 2)), (285, .ok (.iconst 1, 1)), (286, .ok (.iadd, 1)), (287, .ok (.iaload, 1)), (288, .ok (.invokevirtual 26, 3)), (291, .ok (.pop, 1)), (292, .ok (.aload_n 2, 1)), (293, .ok (.aload_n 0, 1)), (294, .ok (.iload 4, 2)), (296, .ok (.iconst 1, 1)), (297, .ok (.iadd, 1)), (298, .ok (.iaload, 1)), (299, .ok (.invokevirtual 30, 3)), (302, .ok (.pop, 1)), (303, .ok (.goto 1246, 3)), (306, .ok (.aload_n 1, 1)), (307, .ok (.aload_n 0, 1)), (308, .ok (.iload 4, 2)), (310, .ok (.iconst 1, 1)), (311, .ok (.iadd, 1)), (312, .ok (.iaload, 1)), (313, .ok (.invokevirtual 31, 3)), (316, .ok (.pop, 1)), (317, .ok (.aload_n 2, 1)), (318, .ok (.aload_n 0, 1)), (319, .ok (.iload 4, 2)), (321, .ok (.iconst 1, 1)), (322, .ok (.iadd, 1)), (323, .ok (.iaload, 1)), (324, .ok (.invokevirtual 34, 3)), (327, .ok (.pop, 1)), (328, .ok (.goto 1221, 3)), (331, .ok (.aload_n 1, 1)), (332, .ok (.aload_n 0, 1)), (333, .ok (.iload 4, 2)), (335, .ok (.iconst 1, 1))]
theorem da_425 : dl_425.all (fun q => decide (decode cL_law q.1 = q.2)) = true := by decide +kernel
theorem dL_law_277 : decode cL_law 277 = .ok (.pop, 1) := dec_of (decode cL_law) da_425 0 rfl
theorem dL_law_278 : decode cL_law 278 = .ok (.goto 1271, 3) := dec_of (decode cL_law) da_425 1 rfl
theorem dL_law_281 : decode cL_law 281 = .ok (.aload_n 1, 1) := dec_of (decode cL_law) da_425 2 rfl
theorem dL_law_282 : decode cL_law 282 = .ok (.aload_n 0, 1) := dec_of (decode cL_law) da_425 3 rfl
theorem dL_law_283 : decode cL_law 283 = .ok (.iload 4, 2) := dec_of (decode cL_law) da_425 4 rfl
theorem dL_law_285 : decode cL_law 285 = .ok (.iconst 1, 1) := dec_of (decode cL_law) da_425 5 rfl
theorem dL_law_286 : decode cL_law 286 = .ok (.iadd, 1) := dec_of (decode cL_law) da_425 6 rfl
theorem dL_law_287 : decode cL_law 287 = .ok (.iaload, 1) := dec_of (decode cL_law) da_425 7 rfl
theorem dL_law_288 : decode cL_law 288 = .ok (.invokevirtual 26, 3) := dec_of (decode cL_law) da_425 8 rfl
theorem dL_law_291 : decode cL_law 291 = .ok (.pop, 1) := dec_of (decode cL_law) da_425 9 rfl
theorem dL_law_292 : decode cL_law 292 = .ok (.aload_n 2, 1) := dec_of (decode cL_law) da_425 10 rfl
theorem dL_law_293 : decode cL_law 293 = .ok (.aload_n 0, 1) := dec_of (decode cL_law) da_425 11 rfl
theorem dL_law_294 : decode cL_law 294 = .ok (.iload 4, 2) := dec_of (decode cL_law) da_425 12 rfl
theorem dL_law_296 : decode cL_law 296 = .ok (.iconst 1, 1) := dec_of (decode cL_law) da_425 13 rfl
theorem dL_law_297 : decode cL_law 297 = .ok (.iadd, 1) := dec_of (decode cL_law) da_425 14 rfl
theorem dL_law_298 : decode cL_law 298 = .ok (.iaload, 1) := dec_of (decode cL_law) da_425 15 rfl
theorem dL_law_299 : decode cL_law 299 = .ok (.invokevirtual 30, 3) := dec_of (decode cL_law) da_425 16 rfl
theorem dL_law_302 : decode cL_law 302 = .ok (.pop, 1) := dec_of (decode cL_law) da_425 17 rfl
theorem dL_law_303 : decode cL_law 303 = .ok (.goto 1246, 3) := dec_of (decode cL_law) da_425 18 rfl
theorem dL_law_306 : decode cL_law 306 = .ok (.aload_n 1, 1) := dec_of (decode cL_law) da_425 19 rfl
theorem dL_law_307 : decode cL_law 307 = .ok (.aload_n 0, 1) := dec_of (decode cL_law) da_425 20 rfl
theorem dL_law_308 : decode cL_law 308 = .ok (.iload 4, 2) := dec_of (decode cL_law) da_425 21 rfl
theorem dL_law_310 : decode cL_law 310 = .ok (.iconst 1, 1) := dec_of (decode cL_law) da_425 22 rfl
theorem dL_law_311 : decode cL_law 311 = .ok (.iadd, 1) := dec_of (decode cL_law) da_425 23 rfl
theorem dL_law_312 : decode cL_law 312 = .ok (.iaload, 1) := dec_of (decode cL_law) da_425 24 rfl
theorem dL_law_313 : decode cL_law 313 = .ok (.invokevirtual 31, 3) := dec_of (decode cL_law) da_425 25 rfl
theorem dL_law_316 : decode cL_law 316 = .ok (.pop, 1) := dec_of (decode cL_law) da_425 26 rfl
theorem dL_law_317 : decode cL_law 317 = .ok (.aload_n 2, 1) := dec_of (decode cL_law) da_425 27 rfl
theorem dL_law_318 : decode cL_law 318 = .ok (.aload_n 0, 1) := dec_of (decode cL_law) da_425 28 rfl
theorem dL_law_319 : decode cL_law 319 = .ok (.iload 4, 2) := dec_of (decode cL_law) da_425 29 rfl
theorem dL_law_321 : decode cL_law 321 = .ok (.iconst 1, 1) := dec_of (decode cL_law) da_425 30 rfl
theorem dL_law_322 : decode cL_law 322 = .ok (.iadd, 1) := dec_of (decode cL_law) da_425 31 rfl
theorem dL_law_323 : decode cL_law 323 = .ok (.iaload, 1) := dec_of (decode cL_law) da_425 32 rfl
theorem dL_law_324 : decode cL_law 324 = .ok (.invokevirtual 34, 3) := dec_of (decode cL_law) da_425 33 rfl
theorem dL_law_327 : decode cL_law 327 = .ok (.pop, 1) := dec_of (decode cL_law) da_425 34 rfl
theorem dL_law_328 : decode cL_law 328 = .ok (.goto 1221, 3) := dec_of (decode cL_law) da_425 35 rfl
theorem dL_law_331 : decode cL_law 331 = .ok (.aload_n 1, 1) := dec_of (decode cL_law) da_425 36 rfl
theorem dL_law_332 : decode cL_law 332 = .ok (.aload_n 0, 1) := dec_of (decode cL_law) da_425 37 rfl
theorem dL_law_333 : decode cL_law 333 = .ok (.iload 4, 2) := dec_of (decode cL_law) da_425 38 rfl
theorem dL_law_335 : decode cL_law 335 = .ok (.iconst 1, 1) := dec_of (decode cL_law) da_425 39 rfl
abbrev dl_426 : List (Nat × Except DecodeError (Instr × Nat)) := [(336, .ok (.iadd, 1)), (337, .ok (.iaload, 1)), (338, .ok (.invokevirtual 35, 3)), (341, .ok (.pop, 1)), (342, .ok (.aload_n 2, 1)), (343, .ok (.aload_n 0, 1)), (344, .ok (.iload 4, 2)), (346, .ok (.iconst 1, 1)), (347, .ok (.iadd, 1)), (348, .ok (.iaload, 1)), (349, .ok (.invokevirtual 38, 3)), (352, .ok (.pop, 1)), (353, .ok (.goto 1196, 3)), (356, .ok (.aload_n 1, 1)), (357, .ok (.aload_n 0, 1)), (358, .ok (.iload 4, 2)), (360, .ok (.iconst 1, 1)), (361, .ok (.iadd, 1)), (362, .ok (.iaload, 1)), (363, .ok (.aload_n 0, 1)), (364, .ok (.iload 4, 2)), (366, .ok (.iconst 2, 1)), (367, .ok (.iadd, 1)), (368, .ok (.iaload, 1)), (369, .ok (.aload_n 3, 1)), (370, .ok (.invokestatic 39, 3)), (373, .ok (.istore 5, 2)), (375, .ok (.aload_n 2, 1)), (376, .ok (.aload_n 0, 1)), (377, .ok (.iload 4, 2)), (379, .ok (.iconst 1, 1)), (380, .ok (.iadd, 1)), (381, .ok (.iaload, 1)), (382, .ok (.aload_n 0, 1)), (383, .ok (.iload 4, 2)), (385, .ok (.iconst 2, 1)), (386, .ok (.iadd, 1)), (387, .ok (.iaload, 1)), (388, .ok (.invokevirtual 44, 3)), (391, .ok (.istore 6, 2))]
theorem da_426 : dl_426.all (fun q => decide (decode cL_law q.1 = q.2)) = true := by decide +kernel
theorem dL_law_336 : decode cL_law 336 = .ok (.iadd, 1) := dec_of (decode cL_law) da_426 0 rfl
theorem dL_law_337 : decode cL_law 337 = .ok (.iaload, 1) := dec_of (decode cL_law) da_426 1 rfl
theorem dL_law_338 : decode cL_law 338 = .ok (.invokevirtual 35, 3) := dec_of (decode cL_law) da_426 2 rfl
theorem dL_law_341 : decode cL_law 341 = .ok (.pop, 1) := dec_of (decode cL_law) da_426 3 rfl
theorem dL_law_342 : decode cL_law 342 = .ok (.aload_n 2, 1) := dec_of (decode cL_law) da_426 4 rfl
theorem dL_law_343 : decode cL_law 343 = .ok (.aload_n 0, 1) := dec_of (decode cL_law) da_426 5 rfl
theorem dL_law_344 : decode cL_law 344 = .ok (.iload 4, 2) := dec_of (decode cL_law) da_426 6 rfl
theorem dL_law_346 : decode cL_law 346 = .ok (.iconst 1, 1) := dec_of (decode cL_law) da_426 7 rfl
theorem dL_law_347 : decode cL_law 347 = .ok (.iadd, 1) := dec_of (decode cL_law) da_426 8 rfl
theorem dL_law_348 : decode cL_law 348 = .ok (.iaload, 1) := dec_of (decode cL_law) da_426 9 rfl
theorem dL_law_349 : decode cL_law 349 = .ok (.invokevirtual 38, 3) := dec_of (decode cL_law) da_426 10 rfl
theorem dL_law_352 : decode cL_law 352 = .ok (.pop, 1) := dec_of (decode cL_law) da_426 11 rfl
theorem dL_law_353 : decode cL_law 353 = .ok (.goto 1196, 3) := dec_of (decode cL_law) da_426 12 rfl
theorem dL_law_356 : decode cL_law 356 = .ok (.aload_n 1, 1) := dec_of (decode cL_law) da_426 13 rfl
theorem dL_law_357 : decode cL_law 357 = .ok (.aload_n 0, 1) := dec_of (decode cL_law) da_426 14 rfl
theorem dL_law_358 : decode cL_law 358 = .ok (.iload 4, 2) := dec_of (decode cL_law) da_426 15 rfl
theorem dL_law_360 : decode cL_law 360 = .ok (.iconst 1, 1) := dec_of (decode cL_law) da_426 16 rfl
theorem dL_law_361 : decode cL_law 361 = .ok (.iadd, 1) := dec_of (decode cL_law) da_426 17 rfl
theorem dL_law_362 : decode cL_law 362 = .ok (.iaload, 1) := dec_of (decode cL_law) da_426 18 rfl
theorem dL_law_363 : decode cL_law 363 = .ok (.aload_n 0, 1) := dec_of (decode cL_law) da_426 19 rfl
theorem dL_law_364 : decode cL_law 364 = .ok (.iload 4, 2) := dec_of (decode cL_law) da_426 20 rfl
theorem dL_law_366 : decode cL_law 366 = .ok (.iconst 2, 1) := dec_of (decode cL_law) da_426 21 rfl
theorem dL_law_367 : decode cL_law 367 = .ok (.iadd, 1) := dec_of (decode cL_law) da_426 22 rfl
theorem dL_law_368 : decode cL_law 368 = .ok (.iaload, 1) := dec_of (decode cL_law) da_426 23 rfl
theorem dL_law_369 : decode cL_law 369 = .ok (.aload_n 3, 1) := dec_of (decode cL_law) da_426 24 rfl
theorem dL_law_370 : decode cL_law 370 = .ok (.invokestatic 39, 3) := dec_of (decode cL_law) da_426 25 rfl
theorem dL_law_373 : decode cL_law 373 = .ok (.istore 5, 2) := dec_of (decode cL_law) da_426 26 rfl
theorem dL_law_375 : decode cL_law 375 = .ok (.aload_n 2, 1) := dec_of (decode cL_law) da_426 27 rfl
theorem dL_law_376 : decode cL_law 376 = .ok (.aload_n 0, 1) := dec_of (decode cL_law) da_426 28 rfl
theorem dL_law_377 : decode cL_law 377 = .ok (.iload 4, 2) := dec_of (decode cL_law) da_426 29 rfl
theorem dL_law_379 : decode cL_law 379 = .ok (.iconst 1, 1) := dec_of (decode cL_law) da_426 30 rfl
theorem dL_law_380 : decode cL_law 380 = .ok (.iadd, 1) := dec_of (decode cL_law) da_426 31 rfl
theorem dL_law_381 : decode cL_law 381 = .ok (.iaload, 1) := dec_of (decode cL_law) da_426 32 rfl
theorem dL_law_382 : decode cL_law 382 = .ok (.aload_n 0, 1) := dec_of (decode cL_law) da_426 33 rfl
theorem dL_law_383 : decode cL_law 383 = .ok (.iload 4, 2) := dec_of (decode cL_law) da_426 34 rfl
theorem dL_law_385 : decode cL_law 385 = .ok (.iconst 2, 1) := dec_of (decode cL_law) da_426 35 rfl
theorem dL_law_386 : decode cL_law 386 = .ok (.iadd, 1) := dec_of (decode cL_law) da_426 36 rfl
theorem dL_law_387 : decode cL_law 387 = .ok (.iaload, 1) := dec_of (decode cL_law) da_426 37 rfl
theorem dL_law_388 : decode cL_law 388 = .ok (.invokevirtual 44, 3) := dec_of (decode cL_law) da_426 38 rfl
theorem dL_law_391 : decode cL_law 391 = .ok (.istore 6, 2) := dec_of (decode cL_law) da_426 39 rfl
abbrev dl_427 : List (Nat × Except DecodeError (Instr × Nat)) := [(393, .ok (.aload_n 2, 1)), (394, .ok (.invokevirtual 45, 3)), (397, .ok (.iload 5, 2)), (399, .ok (.if_icmp .eq 5, 3)), (402, .ok (.iconst 0, 1)), (403, .ok (.ireturn, 1)), (404, .ok (.iload 5, 2)), (406, .ok (.ifCond .ne 15, 3)), (409, .ok (.aload_n 3, 1)), (410, .ok (.iconst 0, 1)), (411, .ok (.laload, 1)), (412, .ok (.iload 6, 2)), (414, .ok (.i2l, 1)), (415, .ok (.lcmp, 1)), (416, .ok (.ifCond .eq 5, 3)), (419, .ok (.iconst 0, 1)), (420, .ok (.ireturn, 1)), (421, .ok (.goto 1128, 3)), (424, .ok (.aload_n 1, 1)), (425, .ok (.aload_n 0, 1)), (426, .ok (.iload 4, 2)), (428, .ok (.iconst 1, 1)), (429, .ok (.iadd, 1)), (430, .ok (.iaload, 1)), (431, .ok (.invokevirtual 49, 3)), (434, .ok (.pop, 1)), (435, .ok (.aload_n 2, 1)), (436, .ok (.aload_n 0, 1)), (437, .ok (.iload 4, 2)), (439, .ok (.iconst 1, 1)), (440, .ok (.iadd, 1)), (441, .ok (.iaload, 1)), (442, .ok (.invokevirtual 52, 3)), (445, .ok (.pop, 1)), (446, .ok (.goto 1103, 3)), (449, .ok (.aload_n 1, 1)), (450, .ok (.aload_n 0, 1)), (451, .ok (.iload 4, 2)), (453, .ok (.iconst 1, 1)), (454, .ok (.iadd, 1))]
theorem da_427 : dl_427.all (fun q => decide (decode cL_law q.1 = q.2)) = true := by decide +kernel
theorem dL_law_393 : decode cL_law 393 = .ok (.aload_n 2, 1) := dec_of (decode cL_law) da_427 0 rfl
theorem dL_law_394 : decode cL_law 394 = .ok (.invokevirtual 45, 3) := dec_of (decode cL_law) da_427 1 rfl
theorem dL_law_397 : decode cL_law 397 = .ok (.iload 5, 2) := dec_of (decode cL_law) da_427 2 rfl
theorem dL_law_399 : decode cL_law 399 = .ok (.if_icmp .eq 5, 3) := dec_of (decode cL_law) da_427 3 rfl
theorem dL_law_404 : decode cL_law 404 = .ok (.iload 5, 2) := dec_of (decode cL_law) da_427 6 rfl
theorem dL_law_406 : decode cL_law 406 = .ok (.ifCond .ne 15, 3) := dec_of (decode cL_law) da_427 7 rfl
theorem dL_law_409 : decode cL_law 409 = .ok (.aload_n 3, 1) := dec_of (decode cL_law) da_427 8 rfl
theorem dL_law_410 : decode cL_law 410 = .ok (.iconst 0, 1) := dec_of (decode cL_law) da_427 9 rfl
theorem dL_law_411 : decode cL_law 411 = .ok (.laload, 1) := dec_of (decode cL_law) da_427 10 rfl
theorem dL_law_412 : decode cL_law 412 = .ok (.iload 6, 2) := dec_of (decode cL_law) da_427 11 rfl
theorem dL_law_414 : decode cL_law 414 = .ok (.i2l, 1) := dec_of (decode cL_law) da_427 12 rfl
theorem dL_law_415 : decode cL_law 415 = .ok (.lcmp, 1) := dec_of (decode cL_law) da_427 13 rfl
theorem dL_law_416 : decode cL_law 416 = .ok (.ifCond .eq 5, 3) := dec_of (decode cL_law) da_427 14 rfl
theorem dL_law_421 : decode cL_law 421 = .ok (.goto 1128, 3) := dec_of (decode cL_law) da_427 17 rfl
theorem dL_law_424 : decode cL_law 424 = .ok (.aload_n 1, 1) := dec_of (decode cL_law) da_427 18 rfl
theorem dL_law_425 : decode cL_law 425 = .ok (.aload_n 0, 1) := dec_of (decode cL_law) da_427 19 rfl
theorem dL_law_426 : decode cL_law 426 = .ok (.iload 4, 2) := dec_of (decode cL_law) da_427 20 rfl
theorem dL_law_428 : decode cL_law 428 = .ok (.iconst 1, 1) := dec_of (decode cL_law) da_427 21 rfl
theorem dL_law_429 : decode cL_law 429 = .ok (.iadd, 1) := dec_of (decode cL_law) da_427 22 rfl
theorem dL_law_430 : decode cL_law 430 = .ok (.iaload, 1) := dec_of (decode cL_law) da_427 23 rfl
theorem dL_law_431 : decode cL_law 431 = .ok (.invokevirtual 49, 3) := dec_of (decode cL_law) da_427 24 rfl
theorem dL_law_434 : decode cL_law 434 = .ok (.pop, 1) := dec_of (decode cL_law) da_427 25 rfl
theorem dL_law_435 : decode cL_law 435 = .ok (.aload_n 2, 1) := dec_of (decode cL_law) da_427 26 rfl
theorem dL_law_436 : decode cL_law 436 = .ok (.aload_n 0, 1) := dec_of (decode cL_law) da_427 27 rfl
theorem dL_law_437 : decode cL_law 437 = .ok (.iload 4, 2) := dec_of (decode cL_law) da_427 28 rfl
theorem dL_law_439 : decode cL_law 439 = .ok (.iconst 1, 1) := dec_of (decode cL_law) da_427 29 rfl
theorem dL_law_440 : decode cL_law 440 = .ok (.iadd, 1) := dec_of (decode cL_law) da_427 30 rfl
theorem dL_law_441 : decode cL_law 441 = .ok (.iaload, 1) := dec_of (decode cL_law) da_427 31 rfl
theorem dL_law_442 : decode cL_law 442 = .ok (.invokevirtual 52, 3) := dec_of (decode cL_law) da_427 32 rfl
theorem dL_law_445 : decode cL_law 445 = .ok (.pop, 1) := dec_of (decode cL_law) da_427 33 rfl
theorem dL_law_446 : decode cL_law 446 = .ok (.goto 1103, 3) := dec_of (decode cL_law) da_427 34 rfl
theorem dL_law_449 : decode cL_law 449 = .ok (.aload_n 1, 1) := dec_of (decode cL_law) da_427 35 rfl
theorem dL_law_450 : decode cL_law 450 = .ok (.aload_n 0, 1) := dec_of (decode cL_law) da_427 36 rfl
theorem dL_law_451 : decode cL_law 451 = .ok (.iload 4, 2) := dec_of (decode cL_law) da_427 37 rfl
theorem dL_law_453 : decode cL_law 453 = .ok (.iconst 1, 1) := dec_of (decode cL_law) da_427 38 rfl
theorem dL_law_454 : decode cL_law 454 = .ok (.iadd, 1) := dec_of (decode cL_law) da_427 39 rfl
abbrev dl_428 : List (Nat × Except DecodeError (Instr × Nat)) := [(455, .ok (.iaload, 1)), (456, .ok (.invokevirtual 53, 3)), (459, .ok (.pop, 1)), (460, .ok (.aload_n 2, 1)), (461, .ok (.aload_n 0, 1)), (462, .ok (.iload 4, 2)), (464, .ok (.iconst 1, 1)), (465, .ok (.iadd, 1)), (466, .ok (.iaload, 1)), (467, .ok (.invokevirtual 56, 3)), (470, .ok (.pop, 1)), (471, .ok (.goto 1078, 3)), (474, .ok (.aload_n 1, 1)), (475, .ok (.aload_n 0, 1)), (476, .ok (.iload 4, 2)), (478, .ok (.iconst 1, 1)), (479, .ok (.iadd, 1)), (480, .ok (.iaload, 1)), (481, .ok (.aload_n 0, 1)), (482, .ok (.iload 4, 2)), (484, .ok (.iconst 2, 1)), (485, .ok (.iadd, 1)), (486, .ok (.iaload, 1)), (487, .ok (.invokevirtual 57, 3)), (490, .ok (.pop2, 1)), (491, .ok (.aload_n 2, 1)), (492, .ok (.aload_n 0, 1)), (493, .ok (.iload 4, 2)), (495, .ok (.iconst 1, 1)), (496, .ok (.iadd, 1)), (497, .ok (.iaload, 1)), (498, .ok (.aload_n 0, 1)), (499, .ok (.iload 4, 2)), (501, .ok (.iconst 2, 1)), (502, .ok (.iadd, 1)), (503, .ok (.iaload, 1)), (504, .ok (.invokevirtual 61, 3)), (507, .ok (.pop2, 1)), (508, .ok (.goto 1041, 3)), (511, .ok (.aload_n 1, 1))]
theorem da_428 : dl_428.all (fun q => decide (decode cL_law q.1 = q.2)) = true := by decide +kernel
theorem dL_law_455 : decode cL_law 455 = .ok (.iaload, 1) := dec_of (decode cL_law) da_428 0 rfl
theorem dL_law_456 : decode cL_law 456 = .ok (.invokevirtual 53, 3) := dec_of (decode cL_law) da_428 1 rfl
theorem dL_law_459 : decode cL_law 459 = .ok (.pop, 1) := dec_of (decode cL_law) da_428 2 rfl
theorem dL_law_460 : decode cL_law 460 = .ok (.aload_n 2, 1) := dec_of (decode cL_law) da_428 3 rfl
theorem dL_law_461 : decode cL_law 461 = .ok (.aload_n 0, 1) := dec_of (decode cL_law) da_428 4 rfl
theorem dL_law_462 : decode cL_law 462 = .ok (.iload 4, 2) := dec_of (decode cL_law) da_428 5 rfl
theorem dL_law_464 : decode cL_law 464 = .ok (.iconst 1, 1) := dec_of (decode cL_law) da_428 6 rfl
theorem dL_law_465 : decode cL_law 465 = .ok (.iadd, 1) := dec_of (decode cL_law) da_428 7 rfl
theorem dL_law_466 : decode cL_law 466 = .ok (.iaload, 1) := dec_of (decode cL_law) da_428 8 rfl
theorem dL_law_467 : decode cL_law 467 = .ok (.invokevirtual 56, 3) := dec_of (decode cL_law) da_428 9 rfl
theorem dL_law_470 : decode cL_law 470 = .ok (.pop, 1) := dec_of (decode cL_law) da_428 10 rfl
theorem dL_law_471 : decode cL_law 471 = .ok (.goto 1078, 3) := dec_of (decode cL_law) da_428 11 rfl
theorem dL_law_474 : decode cL_law 474 = .ok (.aload_n 1, 1) := dec_of (decode cL_law) da_428 12 rfl
theorem dL_law_475 : decode cL_law 475 = .ok (.aload_n 0, 1) := dec_of (decode cL_law) da_428 13 rfl
theorem dL_law_476 : decode cL_law 476 = .ok (.iload 4, 2) := dec_of (decode cL_law) da_428 14 rfl
theorem dL_law_478 : decode cL_law 478 = .ok (.iconst 1, 1) := dec_of (decode cL_law) da_428 15 rfl
theorem dL_law_479 : decode cL_law 479 = .ok (.iadd, 1) := dec_of (decode cL_law) da_428 16 rfl
theorem dL_law_480 : decode cL_law 480 = .ok (.iaload, 1) := dec_of (decode cL_law) da_428 17 rfl
theorem dL_law_481 : decode cL_law 481 = .ok (.aload_n 0, 1) := dec_of (decode cL_law) da_428 18 rfl
theorem dL_law_482 : decode cL_law 482 = .ok (.iload 4, 2) := dec_of (decode cL_law) da_428 19 rfl
theorem dL_law_484 : decode cL_law 484 = .ok (.iconst 2, 1) := dec_of (decode cL_law) da_428 20 rfl
theorem dL_law_485 : decode cL_law 485 = .ok (.iadd, 1) := dec_of (decode cL_law) da_428 21 rfl
theorem dL_law_486 : decode cL_law 486 = .ok (.iaload, 1) := dec_of (decode cL_law) da_428 22 rfl
theorem dL_law_487 : decode cL_law 487 = .ok (.invokevirtual 57, 3) := dec_of (decode cL_law) da_428 23 rfl
theorem dL_law_490 : decode cL_law 490 = .ok (.pop2, 1) := dec_of (decode cL_law) da_428 24 rfl
theorem dL_law_491 : decode cL_law 491 = .ok (.aload_n 2, 1) := dec_of (decode cL_law) da_428 25 rfl
theorem dL_law_492 : decode cL_law 492 = .ok (.aload_n 0, 1) := dec_of (decode cL_law) da_428 26 rfl
theorem dL_law_493 : decode cL_law 493 = .ok (.iload 4, 2) := dec_of (decode cL_law) da_428 27 rfl
theorem dL_law_495 : decode cL_law 495 = .ok (.iconst 1, 1) := dec_of (decode cL_law) da_428 28 rfl
theorem dL_law_496 : decode cL_law 496 = .ok (.iadd, 1) := dec_of (decode cL_law) da_428 29 rfl
theorem dL_law_497 : decode cL_law 497 = .ok (.iaload, 1) := dec_of (decode cL_law) da_428 30 rfl
theorem dL_law_498 : decode cL_law 498 = .ok (.aload_n 0, 1) := dec_of (decode cL_law) da_428 31 rfl
theorem dL_law_499 : decode cL_law 499 = .ok (.iload 4, 2) := dec_of (decode cL_law) da_428 32 rfl
theorem dL_law_501 : decode cL_law 501 = .ok (.iconst 2, 1) := dec_of (decode cL_law) da_428 33 rfl
theorem dL_law_502 : decode cL_law 502 = .ok (.iadd, 1) := dec_of (decode cL_law) da_428 34 rfl
theorem dL_law_503 : decode cL_law 503 = .ok (.iaload, 1) := dec_of (decode cL_law) da_428 35 rfl
theorem dL_law_504 : decode cL_law 504 = .ok (.invokevirtual 61, 3) := dec_of (decode cL_law) da_428 36 rfl
theorem dL_law_507 : decode cL_law 507 = .ok (.pop2, 1) := dec_of (decode cL_law) da_428 37 rfl
theorem dL_law_508 : decode cL_law 508 = .ok (.goto 1041, 3) := dec_of (decode cL_law) da_428 38 rfl
theorem dL_law_511 : decode cL_law 511 = .ok (.aload_n 1, 1) := dec_of (decode cL_law) da_428 39 rfl
abbrev dl_429 : List (Nat × Except DecodeError (Instr × Nat)) := [(512, .ok (.aload_n 0, 1)), (513, .ok (.iload 4, 2)), (515, .ok (.iconst 1, 1)), (516, .ok (.iadd, 1)), (517, .ok (.iaload, 1)), (518, .ok (.invokevirtual 62, 3)), (521, .ok (.pop, 1)), (522, .ok (.aload_n 2, 1)), (523, .ok (.aload_n 0, 1)), (524, .ok (.iload 4, 2)), (526, .ok (.iconst 1, 1)), (527, .ok (.iadd, 1)), (528, .ok (.iaload, 1)), (529, .ok (.invokevirtual 65, 3)), (532, .ok (.pop, 1)), (533, .ok (.goto 1016, 3)), (536, .ok (.aload_n 1, 1)), (537, .ok (.aload_n 0, 1)), (538, .ok (.iload 4, 2)), (540, .ok (.iconst 1, 1)), (541, .ok (.iadd, 1)), (542, .ok (.iaload, 1)), (543, .ok (.invokevirtual 66, 3)), (546, .ok (.pop, 1)), (547, .ok (.aload_n 2, 1)), (548, .ok (.aload_n 0, 1)), (549, .ok (.iload 4, 2)), (551, .ok (.iconst 1, 1)), (552, .ok (.iadd, 1)), (553, .ok (.iaload, 1)), (554, .ok (.invokevirtual 69, 3)), (557, .ok (.pop, 1)), (558, .ok (.goto 991, 3)), (561, .ok (.aload_n 1, 1)), (562, .ok (.aload_n 0, 1)), (563, .ok (.iload 4, 2)), (565, .ok (.iconst 1, 1)), (566, .ok (.iadd, 1)), (567, .ok (.iaload, 1)), (568, .ok (.invokevirtual 70, 3))]
theorem da_429 : dl_429.all (fun q => decide (decode cL_law q.1 = q.2)) = true := by decide +kernel
theorem dL_law_512 : decode cL_law 512 = .ok (.aload_n 0, 1) := dec_of (decode cL_law) da_429 0 rfl
theorem dL_law_513 : decode cL_law 513 = .ok (.iload 4, 2) := dec_of (decode cL_law) da_429 1 rfl
theorem dL_law_515 : decode cL_law 515 = .ok (.iconst 1, 1) := dec_of (decode cL_law) da_429 2 rfl
theorem dL_law_516 : decode cL_law 516 = .ok (.iadd, 1) := dec_of (decode cL_law) da_429 3 rfl
theorem dL_law_517 : decode cL_law 517 = .ok (.iaload, 1) := dec_of (decode cL_law) da_429 4 rfl
theorem dL_law_518 : decode cL_law 518 = .ok (.invokevirtual 62, 3) := dec_of (decode cL_law) da_429 5 rfl
theorem dL_law_521 : decode cL_law 521 = .ok (.pop, 1) := dec_of (decode cL_law) da_429 6 rfl
theorem dL_law_522 : decode cL_law 522 = .ok (.aload_n 2, 1) := dec_of (decode cL_law) da_429 7 rfl
theorem dL_law_523 : decode cL_law 523 = .ok (.aload_n 0, 1) := dec_of (decode cL_law) da_429 8 rfl
theorem dL_law_524 : decode cL_law 524 = .ok (.iload 4, 2) := dec_of (decode cL_law) da_429 9 rfl
theorem dL_law_526 : decode cL_law 526 = .ok (.iconst 1, 1) := dec_of (decode cL_law) da_429 10 rfl
theorem dL_law_527 : decode cL_law 527 = .ok (.iadd, 1) := dec_of (decode cL_law) da_429 11 rfl
theorem dL_law_528 : decode cL_law 528 = .ok (.iaload, 1) := dec_of (decode cL_law) da_429 12 rfl
theorem dL_law_529 : decode cL_law 529 = .ok (.invokevirtual 65, 3) := dec_of (decode cL_law) da_429 13 rfl
theorem dL_law_532 : decode cL_law 532 = .ok (.pop, 1) := dec_of (decode cL_law) da_429 14 rfl
theorem dL_law_533 : decode cL_law 533 = .ok (.goto 1016, 3) := dec_of (decode cL_law) da_429 15 rfl
theorem dL_law_536 : decode cL_law 536 = .ok (.aload_n 1, 1) := dec_of (decode cL_law) da_429 16 rfl
theorem dL_law_537 : decode cL_law 537 = .ok (.aload_n 0, 1) := dec_of (decode cL_law) da_429 17 rfl
theorem dL_law_538 : decode cL_law 538 = .ok (.iload 4, 2) := dec_of (decode cL_law) da_429 18 rfl
theorem dL_law_540 : decode cL_law 540 = .ok (.iconst 1, 1) := dec_of (decode cL_law) da_429 19 rfl
theorem dL_law_541 : decode cL_law 541 = .ok (.iadd, 1) := dec_of (decode cL_law) da_429 20 rfl
theorem dL_law_542 : decode cL_law 542 = .ok (.iaload, 1) := dec_of (decode cL_law) da_429 21 rfl
theorem dL_law_543 : decode cL_law 543 = .ok (.invokevirtual 66, 3) := dec_of (decode cL_law) da_429 22 rfl
theorem dL_law_546 : decode cL_law 546 = .ok (.pop, 1) := dec_of (decode cL_law) da_429 23 rfl
theorem dL_law_547 : decode cL_law 547 = .ok (.aload_n 2, 1) := dec_of (decode cL_law) da_429 24 rfl
theorem dL_law_548 : decode cL_law 548 = .ok (.aload_n 0, 1) := dec_of (decode cL_law) da_429 25 rfl
theorem dL_law_549 : decode cL_law 549 = .ok (.iload 4, 2) := dec_of (decode cL_law) da_429 26 rfl
theorem dL_law_551 : decode cL_law 551 = .ok (.iconst 1, 1) := dec_of (decode cL_law) da_429 27 rfl
theorem dL_law_552 : decode cL_law 552 = .ok (.iadd, 1) := dec_of (decode cL_law) da_429 28 rfl
theorem dL_law_553 : decode cL_law 553 = .ok (.iaload, 1) := dec_of (decode cL_law) da_429 29 rfl
theorem dL_law_554 : decode cL_law 554 = .ok (.invokevirtual 69, 3) := dec_of (decode cL_law) da_429 30 rfl
theorem dL_law_557 : decode cL_law 557 = .ok (.pop, 1) := dec_of (decode cL_law) da_429 31 rfl
theorem dL_law_558 : decode cL_law 558 = .ok (.goto 991, 3) := dec_of (decode cL_law) da_429 32 rfl
theorem dL_law_561 : decode cL_law 561 = .ok (.aload_n 1, 1) := dec_of (decode cL_law) da_429 33 rfl
theorem dL_law_562 : decode cL_law 562 = .ok (.aload_n 0, 1) := dec_of (decode cL_law) da_429 34 rfl
theorem dL_law_563 : decode cL_law 563 = .ok (.iload 4, 2) := dec_of (decode cL_law) da_429 35 rfl
theorem dL_law_565 : decode cL_law 565 = .ok (.iconst 1, 1) := dec_of (decode cL_law) da_429 36 rfl
theorem dL_law_566 : decode cL_law 566 = .ok (.iadd, 1) := dec_of (decode cL_law) da_429 37 rfl
theorem dL_law_567 : decode cL_law 567 = .ok (.iaload, 1) := dec_of (decode cL_law) da_429 38 rfl
theorem dL_law_568 : decode cL_law 568 = .ok (.invokevirtual 70, 3) := dec_of (decode cL_law) da_429 39 rfl
abbrev dl_430 : List (Nat × Except DecodeError (Instr × Nat)) := [(571, .ok (.pop, 1)), (572, .ok (.aload_n 2, 1)), (573, .ok (.aload_n 0, 1)), (574, .ok (.iload 4, 2)), (576, .ok (.iconst 1, 1)), (577, .ok (.iadd, 1)), (578, .ok (.iaload, 1)), (579, .ok (.invokevirtual 74, 3)), (582, .ok (.pop, 1)), (583, .ok (.goto 966, 3)), (586, .ok (.aload_n 1, 1)), (587, .ok (.aload_n 0, 1)), (588, .ok (.iload 4, 2)), (590, .ok (.iconst 1, 1)), (591, .ok (.iadd, 1)), (592, .ok (.iaload, 1)), (593, .ok (.aload_n 0, 1)), (594, .ok (.iload 4, 2)), (596, .ok (.iconst 2, 1)), (597, .ok (.iadd, 1)), (598, .ok (.iaload, 1)), (599, .ok (.aload_n 0, 1)), (600, .ok (.iload 4, 2)), (602, .ok (.iconst 3, 1)), (603, .ok (.iadd, 1)), (604, .ok (.iaload, 1)), (605, .ok (.invokevirtual 75, 3)), (608, .ok (.pop, 1)), (609, .ok (.aload_n 2, 1)), (610, .ok (.aload_n 0, 1)), (611, .ok (.iload 4, 2)), (613, .ok (.iconst 1, 1)), (614, .ok (.iadd, 1)), (615, .ok (.iaload, 1)), (616, .ok (.aload_n 0, 1)), (617, .ok (.iload 4, 2)), (619, .ok (.iconst 2, 1)), (620, .ok (.iadd, 1)), (621, .ok (.iaload, 1)), (622, .ok (.aload_n 0, 1))]
theorem da_430 : dl_430.all (fun q => decide (decode cL_law q.1 = q.2)) = true := by decide +kernel
theorem dL_law_571 : decode cL_law 571 = .ok (.pop, 1) := dec_of (decode cL_law) da_430 0 rfl
theorem dL_law_572 : decode cL_law 572 = .ok (.aload_n 2, 1) := dec_of (decode cL_law) da_430 1 rfl
theorem dL_law_573 : decode cL_law 573 = .ok (.aload_n 0, 1) := dec_of (decode cL_law) da_430 2 rfl
theorem dL_law_574 : decode cL_law 574 = .ok (.iload 4, 2) := dec_of (decode cL_law) da_430 3 rfl
theorem dL_law_576 : decode cL_law 576 = .ok (.iconst 1, 1) := dec_of (decode cL_law) da_430 4 rfl
theorem dL_law_577 : decode cL_law 577 = .ok (.iadd, 1) := dec_of (decode cL_law) da_430 5 rfl
theorem dL_law_578 : decode cL_law 578 = .ok (.iaload, 1) := dec_of (decode cL_law) da_430 6 rfl
theorem dL_law_579 : decode cL_law 579 = .ok (.invokevirtual 74, 3) := dec_of (decode cL_law) da_430 7 rfl
theorem dL_law_582 : decode cL_law 582 = .ok (.pop, 1) := dec_of (decode cL_law) da_430 8 rfl
theorem dL_law_583 : decode cL_law 583 = .ok (.goto 966, 3) := dec_of (decode cL_law) da_430 9 rfl
theorem dL_law_586 : decode cL_law 586 = .ok (.aload_n 1, 1) := dec_of (decode cL_law) da_430 10 rfl
theorem dL_law_587 : decode cL_law 587 = .ok (.aload_n 0, 1) := dec_of (decode cL_law) da_430 11 rfl
theorem dL_law_588 : decode cL_law 588 = .ok (.iload 4, 2) := dec_of (decode cL_law) da_430 12 rfl
theorem dL_law_590 : decode cL_law 590 = .ok (.iconst 1, 1) := dec_of (decode cL_law) da_430 13 rfl
theorem dL_law_591 : decode cL_law 591 = .ok (.iadd, 1) := dec_of (decode cL_law) da_430 14 rfl
theorem dL_law_592 : decode cL_law 592 = .ok (.iaload, 1) := dec_of (decode cL_law) da_430 15 rfl
theorem dL_law_593 : decode cL_law 593 = .ok (.aload_n 0, 1) := dec_of (decode cL_law) da_430 16 rfl
theorem dL_law_594 : decode cL_law 594 = .ok (.iload 4, 2) := dec_of (decode cL_law) da_430 17 rfl
theorem dL_law_596 : decode cL_law 596 = .ok (.iconst 2, 1) := dec_of (decode cL_law) da_430 18 rfl
theorem dL_law_597 : decode cL_law 597 = .ok (.iadd, 1) := dec_of (decode cL_law) da_430 19 rfl
theorem dL_law_598 : decode cL_law 598 = .ok (.iaload, 1) := dec_of (decode cL_law) da_430 20 rfl
theorem dL_law_599 : decode cL_law 599 = .ok (.aload_n 0, 1) := dec_of (decode cL_law) da_430 21 rfl
theorem dL_law_600 : decode cL_law 600 = .ok (.iload 4, 2) := dec_of (decode cL_law) da_430 22 rfl
theorem dL_law_602 : decode cL_law 602 = .ok (.iconst 3, 1) := dec_of (decode cL_law) da_430 23 rfl
theorem dL_law_603 : decode cL_law 603 = .ok (.iadd, 1) := dec_of (decode cL_law) da_430 24 rfl
theorem dL_law_604 : decode cL_law 604 = .ok (.iaload, 1) := dec_of (decode cL_law) da_430 25 rfl
theorem dL_law_605 : decode cL_law 605 = .ok (.invokevirtual 75, 3) := dec_of (decode cL_law) da_430 26 rfl
theorem dL_law_608 : decode cL_law 608 = .ok (.pop, 1) := dec_of (decode cL_law) da_430 27 rfl
theorem dL_law_609 : decode cL_law 609 = .ok (.aload_n 2, 1) := dec_of (decode cL_law) da_430 28 rfl
theorem dL_law_610 : decode cL_law 610 = .ok (.aload_n 0, 1) := dec_of (decode cL_law) da_430 29 rfl
theorem dL_law_611 : decode cL_law 611 = .ok (.iload 4, 2) := dec_of (decode cL_law) da_430 30 rfl
theorem dL_law_613 : decode cL_law 613 = .ok (.iconst 1, 1) := dec_of (decode cL_law) da_430 31 rfl
theorem dL_law_614 : decode cL_law 614 = .ok (.iadd, 1) := dec_of (decode cL_law) da_430 32 rfl
theorem dL_law_615 : decode cL_law 615 = .ok (.iaload, 1) := dec_of (decode cL_law) da_430 33 rfl
theorem dL_law_616 : decode cL_law 616 = .ok (.aload_n 0, 1) := dec_of (decode cL_law) da_430 34 rfl
theorem dL_law_617 : decode cL_law 617 = .ok (.iload 4, 2) := dec_of (decode cL_law) da_430 35 rfl
theorem dL_law_619 : decode cL_law 619 = .ok (.iconst 2, 1) := dec_of (decode cL_law) da_430 36 rfl
theorem dL_law_620 : decode cL_law 620 = .ok (.iadd, 1) := dec_of (decode cL_law) da_430 37 rfl
theorem dL_law_621 : decode cL_law 621 = .ok (.iaload, 1) := dec_of (decode cL_law) da_430 38 rfl
theorem dL_law_622 : decode cL_law 622 = .ok (.aload_n 0, 1) := dec_of (decode cL_law) da_430 39 rfl
abbrev dl_431 : List (Nat × Except DecodeError (Instr × Nat)) := [(623, .ok (.iload 4, 2)), (625, .ok (.iconst 3, 1)), (626, .ok (.iadd, 1)), (627, .ok (.iaload, 1)), (628, .ok (.invokevirtual 79, 3)), (631, .ok (.pop, 1)), (632, .ok (.goto 917, 3)), (635, .ok (.aload_n 1, 1)), (636, .ok (.aload_n 0, 1)), (637, .ok (.iload 4, 2)), (639, .ok (.iconst 1, 1)), (640, .ok (.iadd, 1)), (641, .ok (.iaload, 1)), (642, .ok (.aload_n 0, 1)), (643, .ok (.iload 4, 2)), (645, .ok (.iconst 2, 1)), (646, .ok (.iadd, 1)), (647, .ok (.iaload, 1)), (648, .ok (.invokevirtual 80, 3)), (651, .ok (.pop, 1)), (652, .ok (.aload_n 2, 1)), (653, .ok (.aload_n 0, 1)), (654, .ok (.iload 4, 2)), (656, .ok (.iconst 1, 1)), (657, .ok (.iadd, 1)), (658, .ok (.iaload, 1)), (659, .ok (.aload_n 0, 1)), (660, .ok (.iload 4, 2)), (662, .ok (.iconst 2, 1)), (663, .ok (.iadd, 1)), (664, .ok (.iaload, 1)), (665, .ok (.invokevirtual 84, 3)), (668, .ok (.pop, 1)), (669, .ok (.goto 880, 3)), (672, .ok (.aload_n 1, 1)), (673, .ok (.aload_n 0, 1)), (674, .ok (.iload 4, 2)), (676, .ok (.iconst 1, 1)), (677, .ok (.iadd, 1)), (678, .ok (.iaload, 1))]
theorem da_431 : dl_431.all (fun q => decide (decode cL_law q.1 = q.2)) = true := by decide +kernel
theorem dL_law_623 : decode cL_law 623 = .ok (.iload 4, 2) := dec_of (decode cL_law) da_431 0 rfl
theorem dL_law_625 : decode cL_law 625 = .ok (.iconst 3, 1) := dec_of (decode cL_law) da_431 1 rfl
theorem dL_law_626 : decode cL_law 626 = .ok (.iadd, 1) := dec_of (decode cL_law) da_431 2 rfl
theorem dL_law_627 : decode cL_law 627 = .ok (.iaload, 1) := dec_of (decode cL_law) da_431 3 rfl
theorem dL_law_628 : decode cL_law 628 = .ok (.invokevirtual 79, 3) := dec_of (decode cL_law) da_431 4 rfl
theorem dL_law_631 : decode cL_law 631 = .ok (.pop, 1) := dec_of (decode cL_law) da_431 5 rfl
theorem dL_law_632 : decode cL_law 632 = .ok (.goto 917, 3) := dec_of (decode cL_law) da_431 6 rfl
theorem dL_law_635 : decode cL_law 635 = .ok (.aload_n 1, 1) := dec_of (decode cL_law) da_431 7 rfl
theorem dL_law_636 : decode cL_law 636 = .ok (.aload_n 0, 1) := dec_of (decode cL_law) da_431 8 rfl
theorem dL_law_637 : decode cL_law 637 = .ok (.iload 4, 2) := dec_of (decode cL_law) da_431 9 rfl
theorem dL_law_639 : decode cL_law 639 = .ok (.iconst 1, 1) := dec_of (decode cL_law) da_431 10 rfl
theorem dL_law_640 : decode cL_law 640 = .ok (.iadd, 1) := dec_of (decode cL_law) da_431 11 rfl
theorem dL_law_641 : decode cL_law 641 = .ok (.iaload, 1) := dec_of (decode cL_law) da_431 12 rfl
theorem dL_law_642 : decode cL_law 642 = .ok (.aload_n 0, 1) := dec_of (decode cL_law) da_431 13 rfl
theorem dL_law_643 : decode cL_law 643 = .ok (.iload 4, 2) := dec_of (decode cL_law) da_431 14 rfl
theorem dL_law_645 : decode cL_law 645 = .ok (.iconst 2, 1) := dec_of (decode cL_law) da_431 15 rfl
theorem dL_law_646 : decode cL_law 646 = .ok (.iadd, 1) := dec_of (decode cL_law) da_431 16 rfl
theorem dL_law_647 : decode cL_law 647 = .ok (.iaload, 1) := dec_of (decode cL_law) da_431 17 rfl
theorem dL_law_648 : decode cL_law 648 = .ok (.invokevirtual 80, 3) := dec_of (decode cL_law) da_431 18 rfl
theorem dL_law_651 : decode cL_law 651 = .ok (.pop, 1) := dec_of (decode cL_law) da_431 19 rfl
theorem dL_law_652 : decode cL_law 652 = .ok (.aload_n 2, 1) := dec_of (decode cL_law) da_431 20 rfl
theorem dL_law_653 : decode cL_law 653 = .ok (.aload_n 0, 1) := dec_of (decode cL_law) da_431 21 rfl
theorem dL_law_654 : decode cL_law 654 = .ok (.iload 4, 2) := dec_of (decode cL_law) da_431 22 rfl
theorem dL_law_656 : decode cL_law 656 = .ok (.iconst 1, 1) := dec_of (decode cL_law) da_431 23 rfl
theorem dL_law_657 : decode cL_law 657 = .ok (.iadd, 1) := dec_of (decode cL_law) da_431 24 rfl
theorem dL_law_658 : decode cL_law 658 = .ok (.iaload, 1) := dec_of (decode cL_law) da_431 25 rfl
theorem dL_law_659 : decode cL_law 659 = .ok (.aload_n 0, 1) := dec_of (decode cL_law) da_431 26 rfl
theorem dL_law_660 : decode cL_law 660 = .ok (.iload 4, 2) := dec_of (decode cL_law) da_431 27 rfl
theorem dL_law_662 : decode cL_law 662 = .ok (.iconst 2, 1) := dec_of (decode cL_law) da_431 28 rfl
theorem dL_law_663 : decode cL_law 663 = .ok (.iadd, 1) := dec_of (decode cL_law) da_431 29 rfl
theorem dL_law_664 : decode cL_law 664 = .ok (.iaload, 1) := dec_of (decode cL_law) da_431 30 rfl
theorem dL_law_665 : decode cL_law 665 = .ok (.invokevirtual 84, 3) := dec_of (decode cL_law) da_431 31 rfl
theorem dL_law_668 : decode cL_law 668 = .ok (.pop, 1) := dec_of (decode cL_law) da_431 32 rfl
theorem dL_law_669 : decode cL_law 669 = .ok (.goto 880, 3) := dec_of (decode cL_law) da_431 33 rfl
theorem dL_law_672 : decode cL_law 672 = .ok (.aload_n 1, 1) := dec_of (decode cL_law) da_431 34 rfl
theorem dL_law_673 : decode cL_law 673 = .ok (.aload_n 0, 1) := dec_of (decode cL_law) da_431 35 rfl
theorem dL_law_674 : decode cL_law 674 = .ok (.iload 4, 2) := dec_of (decode cL_law) da_431 36 rfl
theorem dL_law_676 : decode cL_law 676 = .ok (.iconst 1, 1) := dec_of (decode cL_law) da_431 37 rfl
theorem dL_law_677 : decode cL_law 677 = .ok (.iadd, 1) := dec_of (decode cL_law) da_431 38 rfl
theorem dL_law_678 : decode cL_law 678 = .ok (.iaload, 1) := dec_of (decode cL_law) da_431 39 rfl
abbrev dl_432 : List (Nat × Except DecodeError (Instr × Nat)) := [(679, .ok (.invokevirtual 85, 3)), (682, .ok (.pop, 1)), (683, .ok (.aload_n 2, 1)), (684, .ok (.aload_n 0, 1)), (685, .ok (.iload 4, 2)), (687, .ok (.iconst 1, 1)), (688, .ok (.iadd, 1)), (689, .ok (.iaload, 1)), (690, .ok (.invokevirtual 88, 3)), (693, .ok (.pop, 1)), (694, .ok (.goto 855, 3)), (697, .ok (.aload_n 1, 1)), (698, .ok (.aload_n 0, 1)), (699, .ok (.iload 4, 2)), (701, .ok (.iconst 1, 1)), (702, .ok (.iadd, 1)), (703, .ok (.iaload, 1)), (704, .ok (.aload_n 0, 1)), (705, .ok (.iload 4, 2)), (707, .ok (.iconst 2, 1)), (708, .ok (.iadd, 1)), (709, .ok (.iaload, 1)), (710, .ok (.invokevirtual 89, 3)), (713, .ok (.pop, 1)), (714, .ok (.aload_n 2, 1)), (715, .ok (.aload_n 0, 1)), (716, .ok (.iload 4, 2)), (718, .ok (.iconst 1, 1)), (719, .ok (.iadd, 1)), (720, .ok (.iaload, 1)), (721, .ok (.aload_n 0, 1)), (722, .ok (.iload 4, 2)), (724, .ok (.iconst 2, 1)), (725, .ok (.iadd, 1)), (726, .ok (.iaload, 1)), (727, .ok (.invokevirtual 92, 3)), (730, .ok (.pop, 1)), (731, .ok (.goto 818, 3)), (734, .ok (.aload_n 1, 1)), (735, .ok (.aload_n 0, 1))]
theorem da_432 : dl_432.all (fun q => decide (decode cL_law q.1 = q.2)) = true := by decide +kernel
theorem dL_law_679 : decode cL_law 679 = .ok (.invokevirtual 85, 3) := dec_of (decode cL_law) da_432 0 rfl
theorem dL_law_682 : decode cL_law 682 = .ok (.pop, 1) := dec_of (decode cL_law) da_432 1 rfl
theorem dL_law_683 : decode cL_law 683 = .ok (.aload_n 2, 1) := dec_of (decode cL_law) da_432 2 rfl
theorem dL_law_684 : decode cL_law 684 = .ok (.aload_n 0, 1) := dec_of (decode cL_law) da_432 3 rfl
theorem dL_law_685 : decode cL_law 685 = .ok (.iload 4, 2) := dec_of (decode cL_law) da_432 4 rfl
theorem dL_law_687 : decode cL_law 687 = .ok (.iconst 1, 1) := dec_of (decode cL_law) da_432 5 rfl
theorem dL_law_688 : decode cL_law 688 = .ok (.iadd, 1) := dec_of (decode cL_law) da_432 6 rfl
theorem dL_law_689 : decode cL_law 689 = .ok (.iaload, 1) := dec_of (decode cL_law) da_432 7 rfl
theorem dL_law_690 : decode cL_law 690 = .ok (.invokevirtual 88, 3) := dec_of (decode cL_law) da_432 8 rfl
theorem dL_law_693 : decode cL_law 693 = .ok (.pop, 1) := dec_of (decode cL_law) da_432 9 rfl
theorem dL_law_694 : decode cL_law 694 = .ok (.goto 855, 3) := dec_of (decode cL_law) da_432 10 rfl
theorem dL_law_697 : decode cL_law 697 = .ok (.aload_n 1, 1) := dec_of (decode cL_law) da_432 11 rfl
theorem dL_law_698 : decode cL_law 698 = .ok (.aload_n 0, 1) := dec_of (decode cL_law) da_432 12 rfl
theorem dL_law_699 : decode cL_law 699 = .ok (.iload 4, 2) := dec_of (decode cL_law) da_432 13 rfl
theorem dL_law_701 : decode cL_law 701 = .ok (.iconst 1, 1) := dec_of (decode cL_law) da_432 14 rfl
theorem dL_law_702 : decode cL_law 702 = .ok (.iadd, 1) := dec_of (decode cL_law) da_432 15 rfl
theorem dL_law_703 : decode cL_law 703 = .ok (.iaload, 1) := dec_of (decode cL_law) da_432 16 rfl
theorem dL_law_704 : decode cL_law 704 = .ok (.aload_n 0, 1) := dec_of (decode cL_law) da_432 17 rfl
theorem dL_law_705 : decode cL_law 705 = .ok (.iload 4, 2) := dec_of (decode cL_law) da_432 18 rfl
theorem dL_law_707 : decode cL_law 707 = .ok (.iconst 2, 1) := dec_of (decode cL_law) da_432 19 rfl
theorem dL_law_708 : decode cL_law 708 = .ok (.iadd, 1) := dec_of (decode cL_law) da_432 20 rfl
theorem dL_law_709 : decode cL_law 709 = .ok (.iaload, 1) := dec_of (decode cL_law) da_432 21 rfl
theorem dL_law_710 : decode cL_law 710 = .ok (.invokevirtual 89, 3) := dec_of (decode cL_law) da_432 22 rfl
theorem dL_law_713 : decode cL_law 713 = .ok (.pop, 1) := dec_of (decode cL_law) da_432 23 rfl
theorem dL_law_714 : decode cL_law 714 = .ok (.aload_n 2, 1) := dec_of (decode cL_law) da_432 24 rfl
theorem dL_law_715 : decode cL_law 715 = .ok (.aload_n 0, 1) := dec_of (decode cL_law) da_432 25 rfl
theorem dL_law_716 : decode cL_law 716 = .ok (.iload 4, 2) := dec_of (decode cL_law) da_432 26 rfl
theorem dL_law_718 : decode cL_law 718 = .ok (.iconst 1, 1) := dec_of (decode cL_law) da_432 27 rfl
theorem dL_law_719 : decode cL_law 719 = .ok (.iadd, 1) := dec_of (decode cL_law) da_432 28 rfl
theorem dL_law_720 : decode cL_law 720 = .ok (.iaload, 1) := dec_of (decode cL_law) da_432 29 rfl
theorem dL_law_721 : decode cL_law 721 = .ok (.aload_n 0, 1) := dec_of (decode cL_law) da_432 30 rfl
theorem dL_law_722 : decode cL_law 722 = .ok (.iload 4, 2) := dec_of (decode cL_law) da_432 31 rfl
theorem dL_law_724 : decode cL_law 724 = .ok (.iconst 2, 1) := dec_of (decode cL_law) da_432 32 rfl
theorem dL_law_725 : decode cL_law 725 = .ok (.iadd, 1) := dec_of (decode cL_law) da_432 33 rfl
theorem dL_law_726 : decode cL_law 726 = .ok (.iaload, 1) := dec_of (decode cL_law) da_432 34 rfl
theorem dL_law_727 : decode cL_law 727 = .ok (.invokevirtual 92, 3) := dec_of (decode cL_law) da_432 35 rfl
theorem dL_law_730 : decode cL_law 730 = .ok (.pop, 1) := dec_of (decode cL_law) da_432 36 rfl
theorem dL_law_731 : decode cL_law 731 = .ok (.goto 818, 3) := dec_of (decode cL_law) da_432 37 rfl
theorem dL_law_734 : decode cL_law 734 = .ok (.aload_n 1, 1) := dec_of (decode cL_law) da_432 38 rfl
theorem dL_law_735 : decode cL_law 735 = .ok (.aload_n 0, 1) := dec_of (decode cL_law) da_432 39 rfl
abbrev dl_433 : List (Nat × Except DecodeError (Instr × Nat)) := [(736, .ok (.iload 4, 2)), (738, .ok (.iconst 1, 1)), (739, .ok (.iadd, 1)), (740, .ok (.iaload, 1)), (741, .ok (.aload_n 0, 1)), (742, .ok (.iload 4, 2)), (744, .ok (.iconst 2, 1)), (745, .ok (.iadd, 1)), (746, .ok (.iaload, 1)), (747, .ok (.invokevirtual 93, 3)), (750, .ok (.pop, 1)), (751, .ok (.aload_n 2, 1)), (752, .ok (.aload_n 0, 1)), (753, .ok (.iload 4, 2)), (755, .ok (.iconst 1, 1)), (756, .ok (.iadd, 1)), (757, .ok (.iaload, 1)), (758, .ok (.aload_n 0, 1)), (759, .ok (.iload 4, 2)), (761, .ok (.iconst 2, 1)), (762, .ok (.iadd, 1)), (763, .ok (.iaload, 1)), (764, .ok (.invokevirtual 96, 3)), (767, .ok (.pop, 1)), (768, .ok (.goto 781, 3)), (771, .ok (.aload_n 1, 1)), (772, .ok (.aload_n 0, 1)), (773, .ok (.iload 4, 2)), (775, .ok (.iconst 1, 1)), (776, .ok (.iadd, 1)), (777, .ok (.iaload, 1)), (778, .ok (.aload_n 0, 1)), (779, .ok (.iload 4, 2)), (781, .ok (.iconst 2, 1)), (782, .ok (.iadd, 1)), (783, .ok (.iaload, 1)), (784, .ok (.invokevirtual 97, 3)), (787, .ok (.pop, 1)), (788, .ok (.aload_n 2, 1)), (789, .ok (.aload_n 0, 1))]
theorem da_433 : dl_433.all (fun q => decide (decode cL_law q.1 = q.2)) = true := by decide +kernel
theorem dL_law_736 : decode cL_law 736 = .ok (.iload 4, 2) := dec_of (decode cL_law) da_433 0 rfl
theorem dL_law_738 : decode cL_law 738 = .ok (.iconst 1, 1) := dec_of (decode cL_law) da_433 1 rfl
theorem dL_law_739 : decode cL_law 739 = .ok (.iadd, 1) := dec_of (decode cL_law) da_433 2 rfl
theorem dL_law_740 : decode cL_law 740 = .ok (.iaload, 1) := dec_of (decode cL_law) da_433 3 rfl
theorem dL_law_741 : decode cL_law 741 = .ok (.aload_n 0, 1) := dec_of (decode cL_law) da_433 4 rfl
theorem dL_law_742 : decode cL_law 742 = .ok (.iload 4, 2) := dec_of (decode cL_law) da_433 5 rfl
theorem dL_law_744 : decode cL_law 744 = .ok (.iconst 2, 1) := dec_of (decode cL_law) da_433 6 rfl
theorem dL_law_745 : decode cL_law 745 = .ok (.iadd, 1) := dec_of (decode cL_law) da_433 7 rfl
theorem dL_law_746 : decode cL_law 746 = .ok (.iaload, 1) := dec_of (decode cL_law) da_433 8 rfl
theorem dL_law_747 : decode cL_law 747 = .ok (.invokevirtual 93, 3) := dec_of (decode cL_law) da_433 9 rfl
theorem dL_law_750 : decode cL_law 750 = .ok (.pop, 1) := dec_of (decode cL_law) da_433 10 rfl
theorem dL_law_751 : decode cL_law 751 = .ok (.aload_n 2, 1) := dec_of (decode cL_law) da_433 11 rfl
theorem dL_law_752 : decode cL_law 752 = .ok (.aload_n 0, 1) := dec_of (decode cL_law) da_433 12 rfl
theorem dL_law_753 : decode cL_law 753 = .ok (.iload 4, 2) := dec_of (decode cL_law) da_433 13 rfl
theorem dL_law_755 : decode cL_law 755 = .ok (.iconst 1, 1) := dec_of (decode cL_law) da_433 14 rfl
theorem dL_law_756 : decode cL_law 756 = .ok (.iadd, 1) := dec_of (decode cL_law) da_433 15 rfl
theorem dL_law_757 : decode cL_law 757 = .ok (.iaload, 1) := dec_of (decode cL_law) da_433 16 rfl
theorem dL_law_758 : decode cL_law 758 = .ok (.aload_n 0, 1) := dec_of (decode cL_law) da_433 17 rfl
theorem dL_law_759 : decode cL_law 759 = .ok (.iload 4, 2) := dec_of (decode cL_law) da_433 18 rfl
theorem dL_law_761 : decode cL_law 761 = .ok (.iconst 2, 1) := dec_of (decode cL_law) da_433 19 rfl
theorem dL_law_762 : decode cL_law 762 = .ok (.iadd, 1) := dec_of (decode cL_law) da_433 20 rfl
theorem dL_law_763 : decode cL_law 763 = .ok (.iaload, 1) := dec_of (decode cL_law) da_433 21 rfl
theorem dL_law_764 : decode cL_law 764 = .ok (.invokevirtual 96, 3) := dec_of (decode cL_law) da_433 22 rfl
theorem dL_law_767 : decode cL_law 767 = .ok (.pop, 1) := dec_of (decode cL_law) da_433 23 rfl
theorem dL_law_768 : decode cL_law 768 = .ok (.goto 781, 3) := dec_of (decode cL_law) da_433 24 rfl
theorem dL_law_771 : decode cL_law 771 = .ok (.aload_n 1, 1) := dec_of (decode cL_law) da_433 25 rfl
theorem dL_law_772 : decode cL_law 772 = .ok (.aload_n 0, 1) := dec_of (decode cL_law) da_433 26 rfl
theorem dL_law_773 : decode cL_law 773 = .ok (.iload 4, 2) := dec_of (decode cL_law) da_433 27 rfl
theorem dL_law_775 : decode cL_law 775 = .ok (.iconst 1, 1) := dec_of (decode cL_law) da_433 28 rfl
theorem dL_law_776 : decode cL_law 776 = .ok (.iadd, 1) := dec_of (decode cL_law) da_433 29 rfl
theorem dL_law_777 : decode cL_law 777 = .ok (.iaload, 1) := dec_of (decode cL_law) da_433 30 rfl
theorem dL_law_778 : decode cL_law 778 = .ok (.aload_n 0, 1) := dec_of (decode cL_law) da_433 31 rfl
theorem dL_law_779 : decode cL_law 779 = .ok (.iload 4, 2) := dec_of (decode cL_law) da_433 32 rfl
theorem dL_law_781 : decode cL_law 781 = .ok (.iconst 2, 1) := dec_of (decode cL_law) da_433 33 rfl
theorem dL_law_782 : decode cL_law 782 = .ok (.iadd, 1) := dec_of (decode cL_law) da_433 34 rfl
theorem dL_law_783 : decode cL_law 783 = .ok (.iaload, 1) := dec_of (decode cL_law) da_433 35 rfl
theorem dL_law_784 : decode cL_law 784 = .ok (.invokevirtual 97, 3) := dec_of (decode cL_law) da_433 36 rfl
theorem dL_law_787 : decode cL_law 787 = .ok (.pop, 1) := dec_of (decode cL_law) da_433 37 rfl
theorem dL_law_788 : decode cL_law 788 = .ok (.aload_n 2, 1) := dec_of (decode cL_law) da_433 38 rfl
theorem dL_law_789 : decode cL_law 789 = .ok (.aload_n 0, 1) := dec_of (decode cL_law) da_433 39 rfl
abbrev dl_434 : List (Nat × Except DecodeError (Instr × Nat)) := [(790, .ok (.iload 4, 2)), (792, .ok (.iconst 1, 1)), (793, .ok (.iadd, 1)), (794, .ok (.iaload, 1)), (795, .ok (.aload_n 0, 1)), (796, .ok (.iload 4, 2)), (798, .ok (.iconst 2, 1)), (799, .ok (.iadd, 1)), (800, .ok (.iaload, 1)), (801, .ok (.invokevirtual 100, 3)), (804, .ok (.pop, 1)), (805, .ok (.goto 744, 3)), (808, .ok (.aload_n 1, 1)), (809, .ok (.aload_n 0, 1)), (810, .ok (.iload 4, 2)), (812, .ok (.iconst 1, 1)), (813, .ok (.iadd, 1)), (814, .ok (.iaload, 1)), (815, .ok (.invokevirtual 101, 3)), (818, .ok (.pop, 1)), (819, .ok (.aload_n 2, 1)), (820, .ok (.aload_n 0, 1)), (821, .ok (.iload 4, 2)), (823, .ok (.iconst 1, 1)), (824, .ok (.iadd, 1)), (825, .ok (.iaload, 1)), (826, .ok (.invokevirtual 104, 3)), (829, .ok (.pop, 1)), (830, .ok (.goto 719, 3)), (833, .ok (.aload_n 1, 1)), (834, .ok (.aload_n 0, 1)), (835, .ok (.iload 4, 2)), (837, .ok (.iconst 1, 1)), (838, .ok (.iadd, 1)), (839, .ok (.iaload, 1)), (840, .ok (.aload_n 0, 1)), (841, .ok (.iload 4, 2)), (843, .ok (.iconst 2, 1)), (844, .ok (.iadd, 1)), (845, .ok (.iaload, 1))]
theorem da_434 : dl_434.all (fun q => decide (decode cL_law q.1 = q.2)) = true := by decide +kernel
theorem dL_law_790 : decode cL_law 790 = .ok (.iload 4, 2) := dec_of (decode cL_law) da_434 0 rfl
theorem dL_law_792 : decode cL_law 792 = .ok (.iconst 1, 1) := dec_of (decode cL_law) da_434 1 rfl
theorem dL_law_793 : decode cL_law 793 = .ok (.iadd, 1) := dec_of (decode cL_law) da_434 2 rfl
theorem dL_law_794 : decode cL_law 794 = .ok (.iaload, 1) := dec_of (decode cL_law) da_434 3 rfl
theorem dL_law_795 : decode cL_law 795 = .ok (.aload_n 0, 1) := dec_of (decode cL_law) da_434 4 rfl
theorem dL_law_796 : decode cL_law 796 = .ok (.iload 4, 2) := dec_of (decode cL_law) da_434 5 rfl
theorem dL_law_798 : decode cL_law 798 = .ok (.iconst 2, 1) := dec_of (decode cL_law) da_434 6 rfl
theorem dL_law_799 : decode cL_law 799 = .ok (.iadd, 1) := dec_of (decode cL_law) da_434 7 rfl
theorem dL_law_800 : decode cL_law 800 = .ok (.iaload, 1) := dec_of (decode cL_law) da_434 8 rfl
theorem dL_law_801 : decode cL_law 801 = .ok (.invokevirtual 100, 3) := dec_of (decode cL_law) da_434 9 rfl
theorem dL_law_804 : decode cL_law 804 = .ok (.pop, 1) := dec_of (decode cL_law) da_434 10 rfl
theorem dL_law_805 : decode cL_law 805 = .ok (.goto 744, 3) := dec_of (decode cL_law) da_434 11 rfl
theorem dL_law_808 : decode cL_law 808 = .ok (.aload_n 1, 1) := dec_of (decode cL_law) da_434 12 rfl
theorem dL_law_809 : decode cL_law 809 = .ok (.aload_n 0, 1) := dec_of (decode cL_law) da_434 13 rfl
theorem dL_law_810 : decode cL_law 810 = .ok (.iload 4, 2) := dec_of (decode cL_law) da_434 14 rfl
theorem dL_law_812 : decode cL_law 812 = .ok (.iconst 1, 1) := dec_of (decode cL_law) da_434 15 rfl
theorem dL_law_813 : decode cL_law 813 = .ok (.iadd, 1) := dec_of (decode cL_law) da_434 16 rfl
theorem dL_law_814 : decode cL_law 814 = .ok (.iaload, 1) := dec_of (decode cL_law) da_434 17 rfl
theorem dL_law_815 : decode cL_law 815 = .ok (.invokevirtual 101, 3) := dec_of (decode cL_law) da_434 18 rfl
theorem dL_law_818 : decode cL_law 818 = .ok (.pop, 1) := dec_of (decode cL_law) da_434 19 rfl
theorem dL_law_819 : decode cL_law 819 = .ok (.aload_n 2, 1) := dec_of (decode cL_law) da_434 20 rfl
theorem dL_law_820 : decode cL_law 820 = .ok (.aload_n 0, 1) := dec_of (decode cL_law) da_434 21 rfl
theorem dL_law_821 : decode cL_law 821 = .ok (.iload 4, 2) := dec_of (decode cL_law) da_434 22 rfl
theorem dL_law_823 : decode cL_law 823 = .ok (.iconst 1, 1) := dec_of (decode cL_law) da_434 23 rfl
theorem dL_law_824 : decode cL_law 824 = .ok (.iadd, 1) := dec_of (decode cL_law) da_434 24 rfl
theorem dL_law_825 : decode cL_law 825 = .ok (.iaload, 1) := dec_of (decode cL_law) da_434 25 rfl
theorem dL_law_826 : decode cL_law 826 = .ok (.invokevirtual 104, 3) := dec_of (decode cL_law) da_434 26 rfl
theorem dL_law_829 : decode cL_law 829 = .ok (.pop, 1) := dec_of (decode cL_law) da_434 27 rfl
theorem dL_law_830 : decode cL_law 830 = .ok (.goto 719, 3) := dec_of (decode cL_law) da_434 28 rfl
theorem dL_law_833 : decode cL_law 833 = .ok (.aload_n 1, 1) := dec_of (decode cL_law) da_434 29 rfl
theorem dL_law_834 : decode cL_law 834 = .ok (.aload_n 0, 1) := dec_of (decode cL_law) da_434 30 rfl
theorem dL_law_835 : decode cL_law 835 = .ok (.iload 4, 2) := dec_of (decode cL_law) da_434 31 rfl
theorem dL_law_837 : decode cL_law 837 = .ok (.iconst 1, 1) := dec_of (decode cL_law) da_434 32 rfl
theorem dL_law_838 : decode cL_law 838 = .ok (.iadd, 1) := dec_of (decode cL_law) da_434 33 rfl
theorem dL_law_839 : decode cL_law 839 = .ok (.iaload, 1) := dec_of (decode cL_law) da_434 34 rfl
theorem dL_law_840 : decode cL_law 840 = .ok (.aload_n 0, 1) := dec_of (decode cL_law) da_434 35 rfl
theorem dL_law_841 : decode cL_law 841 = .ok (.iload 4, 2) := dec_of (decode cL_law) da_434 36 rfl
theorem dL_law_843 : decode cL_law 843 = .ok (.iconst 2, 1) := dec_of (decode cL_law) da_434 37 rfl
theorem dL_law_844 : decode cL_law 844 = .ok (.iadd, 1) := dec_of (decode cL_law) da_434 38 rfl
theorem dL_law_845 : decode cL_law 845 = .ok (.iaload, 1) := dec_of (decode cL_law) da_434 39 rfl
abbrev dl_435 : List (Nat × Except DecodeError (Instr × Nat)) := [(846, .ok (.aload_n 0, 1)), (847, .ok (.iload 4, 2)), (849, .ok (.iconst 3, 1)), (850, .ok (.iadd, 1)), (851, .ok (.iaload, 1)), (852, .ok (.invokevirtual 105, 3)), (855, .ok (.pop, 1)), (856, .ok (.aload_n 2, 1)), (857, .ok (.aload_n 0, 1)), (858, .ok (.iload 4, 2)), (860, .ok (.iconst 1, 1)), (861, .ok (.iadd, 1)), (862, .ok (.iaload, 1)), (863, .ok (.aload_n 0, 1)), (864, .ok (.iload 4, 2)), (866, .ok (.iconst 2, 1)), (867, .ok (.iadd, 1)), (868, .ok (.iaload, 1)), (869, .ok (.aload_n 0, 1)), (870, .ok (.iload 4, 2)), (872, .ok (.iconst 3, 1)), (873, .ok (.iadd, 1)), (874, .ok (.iaload, 1)), (875, .ok (.invokevirtual 109, 3)), (878, .ok (.pop, 1)), (879, .ok (.goto 670, 3)), (882, .ok (.aload_n 1, 1)), (883, .ok (.aload_n 0, 1)), (884, .ok (.iload 4, 2)), (886, .ok (.iconst 1, 1)), (887, .ok (.iadd, 1)), (888, .ok (.iaload, 1)), (889, .ok (.aload_n 0, 1)), (890, .ok (.iload 4, 2)), (892, .ok (.iconst 2, 1)), (893, .ok (.iadd, 1)), (894, .ok (.iaload, 1)), (895, .ok (.aload_n 0, 1)), (896, .ok (.iload 4, 2)), (898, .ok (.iconst 3, 1))]
theorem da_435 : dl_435.all (fun q => decide (decode cL_law q.1 = q.2)) = true := by decide +kernel
theorem dL_law_846 : decode cL_law 846 = .ok (.aload_n 0, 1) := dec_of (decode cL_law) da_435 0 rfl
theorem dL_law_847 : decode cL_law 847 = .ok (.iload 4, 2) := dec_of (decode cL_law) da_435 1 rfl
theorem dL_law_849 : decode cL_law 849 = .ok (.iconst 3, 1) := dec_of (decode cL_law) da_435 2 rfl
theorem dL_law_850 : decode cL_law 850 = .ok (.iadd, 1) := dec_of (decode cL_law) da_435 3 rfl
theorem dL_law_851 : decode cL_law 851 = .ok (.iaload, 1) := dec_of (decode cL_law) da_435 4 rfl
theorem dL_law_852 : decode cL_law 852 = .ok (.invokevirtual 105, 3) := dec_of (decode cL_law) da_435 5 rfl
theorem dL_law_855 : decode cL_law 855 = .ok (.pop, 1) := dec_of (decode cL_law) da_435 6 rfl
theorem dL_law_856 : decode cL_law 856 = .ok (.aload_n 2, 1) := dec_of (decode cL_law) da_435 7 rfl
theorem dL_law_857 : decode cL_law 857 = .ok (.aload_n 0, 1) := dec_of (decode cL_law) da_435 8 rfl
theorem dL_law_858 : decode cL_law 858 = .ok (.iload 4, 2) := dec_of (decode cL_law) da_435 9 rfl
theorem dL_law_860 : decode cL_law 860 = .ok (.iconst 1, 1) := dec_of (decode cL_law) da_435 10 rfl
theorem dL_law_861 : decode cL_law 861 = .ok (.iadd, 1) := dec_of (decode cL_law) da_435 11 rfl
theorem dL_law_862 : decode cL_law 862 = .ok (.iaload, 1) := dec_of (decode cL_law) da_435 12 rfl
theorem dL_law_863 : decode cL_law 863 = .ok (.aload_n 0, 1) := dec_of (decode cL_law) da_435 13 rfl
theorem dL_law_864 : decode cL_law 864 = .ok (.iload 4, 2) := dec_of (decode cL_law) da_435 14 rfl
theorem dL_law_866 : decode cL_law 866 = .ok (.iconst 2, 1) := dec_of (decode cL_law) da_435 15 rfl
theorem dL_law_867 : decode cL_law 867 = .ok (.iadd, 1) := dec_of (decode cL_law) da_435 16 rfl
theorem dL_law_868 : decode cL_law 868 = .ok (.iaload, 1) := dec_of (decode cL_law) da_435 17 rfl
theorem dL_law_869 : decode cL_law 869 = .ok (.aload_n 0, 1) := dec_of (decode cL_law) da_435 18 rfl
theorem dL_law_870 : decode cL_law 870 = .ok (.iload 4, 2) := dec_of (decode cL_law) da_435 19 rfl
theorem dL_law_872 : decode cL_law 872 = .ok (.iconst 3, 1) := dec_of (decode cL_law) da_435 20 rfl
theorem dL_law_873 : decode cL_law 873 = .ok (.iadd, 1) := dec_of (decode cL_law) da_435 21 rfl
theorem dL_law_874 : decode cL_law 874 = .ok (.iaload, 1) := dec_of (decode cL_law) da_435 22 rfl
theorem dL_law_875 : decode cL_law 875 = .ok (.invokevirtual 109, 3) := dec_of (decode cL_law) da_435 23 rfl
theorem dL_law_878 : decode cL_law 878 = .ok (.pop, 1) := dec_of (decode cL_law) da_435 24 rfl
theorem dL_law_879 : decode cL_law 879 = .ok (.goto 670, 3) := dec_of (decode cL_law) da_435 25 rfl
theorem dL_law_882 : decode cL_law 882 = .ok (.aload_n 1, 1) := dec_of (decode cL_law) da_435 26 rfl
theorem dL_law_883 : decode cL_law 883 = .ok (.aload_n 0, 1) := dec_of (decode cL_law) da_435 27 rfl
theorem dL_law_884 : decode cL_law 884 = .ok (.iload 4, 2) := dec_of (decode cL_law) da_435 28 rfl
theorem dL_law_886 : decode cL_law 886 = .ok (.iconst 1, 1) := dec_of (decode cL_law) da_435 29 rfl
theorem dL_law_887 : decode cL_law 887 = .ok (.iadd, 1) := dec_of (decode cL_law) da_435 30 rfl
theorem dL_law_888 : decode cL_law 888 = .ok (.iaload, 1) := dec_of (decode cL_law) da_435 31 rfl
theorem dL_law_889 : decode cL_law 889 = .ok (.aload_n 0, 1) := dec_of (decode cL_law) da_435 32 rfl
theorem dL_law_890 : decode cL_law 890 = .ok (.iload 4, 2) := dec_of (decode cL_law) da_435 33 rfl
theorem dL_law_892 : decode cL_law 892 = .ok (.iconst 2, 1) := dec_of (decode cL_law) da_435 34 rfl
theorem dL_law_893 : decode cL_law 893 = .ok (.iadd, 1) := dec_of (decode cL_law) da_435 35 rfl
theorem dL_law_894 : decode cL_law 894 = .ok (.iaload, 1) := dec_of (decode cL_law) da_435 36 rfl
theorem dL_law_895 : decode cL_law 895 = .ok (.aload_n 0, 1) := dec_of (decode cL_law) da_435 37 rfl
theorem dL_law_896 : decode cL_law 896 = .ok (.iload 4, 2) := dec_of (decode cL_law) da_435 38 rfl
theorem dL_law_898 : decode cL_law 898 = .ok (.iconst 3, 1) := dec_of (decode cL_law) da_435 39 rfl
abbrev dl_436 : List (Nat × Except DecodeError (Instr × Nat)) := [(899, .ok (.iadd, 1)), (900, .ok (.iaload, 1)), (901, .ok (.invokevirtual 110, 3)), (904, .ok (.pop, 1)), (905, .ok (.aload_n 2, 1)), (906, .ok (.aload_n 0, 1)), (907, .ok (.iload 4, 2)), (909, .ok (.iconst 1, 1)), (910, .ok (.iadd, 1)), (911, .ok (.iaload, 1)), (912, .ok (.aload_n 0, 1)), (913, .ok (.iload 4, 2)), (915, .ok (.iconst 2, 1)), (916, .ok (.iadd, 1)), (917, .ok (.iaload, 1)), (918, .ok (.aload_n 0, 1)), (919, .ok (.iload 4, 2)), (921, .ok (.iconst 3, 1)), (922, .ok (.iadd, 1)), (923, .ok (.iaload, 1)), (924, .ok (.invokevirtual 113, 3)), (927, .ok (.pop, 1)), (928, .ok (.goto 621, 3)), (931, .ok (.aload_n 1, 1)), (932, .ok (.invokevirtual 114, 3)), (935, .ok (.pop, 1)), (936, .ok (.aload_n 2, 1)), (937, .ok (.invokevirtual 117, 3)), (940, .ok (.pop, 1)), (941, .ok (.goto 608, 3)), (944, .ok (.aload_n 1, 1)), (945, .ok (.aload_n 0, 1)), (946, .ok (.iload 4, 2)), (948, .ok (.iconst 1, 1)), (949, .ok (.iadd, 1)), (950, .ok (.iaload, 1)), (951, .ok (.aload_n 0, 1)), (952, .ok (.iload 4, 2)), (954, .ok (.iconst 2, 1)), (955, .ok (.iadd, 1))]
theorem da_436 : dl_436.all (fun q => decide (decode cL_law q.1 = q.2)) = true := by decide +kernel
theorem dL_law_899 : decode cL_law 899 = .ok (.iadd, 1) := dec_of (decode cL_law) da_436 0 rfl
theorem dL_law_900 : decode cL_law 900 = .ok (.iaload, 1) := dec_of (decode cL_law) da_436 1 rfl
theorem dL_law_901 : decode cL_law 901 = .ok (.invokevirtual 110, 3) := dec_of (decode cL_law) da_436 2 rfl
theorem dL_law_904 : decode cL_law 904 = .ok (.pop, 1) := dec_of (decode cL_law) da_436 3 rfl
theorem dL_law_905 : decode cL_law 905 = .ok (.aload_n 2, 1) := dec_of (decode cL_law) da_436 4 rfl
theorem dL_law_906 : decode cL_law 906 = .ok (.aload_n 0, 1) := dec_of (decode cL_law) da_436 5 rfl
theorem dL_law_907 : decode cL_law 907 = .ok (.iload 4, 2) := dec_of (decode cL_law) da_436 6 rfl
theorem dL_law_909 : decode cL_law 909 = .ok (.iconst 1, 1) := dec_of (decode cL_law) da_436 7 rfl
theorem dL_law_910 : decode cL_law 910 = .ok (.iadd, 1) := dec_of (decode cL_law) da_436 8 rfl
theorem dL_law_911 : decode cL_law 911 = .ok (.iaload, 1) := dec_of (decode cL_law) da_436 9 rfl
theorem dL_law_912 : decode cL_law 912 = .ok (.aload_n 0, 1) := dec_of (decode cL_law) da_436 10 rfl
theorem dL_law_913 : decode cL_law 913 = .ok (.iload 4, 2) := dec_of (decode cL_law) da_436 11 rfl
theorem dL_law_915 : decode cL_law 915 = .ok (.iconst 2, 1) := dec_of (decode cL_law) da_436 12 rfl
theorem dL_law_916 : decode cL_law 916 = .ok (.iadd, 1) := dec_of (decode cL_law) da_436 13 rfl
theorem dL_law_917 : decode cL_law 917 = .ok (.iaload, 1) := dec_of (decode cL_law) da_436 14 rfl
theorem dL_law_918 : decode cL_law 918 = .ok (.aload_n 0, 1) := dec_of (decode cL_law) da_436 15 rfl
theorem dL_law_919 : decode cL_law 919 = .ok (.iload 4, 2) := dec_of (decode cL_law) da_436 16 rfl
theorem dL_law_921 : decode cL_law 921 = .ok (.iconst 3, 1) := dec_of (decode cL_law) da_436 17 rfl
theorem dL_law_922 : decode cL_law 922 = .ok (.iadd, 1) := dec_of (decode cL_law) da_436 18 rfl
theorem dL_law_923 : decode cL_law 923 = .ok (.iaload, 1) := dec_of (decode cL_law) da_436 19 rfl
theorem dL_law_924 : decode cL_law 924 = .ok (.invokevirtual 113, 3) := dec_of (decode cL_law) da_436 20 rfl
theorem dL_law_927 : decode cL_law 927 = .ok (.pop, 1) := dec_of (decode cL_law) da_436 21 rfl
theorem dL_law_928 : decode cL_law 928 = .ok (.goto 621, 3) := dec_of (decode cL_law) da_436 22 rfl
theorem dL_law_931 : decode cL_law 931 = .ok (.aload_n 1, 1) := dec_of (decode cL_law) da_436 23 rfl
theorem dL_law_932 : decode cL_law 932 = .ok (.invokevirtual 114, 3) := dec_of (decode cL_law) da_436 24 rfl
theorem dL_law_935 : decode cL_law 935 = .ok (.pop, 1) := dec_of (decode cL_law) da_436 25 rfl
theorem dL_law_936 : decode cL_law 936 = .ok (.aload_n 2, 1) := dec_of (decode cL_law) da_436 26 rfl
theorem dL_law_937 : decode cL_law 937 = .ok (.invokevirtual 117, 3) := dec_of (decode cL_law) da_436 27 rfl
theorem dL_law_940 : decode cL_law 940 = .ok (.pop, 1) := dec_of (decode cL_law) da_436 28 rfl
theorem dL_law_941 : decode cL_law 941 = .ok (.goto 608, 3) := dec_of (decode cL_law) da_436 29 rfl
theorem dL_law_944 : decode cL_law 944 = .ok (.aload_n 1, 1) := dec_of (decode cL_law) da_436 30 rfl
theorem dL_law_945 : decode cL_law 945 = .ok (.aload_n 0, 1) := dec_of (decode cL_law) da_436 31 rfl
theorem dL_law_946 : decode cL_law 946 = .ok (.iload 4, 2) := dec_of (decode cL_law) da_436 32 rfl
theorem dL_law_948 : decode cL_law 948 = .ok (.iconst 1, 1) := dec_of (decode cL_law) da_436 33 rfl
theorem dL_law_949 : decode cL_law 949 = .ok (.iadd, 1) := dec_of (decode cL_law) da_436 34 rfl
theorem dL_law_950 : decode cL_law 950 = .ok (.iaload, 1) := dec_of (decode cL_law) da_436 35 rfl
theorem dL_law_951 : decode cL_law 951 = .ok (.aload_n 0, 1) := dec_of (decode cL_law) da_436 36 rfl
theorem dL_law_952 : decode cL_law 952 = .ok (.iload 4, 2) := dec_of (decode cL_law) da_436 37 rfl
theorem dL_law_954 : decode cL_law 954 = .ok (.iconst 2, 1) := dec_of (decode cL_law) da_436 38 rfl
theorem dL_law_955 : decode cL_law 955 = .ok (.iadd, 1) := dec_of (decode cL_law) da_436 39 rfl
abbrev dl_437 : List (Nat × Except DecodeError (Instr × Nat)) := [(956, .ok (.iaload, 1)), (957, .ok (.aload_n 0, 1)), (958, .ok (.iload 4, 2)), (960, .ok (.iconst 3, 1)), (961, .ok (.iadd, 1)), (962, .ok (.iaload, 1)), (963, .ok (.invokevirtual 118, 3)), (966, .ok (.pop, 1)), (967, .ok (.aload_n 2, 1)), (968, .ok (.aload_n 0, 1)), (969, .ok (.iload 4, 2)), (971, .ok (.iconst 1, 1)), (972, .ok (.iadd, 1)), (973, .ok (.iaload, 1)), (974, .ok (.aload_n 0, 1)), (975, .ok (.iload 4, 2)), (977, .ok (.iconst 2, 1)), (978, .ok (.iadd, 1)), (979, .ok (.iaload, 1)), (980, .ok (.aload_n 0, 1)), (981, .ok (.iload 4, 2)), (983, .ok (.iconst 3, 1)), (984, .ok (.iadd, 1)), (985, .ok (.iaload, 1)), (986, .ok (.invokevirtual 121, 3)), (989, .ok (.pop, 1)), (990, .ok (.goto 559, 3)), (993, .ok (.aload_n 1, 1)), (994, .ok (.aload_n 0, 1)), (995, .ok (.iload 4, 2)), (997, .ok (.iconst 1, 1)), (998, .ok (.iadd, 1)), (999, .ok (.iaload, 1)), (1000, .ok (.aload_n 0, 1)), (1001, .ok (.iload 4, 2)), (1003, .ok (.iconst 2, 1)), (1004, .ok (.iadd, 1)), (1005, .ok (.iaload, 1)), (1006, .ok (.aload_n 0, 1)), (1007, .ok (.iload 4, 2))]
theorem da_437 : dl_437.all (fun q => decide (decode cL_law q.1 = q.2)) = true := by decide +kernel
theorem dL_law_956 : decode cL_law 956 = .ok (.iaload, 1) := dec_of (decode cL_law) da_437 0 rfl
theorem dL_law_957 : decode cL_law 957 = .ok (.aload_n 0, 1) := dec_of (decode cL_law) da_437 1 rfl
theorem dL_law_958 : decode cL_law 958 = .ok (.iload 4, 2) := dec_of (decode cL_law) da_437 2 rfl
theorem dL_law_960 : decode cL_law 960 = .ok (.iconst 3, 1) := dec_of (decode cL_law) da_437 3 rfl
theorem dL_law_961 : decode cL_law 961 = .ok (.iadd, 1) := dec_of (decode cL_law) da_437 4 rfl
theorem dL_law_962 : decode cL_law 962 = .ok (.iaload, 1) := dec_of (decode cL_law) da_437 5 rfl
theorem dL_law_963 : decode cL_law 963 = .ok (.invokevirtual 118, 3) := dec_of (decode cL_law) da_437 6 rfl
theorem dL_law_966 : decode cL_law 966 = .ok (.pop, 1) := dec_of (decode cL_law) da_437 7 rfl
theorem dL_law_967 : decode cL_law 967 = .ok (.aload_n 2, 1) := dec_of (decode cL_law) da_437 8 rfl
theorem dL_law_968 : decode cL_law 968 = .ok (.aload_n 0, 1) := dec_of (decode cL_law) da_437 9 rfl
theorem dL_law_969 : decode cL_law 969 = .ok (.iload 4, 2) := dec_of (decode cL_law) da_437 10 rfl
theorem dL_law_971 : decode cL_law 971 = .ok (.iconst 1, 1) := dec_of (decode cL_law) da_437 11 rfl
theorem dL_law_972 : decode cL_law 972 = .ok (.iadd, 1) := dec_of (decode cL_law) da_437 12 rfl
theorem dL_law_973 : decode cL_law 973 = .ok (.iaload, 1) := dec_of (decode cL_law) da_437 13 rfl
theorem dL_law_974 : decode cL_law 974 = .ok (.aload_n 0, 1) := dec_of (decode cL_law) da_437 14 rfl
theorem dL_law_975 : decode cL_law 975 = .ok (.iload 4, 2) := dec_of (decode cL_law) da_437 15 rfl
theorem dL_law_977 : decode cL_law 977 = .ok (.iconst 2, 1) := dec_of (decode cL_law) da_437 16 rfl
theorem dL_law_978 : decode cL_law 978 = .ok (.iadd, 1) := dec_of (decode cL_law) da_437 17 rfl
theorem dL_law_979 : decode cL_law 979 = .ok (.iaload, 1) := dec_of (decode cL_law) da_437 18 rfl
theorem dL_law_980 : decode cL_law 980 = .ok (.aload_n 0, 1) := dec_of (decode cL_law) da_437 19 rfl
theorem dL_law_981 : decode cL_law 981 = .ok (.iload 4, 2) := dec_of (decode cL_law) da_437 20 rfl
theorem dL_law_983 : decode cL_law 983 = .ok (.iconst 3, 1) := dec_of (decode cL_law) da_437 21 rfl
theorem dL_law_984 : decode cL_law 984 = .ok (.iadd, 1) := dec_of (decode cL_law) da_437 22 rfl
theorem dL_law_985 : decode cL_law 985 = .ok (.iaload, 1) := dec_of (decode cL_law) da_437 23 rfl
theorem dL_law_986 : decode cL_law 986 = .ok (.invokevirtual 121, 3) := dec_of (decode cL_law) da_437 24 rfl
theorem dL_law_989 : decode cL_law 989 = .ok (.pop, 1) := dec_of (decode cL_law) da_437 25 rfl
theorem dL_law_990 : decode cL_law 990 = .ok (.goto 559, 3) := dec_of (decode cL_law) da_437 26 rfl
theorem dL_law_993 : decode cL_law 993 = .ok (.aload_n 1, 1) := dec_of (decode cL_law) da_437 27 rfl
theorem dL_law_994 : decode cL_law 994 = .ok (.aload_n 0, 1) := dec_of (decode cL_law) da_437 28 rfl
theorem dL_law_995 : decode cL_law 995 = .ok (.iload 4, 2) := dec_of (decode cL_law) da_437 29 rfl
theorem dL_law_997 : decode cL_law 997 = .ok (.iconst 1, 1) := dec_of (decode cL_law) da_437 30 rfl
theorem dL_law_998 : decode cL_law 998 = .ok (.iadd, 1) := dec_of (decode cL_law) da_437 31 rfl
theorem dL_law_999 : decode cL_law 999 = .ok (.iaload, 1) := dec_of (decode cL_law) da_437 32 rfl
theorem dL_law_1000 : decode cL_law 1000 = .ok (.aload_n 0, 1) := dec_of (decode cL_law) da_437 33 rfl
theorem dL_law_1001 : decode cL_law 1001 = .ok (.iload 4, 2) := dec_of (decode cL_law) da_437 34 rfl
theorem dL_law_1003 : decode cL_law 1003 = .ok (.iconst 2, 1) := dec_of (decode cL_law) da_437 35 rfl
theorem dL_law_1004 : decode cL_law 1004 = .ok (.iadd, 1) := dec_of (decode cL_law) da_437 36 rfl
theorem dL_law_1005 : decode cL_law 1005 = .ok (.iaload, 1) := dec_of (decode cL_law) da_437 37 rfl
theorem dL_law_1006 : decode cL_law 1006 = .ok (.aload_n 0, 1) := dec_of (decode cL_law) da_437 38 rfl
theorem dL_law_1007 : decode cL_law 1007 = .ok (.iload 4, 2) := dec_of (decode cL_law) da_437 39 rfl
abbrev dl_438 : List (Nat × Except DecodeError (Instr × Nat)) := [(1009, .ok (.iconst 3, 1)), (1010, .ok (.iadd, 1)), (1011, .ok (.iaload, 1)), (1012, .ok (.aload_n 0, 1)), (1013, .ok (.iload 4, 2)), (1015, .ok (.iconst 4, 1)), (1016, .ok (.iadd, 1)), (1017, .ok (.iaload, 1)), (1018, .ok (.invokevirtual 122, 3)), (1021, .ok (.pop, 1)), (1022, .ok (.aload_n 2, 1)), (1023, .ok (.aload_n 0, 1)), (1024, .ok (.iload 4, 2)), (1026, .ok (.iconst 1, 1)), (1027, .ok (.iadd, 1)), (1028, .ok (.iaload, 1)), (1029, .ok (.aload_n 0, 1)), (1030, .ok (.iload 4, 2)), (1032, .ok (.iconst 2, 1)), (1033, .ok (.iadd, 1)), (1034, .ok (.iaload, 1)), (1035, .ok (.aload_n 0, 1)), (1036, .ok (.iload 4, 2)), (1038, .ok (.iconst 3, 1)), (1039, .ok (.iadd, 1)), (1040, .ok (.iaload, 1)), (1041, .ok (.aload_n 0, 1)), (1042, .ok (.iload 4, 2)), (1044, .ok (.iconst 4, 1)), (1045, .ok (.iadd, 1)), (1046, .ok (.iaload, 1)), (1047, .ok (.invokevirtual 126, 3)), (1050, .ok (.pop, 1)), (1051, .ok (.goto 498, 3)), (1054, .ok (.aload_n 1, 1)), (1055, .ok (.aload_n 0, 1)), (1056, .ok (.iload 4, 2)), (1058, .ok (.iconst 1, 1)), (1059, .ok (.iadd, 1)), (1060, .ok (.iaload, 1))]
theorem da_438 : dl_438.all (fun q => decide (decode cL_law q.1 = q.2)) = true := by decide +kernel
theorem dL_law_1009 : decode cL_law 1009 = .ok (.iconst 3, 1) := dec_of (decode cL_law) da_438 0 rfl
theorem dL_law_1010 : decode cL_law 1010 = .ok (.iadd, 1) := dec_of (decode cL_law) da_438 1 rfl
theorem dL_law_1011 : decode cL_law 1011 = .ok (.iaload, 1) := dec_of (decode cL_law) da_438 2 rfl
theorem dL_law_1012 : decode cL_law 1012 = .ok (.aload_n 0, 1) := dec_of (decode cL_law) da_438 3 rfl
theorem dL_law_1013 : decode cL_law 1013 = .ok (.iload 4, 2) := dec_of (decode cL_law) da_438 4 rfl
theorem dL_law_1015 : decode cL_law 1015 = .ok (.iconst 4, 1) := dec_of (decode cL_law) da_438 5 rfl
theorem dL_law_1016 : decode cL_law 1016 = .ok (.iadd, 1) := dec_of (decode cL_law) da_438 6 rfl
theorem dL_law_1017 : decode cL_law 1017 = .ok (.iaload, 1) := dec_of (decode cL_law) da_438 7 rfl
theorem dL_law_1018 : decode cL_law 1018 = .ok (.invokevirtual 122, 3) := dec_of (decode cL_law) da_438 8 rfl
theorem dL_law_1021 : decode cL_law 1021 = .ok (.pop, 1) := dec_of (decode cL_law) da_438 9 rfl
theorem dL_law_1022 : decode cL_law 1022 = .ok (.aload_n 2, 1) := dec_of (decode cL_law) da_438 10 rfl
theorem dL_law_1023 : decode cL_law 1023 = .ok (.aload_n 0, 1) := dec_of (decode cL_law) da_438 11 rfl
theorem dL_law_1024 : decode cL_law 1024 = .ok (.iload 4, 2) := dec_of (decode cL_law) da_438 12 rfl
theorem dL_law_1026 : decode cL_law 1026 = .ok (.iconst 1, 1) := dec_of (decode cL_law) da_438 13 rfl
theorem dL_law_1027 : decode cL_law 1027 = .ok (.iadd, 1) := dec_of (decode cL_law) da_438 14 rfl
theorem dL_law_1028 : decode cL_law 1028 = .ok (.iaload, 1) := dec_of (decode cL_law) da_438 15 rfl
theorem dL_law_1029 : decode cL_law 1029 = .ok (.aload_n 0, 1) := dec_of (decode cL_law) da_438 16 rfl
theorem dL_law_1030 : decode cL_law 1030 = .ok (.iload 4, 2) := dec_of (decode cL_law) da_438 17 rfl
theorem dL_law_1032 : decode cL_law 1032 = .ok (.iconst 2, 1) := dec_of (decode cL_law) da_438 18 rfl
theorem dL_law_1033 : decode cL_law 1033 = .ok (.iadd, 1) := dec_of (decode cL_law) da_438 19 rfl
theorem dL_law_1034 : decode cL_law 1034 = .ok (.iaload, 1) := dec_of (decode cL_law) da_438 20 rfl
theorem dL_law_1035 : decode cL_law 1035 = .ok (.aload_n 0, 1) := dec_of (decode cL_law) da_438 21 rfl
theorem dL_law_1036 : decode cL_law 1036 = .ok (.iload 4, 2) := dec_of (decode cL_law) da_438 22 rfl
theorem dL_law_1038 : decode cL_law 1038 = .ok (.iconst 3, 1) := dec_of (decode cL_law) da_438 23 rfl
theorem dL_law_1039 : decode cL_law 1039 = .ok (.iadd, 1) := dec_of (decode cL_law) da_438 24 rfl
theorem dL_law_1040 : decode cL_law 1040 = .ok (.iaload, 1) := dec_of (decode cL_law) da_438 25 rfl
theorem dL_law_1041 : decode cL_law 1041 = .ok (.aload_n 0, 1) := dec_of (decode cL_law) da_438 26 rfl
theorem dL_law_1042 : decode cL_law 1042 = .ok (.iload 4, 2) := dec_of (decode cL_law) da_438 27 rfl
theorem dL_law_1044 : decode cL_law 1044 = .ok (.iconst 4, 1) := dec_of (decode cL_law) da_438 28 rfl
theorem dL_law_1045 : decode cL_law 1045 = .ok (.iadd, 1) := dec_of (decode cL_law) da_438 29 rfl
theorem dL_law_1046 : decode cL_law 1046 = .ok (.iaload, 1) := dec_of (decode cL_law) da_438 30 rfl
theorem dL_law_1047 : decode cL_law 1047 = .ok (.invokevirtual 126, 3) := dec_of (decode cL_law) da_438 31 rfl
theorem dL_law_1050 : decode cL_law 1050 = .ok (.pop, 1) := dec_of (decode cL_law) da_438 32 rfl
theorem dL_law_1051 : decode cL_law 1051 = .ok (.goto 498, 3) := dec_of (decode cL_law) da_438 33 rfl
theorem dL_law_1054 : decode cL_law 1054 = .ok (.aload_n 1, 1) := dec_of (decode cL_law) da_438 34 rfl
theorem dL_law_1055 : decode cL_law 1055 = .ok (.aload_n 0, 1) := dec_of (decode cL_law) da_438 35 rfl
theorem dL_law_1056 : decode cL_law 1056 = .ok (.iload 4, 2) := dec_of (decode cL_law) da_438 36 rfl
theorem dL_law_1058 : decode cL_law 1058 = .ok (.iconst 1, 1) := dec_of (decode cL_law) da_438 37 rfl
theorem dL_law_1059 : decode cL_law 1059 = .ok (.iadd, 1) := dec_of (decode cL_law) da_438 38 rfl
theorem dL_law_1060 : decode cL_law 1060 = .ok (.iaload, 1) := dec_of (decode cL_law) da_438 39 rfl
abbrev dl_439 : List (Nat × Except DecodeError (Instr × Nat)) := [(1061, .ok (.aload_n 0, 1)), (1062, .ok (.iload 4, 2)), (1064, .ok (.iconst 2, 1)), (1065, .ok (.iadd, 1)), (1066, .ok (.iaload, 1)), (1067, .ok (.aload_n 0, 1)), (1068, .ok (.iload 4, 2)), (1070, .ok (.iconst 3, 1)), (1071, .ok (.iadd, 1)), (1072, .ok (.iaload, 1)), (1073, .ok (.aload_n 0, 1)), (1074, .ok (.iload 4, 2)), (1076, .ok (.iconst 4, 1)), (1077, .ok (.iadd, 1)), (1078, .ok (.iaload, 1)), (1079, .ok (.invokevirtual 127, 3)), (1082, .ok (.pop, 1)), (1083, .ok (.aload_n 2, 1)), (1084, .ok (.aload_n 0, 1)), (1085, .ok (.iload 4, 2)), (1087, .ok (.iconst 1, 1)), (1088, .ok (.iadd, 1)), (1089, .ok (.iaload, 1)), (1090, .ok (.aload_n 0, 1)), (1091, .ok (.iload 4, 2)), (1093, .ok (.iconst 2, 1)), (1094, .ok (.iadd, 1)), (1095, .ok (.iaload, 1)), (1096, .ok (.aload_n 0, 1)), (1097, .ok (.iload 4, 2)), (1099, .ok (.iconst 3, 1)), (1100, .ok (.iadd, 1)), (1101, .ok (.iaload, 1)), (1102, .ok (.aload_n 0, 1)), (1103, .ok (.iload 4, 2)), (1105, .ok (.iconst 4, 1)), (1106, .ok (.iadd, 1)), (1107, .ok (.iaload, 1)), (1108, .ok (.invokevirtual 130, 3)), (1111, .ok (.pop, 1))]
theorem da_439 : dl_439.all (fun q => decide (decode cL_law q.1 = q.2)) = true := by decide +kernel
theorem dL_law_1061 : decode cL_law 1061 = .ok (.aload_n 0, 1) := dec_of (decode cL_law) da_439 0 rfl
theorem dL_law_1062 : decode cL_law 1062 = .ok (.iload 4, 2) := dec_of (decode cL_law) da_439 1 rfl
theorem dL_law_1064 : decode cL_law 1064 = .ok (.iconst 2, 1) := dec_of (decode cL_law) da_439 2 rfl
theorem dL_law_1065 : decode cL_law 1065 = .ok (.iadd, 1) := dec_of (decode cL_law) da_439 3 rfl
theorem dL_law_1066 : decode cL_law 1066 = .ok (.iaload, 1) := dec_of (decode cL_law) da_439 4 rfl
theorem dL_law_1067 : decode cL_law 1067 = .ok (.aload_n 0, 1) := dec_of (decode cL_law) da_439 5 rfl
theorem dL_law_1068 : decode cL_law 1068 = .ok (.iload 4, 2) := dec_of (decode cL_law) da_439 6 rfl
theorem dL_law_1070 : decode cL_law 1070 = .ok (.iconst 3, 1) := dec_of (decode cL_law) da_439 7 rfl
theorem dL_law_1071 : decode cL_law 1071 = .ok (.iadd, 1) := dec_of (decode cL_law) da_439 8 rfl
theorem dL_law_1072 : decode cL_law 1072 = .ok (.iaload, 1) := dec_of (decode cL_law) da_439 9 rfl
theorem dL_law_1073 : decode cL_law 1073 = .ok (.aload_n 0, 1) := dec_of (decode cL_law) da_439 10 rfl
theorem dL_law_1074 : decode cL_law 1074 = .ok (.iload 4, 2) := dec_of (decode cL_law) da_439 11 rfl
theorem dL_law_1076 : decode cL_law 1076 = .ok (.iconst 4, 1) := dec_of (decode cL_law) da_439 12 rfl
theorem dL_law_1077 : decode cL_law 1077 = .ok (.iadd, 1) := dec_of (decode cL_law) da_439 13 rfl
theorem dL_law_1078 : decode cL_law 1078 = .ok (.iaload, 1) := dec_of (decode cL_law) da_439 14 rfl
theorem dL_law_1079 : decode cL_law 1079 = .ok (.invokevirtual 127, 3) := dec_of (decode cL_law) da_439 15 rfl
theorem dL_law_1082 : decode cL_law 1082 = .ok (.pop, 1) := dec_of (decode cL_law) da_439 16 rfl
theorem dL_law_1083 : decode cL_law 1083 = .ok (.aload_n 2, 1) := dec_of (decode cL_law) da_439 17 rfl
theorem dL_law_1084 : decode cL_law 1084 = .ok (.aload_n 0, 1) := dec_of (decode cL_law) da_439 18 rfl
theorem dL_law_1085 : decode cL_law 1085 = .ok (.iload 4, 2) := dec_of (decode cL_law) da_439 19 rfl
theorem dL_law_1087 : decode cL_law 1087 = .ok (.iconst 1, 1) := dec_of (decode cL_law) da_439 20 rfl
theorem dL_law_1088 : decode cL_law 1088 = .ok (.iadd, 1) := dec_of (decode cL_law) da_439 21 rfl
theorem dL_law_1089 : decode cL_law 1089 = .ok (.iaload, 1) := dec_of (decode cL_law) da_439 22 rfl
theorem dL_law_1090 : decode cL_law 1090 = .ok (.aload_n 0, 1) := dec_of (decode cL_law) da_439 23 rfl
theorem dL_law_1091 : decode cL_law 1091 = .ok (.iload 4, 2) := dec_of (decode cL_law) da_439 24 rfl
theorem dL_law_1093 : decode cL_law 1093 = .ok (.iconst 2, 1) := dec_of (decode cL_law) da_439 25 rfl
theorem dL_law_1094 : decode cL_law 1094 = .ok (.iadd, 1) := dec_of (decode cL_law) da_439 26 rfl
theorem dL_law_1095 : decode cL_law 1095 = .ok (.iaload, 1) := dec_of (decode cL_law) da_439 27 rfl
theorem dL_law_1096 : decode cL_law 1096 = .ok (.aload_n 0, 1) := dec_of (decode cL_law) da_439 28 rfl
theorem dL_law_1097 : decode cL_law 1097 = .ok (.iload 4, 2) := dec_of (decode cL_law) da_439 29 rfl
theorem dL_law_1099 : decode cL_law 1099 = .ok (.iconst 3, 1) := dec_of (decode cL_law) da_439 30 rfl
theorem dL_law_1100 : decode cL_law 1100 = .ok (.iadd, 1) := dec_of (decode cL_law) da_439 31 rfl
theorem dL_law_1101 : decode cL_law 1101 = .ok (.iaload, 1) := dec_of (decode cL_law) da_439 32 rfl
theorem dL_law_1102 : decode cL_law 1102 = .ok (.aload_n 0, 1) := dec_of (decode cL_law) da_439 33 rfl
theorem dL_law_1103 : decode cL_law 1103 = .ok (.iload 4, 2) := dec_of (decode cL_law) da_439 34 rfl
theorem dL_law_1105 : decode cL_law 1105 = .ok (.iconst 4, 1) := dec_of (decode cL_law) da_439 35 rfl
theorem dL_law_1106 : decode cL_law 1106 = .ok (.iadd, 1) := dec_of (decode cL_law) da_439 36 rfl
theorem dL_law_1107 : decode cL_law 1107 = .ok (.iaload, 1) := dec_of (decode cL_law) da_439 37 rfl
theorem dL_law_1108 : decode cL_law 1108 = .ok (.invokevirtual 130, 3) := dec_of (decode cL_law) da_439 38 rfl
theorem dL_law_1111 : decode cL_law 1111 = .ok (.pop, 1) := dec_of (decode cL_law) da_439 39 rfl
abbrev dl_440 : List (Nat × Except DecodeError (Instr × Nat)) := [(1112, .ok (.goto 437, 3)), (1115, .ok (.aload_n 1, 1)), (1116, .ok (.aload_n 0, 1)), (1117, .ok (.iload 4, 2)), (1119, .ok (.iconst 1, 1)), (1120, .ok (.iadd, 1)), (1121, .ok (.iaload, 1)), (1122, .ok (.aload_n 0, 1)), (1123, .ok (.iload 4, 2)), (1125, .ok (.iconst 2, 1)), (1126, .ok (.iadd, 1)), (1127, .ok (.iaload, 1)), (1128, .ok (.aload_n 0, 1)), (1129, .ok (.iload 4, 2)), (1131, .ok (.iconst 3, 1)), (1132, .ok (.iadd, 1)), (1133, .ok (.iaload, 1)), (1134, .ok (.invokevirtual 131, 3)), (1137, .ok (.pop, 1)), (1138, .ok (.aload_n 2, 1)), (1139, .ok (.aload_n 0, 1)), (1140, .ok (.iload 4, 2)), (1142, .ok (.iconst 1, 1)), (1143, .ok (.iadd, 1)), (1144, .ok (.iaload, 1)), (1145, .ok (.aload_n 0, 1)), (1146, .ok (.iload 4, 2)), (1148, .ok (.iconst 2, 1)), (1149, .ok (.iadd, 1)), (1150, .ok (.iaload, 1)), (1151, .ok (.aload_n 0, 1)), (1152, .ok (.iload 4, 2)), (1154, .ok (.iconst 3, 1)), (1155, .ok (.iadd, 1)), (1156, .ok (.iaload, 1)), (1157, .ok (.invokevirtual 134, 3)), (1160, .ok (.pop, 1)), (1161, .ok (.goto 388, 3)), (1164, .ok (.aload_n 1, 1)), (1165, .ok (.aload_n 0, 1))]
theorem da_440 : dl_440.all (fun q => decide (decode cL_law q.1 = q.2)) = true := by decide +kernel
theorem dL_law_1112 : decode cL_law 1112 = .ok (.goto 437, 3) := dec_of (decode cL_law) da_440 0 rfl
theorem dL_law_1115 : decode cL_law 1115 = .ok (.aload_n 1, 1) := dec_of (decode cL_law) da_440 1 rfl
theorem dL_law_1116 : decode cL_law 1116 = .ok (.aload_n 0, 1) := dec_of (decode cL_law) da_440 2 rfl
theorem dL_law_1117 : decode cL_law 1117 = .ok (.iload 4, 2) := dec_of (decode cL_law) da_440 3 rfl
theorem dL_law_1119 : decode cL_law 1119 = .ok (.iconst 1, 1) := dec_of (decode cL_law) da_440 4 rfl
theorem dL_law_1120 : decode cL_law 1120 = .ok (.iadd, 1) := dec_of (decode cL_law) da_440 5 rfl
theorem dL_law_1121 : decode cL_law 1121 = .ok (.iaload, 1) := dec_of (decode cL_law) da_440 6 rfl
theorem dL_law_1122 : decode cL_law 1122 = .ok (.aload_n 0, 1) := dec_of (decode cL_law) da_440 7 rfl
theorem dL_law_1123 : decode cL_law 1123 = .ok (.iload 4, 2) := dec_of (decode cL_law) da_440 8 rfl
theorem dL_law_1125 : decode cL_law 1125 = .ok (.iconst 2, 1) := dec_of (decode cL_law) da_440 9 rfl
theorem dL_law_1126 : decode cL_law 1126 = .ok (.iadd, 1) := dec_of (decode cL_law) da_440 10 rfl
theorem dL_law_1127 : decode cL_law 1127 = .ok (.iaload, 1) := dec_of (decode cL_law) da_440 11 rfl
theorem dL_law_1128 : decode cL_law 1128 = .ok (.aload_n 0, 1) := dec_of (decode cL_law) da_440 12 rfl
theorem dL_law_1129 : decode cL_law 1129 = .ok (.iload 4, 2) := dec_of (decode cL_law) da_440 13 rfl
theorem dL_law_1131 : decode cL_law 1131 = .ok (.iconst 3, 1) := dec_of (decode cL_law) da_440 14 rfl
theorem dL_law_1132 : decode cL_law 1132 = .ok (.iadd, 1) := dec_of (decode cL_law) da_440 15 rfl
theorem dL_law_1133 : decode cL_law 1133 = .ok (.iaload, 1) := dec_of (decode cL_law) da_440 16 rfl
theorem dL_law_1134 : decode cL_law 1134 = .ok (.invokevirtual 131, 3) := dec_of (decode cL_law) da_440 17 rfl
theorem dL_law_1137 : decode cL_law 1137 = .ok (.pop, 1) := dec_of (decode cL_law) da_440 18 rfl
theorem dL_law_1138 : decode cL_law 1138 = .ok (.aload_n 2, 1) := dec_of (decode cL_law) da_440 19 rfl
theorem dL_law_1139 : decode cL_law 1139 = .ok (.aload_n 0, 1) := dec_of (decode cL_law) da_440 20 rfl
theorem dL_law_1140 : decode cL_law 1140 = .ok (.iload 4, 2) := dec_of (decode cL_law) da_440 21 rfl
theorem dL_law_1142 : decode cL_law 1142 = .ok (.iconst 1, 1) := dec_of (decode cL_law) da_440 22 rfl
theorem dL_law_1143 : decode cL_law 1143 = .ok (.iadd, 1) := dec_of (decode cL_law) da_440 23 rfl
theorem dL_law_1144 : decode cL_law 1144 = .ok (.iaload, 1) := dec_of (decode cL_law) da_440 24 rfl
theorem dL_law_1145 : decode cL_law 1145 = .ok (.aload_n 0, 1) := dec_of (decode cL_law) da_440 25 rfl
theorem dL_law_1146 : decode cL_law 1146 = .ok (.iload 4, 2) := dec_of (decode cL_law) da_440 26 rfl
theorem dL_law_1148 : decode cL_law 1148 = .ok (.iconst 2, 1) := dec_of (decode cL_law) da_440 27 rfl
theorem dL_law_1149 : decode cL_law 1149 = .ok (.iadd, 1) := dec_of (decode cL_law) da_440 28 rfl
theorem dL_law_1150 : decode cL_law 1150 = .ok (.iaload, 1) := dec_of (decode cL_law) da_440 29 rfl
theorem dL_law_1151 : decode cL_law 1151 = .ok (.aload_n 0, 1) := dec_of (decode cL_law) da_440 30 rfl
theorem dL_law_1152 : decode cL_law 1152 = .ok (.iload 4, 2) := dec_of (decode cL_law) da_440 31 rfl
theorem dL_law_1154 : decode cL_law 1154 = .ok (.iconst 3, 1) := dec_of (decode cL_law) da_440 32 rfl
theorem dL_law_1155 : decode cL_law 1155 = .ok (.iadd, 1) := dec_of (decode cL_law) da_440 33 rfl
theorem dL_law_1156 : decode cL_law 1156 = .ok (.iaload, 1) := dec_of (decode cL_law) da_440 34 rfl
theorem dL_law_1157 : decode cL_law 1157 = .ok (.invokevirtual 134, 3) := dec_of (decode cL_law) da_440 35 rfl
theorem dL_law_1160 : decode cL_law 1160 = .ok (.pop, 1) := dec_of (decode cL_law) da_440 36 rfl
theorem dL_law_1161 : decode cL_law 1161 = .ok (.goto 388, 3) := dec_of (decode cL_law) da_440 37 rfl
theorem dL_law_1164 : decode cL_law 1164 = .ok (.aload_n 1, 1) := dec_of (decode cL_law) da_440 38 rfl
theorem dL_law_1165 : decode cL_law 1165 = .ok (.aload_n 0, 1) := dec_of (decode cL_law) da_440 39 rfl
abbrev dl_441 : List (Nat × Except DecodeError (Instr × Nat)) := [(1166, .ok (.iload 4, 2)), (1168, .ok (.iconst 1, 1)), (1169, .ok (.iadd, 1)), (1170, .ok (.iaload, 1)), (1171, .ok (.aload_n 0, 1)), (1172, .ok (.iload 4, 2)), (1174, .ok (.iconst 2, 1)), (1175, .ok (.iadd, 1)), (1176, .ok (.iaload, 1)), (1177, .ok (.invokevirtual 135, 3)), (1180, .ok (.pop, 1)), (1181, .ok (.aload_n 2, 1)), (1182, .ok (.aload_n 0, 1)), (1183, .ok (.iload 4, 2)), (1185, .ok (.iconst 1, 1)), (1186, .ok (.iadd, 1)), (1187, .ok (.iaload, 1)), (1188, .ok (.aload_n 0, 1)), (1189, .ok (.iload 4, 2)), (1191, .ok (.iconst 2, 1)), (1192, .ok (.iadd, 1)), (1193, .ok (.iaload, 1)), (1194, .ok (.invokevirtual 138, 3)), (1197, .ok (.pop, 1)), (1198, .ok (.goto 351, 3)), (1201, .ok (.aload_n 1, 1)), (1202, .ok (.aload_n 0, 1)), (1203, .ok (.iload 4, 2)), (1205, .ok (.iconst 1, 1)), (1206, .ok (.iadd, 1)), (1207, .ok (.iaload, 1)), (1208, .ok (.aload_n 0, 1)), (1209, .ok (.iload 4, 2)), (1211, .ok (.iconst 2, 1)), (1212, .ok (.iadd, 1)), (1213, .ok (.iaload, 1)), (1214, .ok (.aload_n 0, 1)), (1215, .ok (.iload 4, 2)), (1217, .ok (.iconst 3, 1)), (1218, .ok (.iadd, 1))]
theorem da_441 : dl_441.all (fun q => decide (decode cL_law q.1 = q.2)) = true := by decide +kernel
theorem dL_law_1166 : decode cL_law 1166 = .ok (.iload 4, 2) := dec_of (decode cL_law) da_441 0 rfl
theorem dL_law_1168 : decode cL_law 1168 = .ok (.iconst 1, 1) := dec_of (decode cL_law) da_441 1 rfl
theorem dL_law_1169 : decode cL_law 1169 = .ok (.iadd, 1) := dec_of (decode cL_law) da_441 2 rfl
theorem dL_law_1170 : decode cL_law 1170 = .ok (.iaload, 1) := dec_of (decode cL_law) da_441 3 rfl
theorem dL_law_1171 : decode cL_law 1171 = .ok (.aload_n 0, 1) := dec_of (decode cL_law) da_441 4 rfl
theorem dL_law_1172 : decode cL_law 1172 = .ok (.iload 4, 2) := dec_of (decode cL_law) da_441 5 rfl
theorem dL_law_1174 : decode cL_law 1174 = .ok (.iconst 2, 1) := dec_of (decode cL_law) da_441 6 rfl
theorem dL_law_1175 : decode cL_law 1175 = .ok (.iadd, 1) := dec_of (decode cL_law) da_441 7 rfl
theorem dL_law_1176 : decode cL_law 1176 = .ok (.iaload, 1) := dec_of (decode cL_law) da_441 8 rfl
theorem dL_law_1177 : decode cL_law 1177 = .ok (.invokevirtual 135, 3) := dec_of (decode cL_law) da_441 9 rfl
theorem dL_law_1180 : decode cL_law 1180 = .ok (.pop, 1) := dec_of (decode cL_law) da_441 10 rfl
theorem dL_law_1181 : decode cL_law 1181 = .ok (.aload_n 2, 1) := dec_of (decode cL_law) da_441 11 rfl
theorem dL_law_1182 : decode cL_law 1182 = .ok (.aload_n 0, 1) := dec_of (decode cL_law) da_441 12 rfl
theorem dL_law_1183 : decode cL_law 1183 = .ok (.iload 4, 2) := dec_of (decode cL_law) da_441 13 rfl
theorem dL_law_1185 : decode cL_law 1185 = .ok (.iconst 1, 1) := dec_of (decode cL_law) da_441 14 rfl
theorem dL_law_1186 : decode cL_law 1186 = .ok (.iadd, 1) := dec_of (decode cL_law) da_441 15 rfl
theorem dL_law_1187 : decode cL_law 1187 = .ok (.iaload, 1) := dec_of (decode cL_law) da_441 16 rfl
theorem dL_law_1188 : decode cL_law 1188 = .ok (.aload_n 0, 1) := dec_of (decode cL_law) da_441 17 rfl
theorem dL_law_1189 : decode cL_law 1189 = .ok (.iload 4, 2) := dec_of (decode cL_law) da_441 18 rfl
theorem dL_law_1191 : decode cL_law 1191 = .ok (.iconst 2, 1) := dec_of (decode cL_law) da_441 19 rfl
theorem dL_law_1192 : decode cL_law 1192 = .ok (.iadd, 1) := dec_of (decode cL_law) da_441 20 rfl
theorem dL_law_1193 : decode cL_law 1193 = .ok (.iaload, 1) := dec_of (decode cL_law) da_441 21 rfl
theorem dL_law_1194 : decode cL_law 1194 = .ok (.invokevirtual 138, 3) := dec_of (decode cL_law) da_441 22 rfl
theorem dL_law_1197 : decode cL_law 1197 = .ok (.pop, 1) := dec_of (decode cL_law) da_441 23 rfl
theorem dL_law_1198 : decode cL_law 1198 = .ok (.goto 351, 3) := dec_of (decode cL_law) da_441 24 rfl
theorem dL_law_1201 : decode cL_law 1201 = .ok (.aload_n 1, 1) := dec_of (decode cL_law) da_441 25 rfl
theorem dL_law_1202 : decode cL_law 1202 = .ok (.aload_n 0, 1) := dec_of (decode cL_law) da_441 26 rfl
theorem dL_law_1203 : decode cL_law 1203 = .ok (.iload 4, 2) := dec_of (decode cL_law) da_441 27 rfl
theorem dL_law_1205 : decode cL_law 1205 = .ok (.iconst 1, 1) := dec_of (decode cL_law) da_441 28 rfl
theorem dL_law_1206 : decode cL_law 1206 = .ok (.iadd, 1) := dec_of (decode cL_law) da_441 29 rfl
theorem dL_law_1207 : decode cL_law 1207 = .ok (.iaload, 1) := dec_of (decode cL_law) da_441 30 rfl
theorem dL_law_1208 : decode cL_law 1208 = .ok (.aload_n 0, 1) := dec_of (decode cL_law) da_441 31 rfl
theorem dL_law_1209 : decode cL_law 1209 = .ok (.iload 4, 2) := dec_of (decode cL_law) da_441 32 rfl
theorem dL_law_1211 : decode cL_law 1211 = .ok (.iconst 2, 1) := dec_of (decode cL_law) da_441 33 rfl
theorem dL_law_1212 : decode cL_law 1212 = .ok (.iadd, 1) := dec_of (decode cL_law) da_441 34 rfl
theorem dL_law_1213 : decode cL_law 1213 = .ok (.iaload, 1) := dec_of (decode cL_law) da_441 35 rfl
theorem dL_law_1214 : decode cL_law 1214 = .ok (.aload_n 0, 1) := dec_of (decode cL_law) da_441 36 rfl
theorem dL_law_1215 : decode cL_law 1215 = .ok (.iload 4, 2) := dec_of (decode cL_law) da_441 37 rfl
theorem dL_law_1217 : decode cL_law 1217 = .ok (.iconst 3, 1) := dec_of (decode cL_law) da_441 38 rfl
theorem dL_law_1218 : decode cL_law 1218 = .ok (.iadd, 1) := dec_of (decode cL_law) da_441 39 rfl
abbrev dl_442 : List (Nat × Except DecodeError (Instr × Nat)) := [(1219, .ok (.iaload, 1)), (1220, .ok (.invokevirtual 139, 3)), (1223, .ok (.pop, 1)), (1224, .ok (.aload_n 2, 1)), (1225, .ok (.aload_n 0, 1)), (1226, .ok (.iload 4, 2)), (1228, .ok (.iconst 1, 1)), (1229, .ok (.iadd, 1)), (1230, .ok (.iaload, 1)), (1231, .ok (.aload_n 0, 1)), (1232, .ok (.iload 4, 2)), (1234, .ok (.iconst 2, 1)), (1235, .ok (.iadd, 1)), (1236, .ok (.iaload, 1)), (1237, .ok (.aload_n 0, 1)), (1238, .ok (.iload 4, 2)), (1240, .ok (.iconst 3, 1)), (1241, .ok (.iadd, 1)), (1242, .ok (.iaload, 1)), (1243, .ok (.invokevirtual 142, 3)), (1246, .ok (.pop, 1)), (1247, .ok (.goto 302, 3)), (1250, .ok (.aload_n 1, 1)), (1251, .ok (.aload_n 0, 1)), (1252, .ok (.iload 4, 2)), (1254, .ok (.iconst 1, 1)), (1255, .ok (.iadd, 1)), (1256, .ok (.iaload, 1)), (1257, .ok (.invokevirtual 143, 3)), (1260, .ok (.pop, 1)), (1261, .ok (.aload_n 2, 1)), (1262, .ok (.aload_n 0, 1)), (1263, .ok (.iload 4, 2)), (1265, .ok (.iconst 1, 1)), (1266, .ok (.iadd, 1)), (1267, .ok (.iaload, 1)), (1268, .ok (.invokevirtual 146, 3)), (1271, .ok (.pop, 1)), (1272, .ok (.goto 277, 3)), (1275, .ok (.aload_n 1, 1))]
theorem da_442 : dl_442.all (fun q => decide (decode cL_law q.1 = q.2)) = true := by decide +kernel
theorem dL_law_1219 : decode cL_law 1219 = .ok (.iaload, 1) := dec_of (decode cL_law) da_442 0 rfl
theorem dL_law_1220 : decode cL_law 1220 = .ok (.invokevirtual 139, 3) := dec_of (decode cL_law) da_442 1 rfl
theorem dL_law_1223 : decode cL_law 1223 = .ok (.pop, 1) := dec_of (decode cL_law) da_442 2 rfl
theorem dL_law_1224 : decode cL_law 1224 = .ok (.aload_n 2, 1) := dec_of (decode cL_law) da_442 3 rfl
theorem dL_law_1225 : decode cL_law 1225 = .ok (.aload_n 0, 1) := dec_of (decode cL_law) da_442 4 rfl
theorem dL_law_1226 : decode cL_law 1226 = .ok (.iload 4, 2) := dec_of (decode cL_law) da_442 5 rfl
theorem dL_law_1228 : decode cL_law 1228 = .ok (.iconst 1, 1) := dec_of (decode cL_law) da_442 6 rfl
theorem dL_law_1229 : decode cL_law 1229 = .ok (.iadd, 1) := dec_of (decode cL_law) da_442 7 rfl
theorem dL_law_1230 : decode cL_law 1230 = .ok (.iaload, 1) := dec_of (decode cL_law) da_442 8 rfl
theorem dL_law_1231 : decode cL_law 1231 = .ok (.aload_n 0, 1) := dec_of (decode cL_law) da_442 9 rfl
theorem dL_law_1232 : decode cL_law 1232 = .ok (.iload 4, 2) := dec_of (decode cL_law) da_442 10 rfl
theorem dL_law_1234 : decode cL_law 1234 = .ok (.iconst 2, 1) := dec_of (decode cL_law) da_442 11 rfl
theorem dL_law_1235 : decode cL_law 1235 = .ok (.iadd, 1) := dec_of (decode cL_law) da_442 12 rfl
theorem dL_law_1236 : decode cL_law 1236 = .ok (.iaload, 1) := dec_of (decode cL_law) da_442 13 rfl
theorem dL_law_1237 : decode cL_law 1237 = .ok (.aload_n 0, 1) := dec_of (decode cL_law) da_442 14 rfl
theorem dL_law_1238 : decode cL_law 1238 = .ok (.iload 4, 2) := dec_of (decode cL_law) da_442 15 rfl
theorem dL_law_1240 : decode cL_law 1240 = .ok (.iconst 3, 1) := dec_of (decode cL_law) da_442 16 rfl
theorem dL_law_1241 : decode cL_law 1241 = .ok (.iadd, 1) := dec_of (decode cL_law) da_442 17 rfl
theorem dL_law_1242 : decode cL_law 1242 = .ok (.iaload, 1) := dec_of (decode cL_law) da_442 18 rfl
theorem dL_law_1243 : decode cL_law 1243 = .ok (.invokevirtual 142, 3) := dec_of (decode cL_law) da_442 19 rfl
theorem dL_law_1246 : decode cL_law 1246 = .ok (.pop, 1) := dec_of (decode cL_law) da_442 20 rfl
theorem dL_law_1247 : decode cL_law 1247 = .ok (.goto 302, 3) := dec_of (decode cL_law) da_442 21 rfl
theorem dL_law_1250 : decode cL_law 1250 = .ok (.aload_n 1, 1) := dec_of (decode cL_law) da_442 22 rfl
theorem dL_law_1251 : decode cL_law 1251 = .ok (.aload_n 0, 1) := dec_of (decode cL_law) da_442 23 rfl
theorem dL_law_1252 : decode cL_law 1252 = .ok (.iload 4, 2) := dec_of (decode cL_law) da_442 24 rfl
theorem dL_law_1254 : decode cL_law 1254 = .ok (.iconst 1, 1) := dec_of (decode cL_law) da_442 25 rfl
theorem dL_law_1255 : decode cL_law 1255 = .ok (.iadd, 1) := dec_of (decode cL_law) da_442 26 rfl
theorem dL_law_1256 : decode cL_law 1256 = .ok (.iaload, 1) := dec_of (decode cL_law) da_442 27 rfl
theorem dL_law_1257 : decode cL_law 1257 = .ok (.invokevirtual 143, 3) := dec_of (decode cL_law) da_442 28 rfl
theorem dL_law_1260 : decode cL_law 1260 = .ok (.pop, 1) := dec_of (decode cL_law) da_442 29 rfl
theorem dL_law_1261 : decode cL_law 1261 = .ok (.aload_n 2, 1) := dec_of (decode cL_law) da_442 30 rfl
theorem dL_law_1262 : decode cL_law 1262 = .ok (.aload_n 0, 1) := dec_of (decode cL_law) da_442 31 rfl
theorem dL_law_1263 : decode cL_law 1263 = .ok (.iload 4, 2) := dec_of (decode cL_law) da_442 32 rfl
theorem dL_law_1265 : decode cL_law 1265 = .ok (.iconst 1, 1) := dec_of (decode cL_law) da_442 33 rfl
theorem dL_law_1266 : decode cL_law 1266 = .ok (.iadd, 1) := dec_of (decode cL_law) da_442 34 rfl
theorem dL_law_1267 : decode cL_law 1267 = .ok (.iaload, 1) := dec_of (decode cL_law) da_442 35 rfl
theorem dL_law_1268 : decode cL_law 1268 = .ok (.invokevirtual 146, 3) := dec_of (decode cL_law) da_442 36 rfl
theorem dL_law_1271 : decode cL_law 1271 = .ok (.pop, 1) := dec_of (decode cL_law) da_442 37 rfl
theorem dL_law_1272 : decode cL_law 1272 = .ok (.goto 277, 3) := dec_of (decode cL_law) da_442 38 rfl
theorem dL_law_1275 : decode cL_law 1275 = .ok (.aload_n 1, 1) := dec_of (decode cL_law) da_442 39 rfl
abbrev dl_443 : List (Nat × Except DecodeError (Instr × Nat)) := [(1276, .ok (.aload_n 0, 1)), (1277, .ok (.iload 4, 2)), (1279, .ok (.iconst 1, 1)), (1280, .ok (.iadd, 1)), (1281, .ok (.iaload, 1)), (1282, .ok (.invokevirtual 147, 3)), (1285, .ok (.pop, 1)), (1286, .ok (.aload_n 2, 1)), (1287, .ok (.aload_n 0, 1)), (1288, .ok (.iload 4, 2)), (1290, .ok (.iconst 1, 1)), (1291, .ok (.iadd, 1)), (1292, .ok (.iaload, 1)), (1293, .ok (.invokevirtual 150, 3)), (1296, .ok (.pop, 1)), (1297, .ok (.goto 252, 3)), (1300, .ok (.aload_n 1, 1)), (1301, .ok (.invokevirtual 151, 3)), (1304, .ok (.pop, 1)), (1305, .ok (.aload_n 2, 1)), (1306, .ok (.invokevirtual 154, 3)), (1309, .ok (.pop, 1)), (1310, .ok (.goto 239, 3)), (1313, .ok (.aload_n 1, 1)), (1314, .ok (.aload_n 0, 1)), (1315, .ok (.iload 4, 2)), (1317, .ok (.iconst 1, 1)), (1318, .ok (.iadd, 1)), (1319, .ok (.iaload, 1)), (1320, .ok (.aload_n 0, 1)), (1321, .ok (.iload 4, 2)), (1323, .ok (.iconst 2, 1)), (1324, .ok (.iadd, 1)), (1325, .ok (.iaload, 1)), (1326, .ok (.invokevirtual 155, 3)), (1329, .ok (.pop, 1)), (1330, .ok (.aload_n 2, 1)), (1331, .ok (.aload_n 0, 1)), (1332, .ok (.iload 4, 2)), (1334, .ok (.iconst 1, 1))]
theorem da_443 : dl_443.all (fun q => decide (decode cL_law q.1 = q.2)) = true := by decide +kernel
theorem dL_law_1276 : decode cL_law 1276 = .ok (.aload_n 0, 1) := dec_of (decode cL_law) da_443 0 rfl
theorem dL_law_1277 : decode cL_law 1277 = .ok (.iload 4, 2) := dec_of (decode cL_law) da_443 1 rfl
theorem dL_law_1279 : decode cL_law 1279 = .ok (.iconst 1, 1) := dec_of (decode cL_law) da_443 2 rfl
theorem dL_law_1280 : decode cL_law 1280 = .ok (.iadd, 1) := dec_of (decode cL_law) da_443 3 rfl
theorem dL_law_1281 : decode cL_law 1281 = .ok (.iaload, 1) := dec_of (decode cL_law) da_443 4 rfl
theorem dL_law_1282 : decode cL_law 1282 = .ok (.invokevirtual 147, 3) := dec_of (decode cL_law) da_443 5 rfl
theorem dL_law_1285 : decode cL_law 1285 = .ok (.pop, 1) := dec_of (decode cL_law) da_443 6 rfl
theorem dL_law_1286 : decode cL_law 1286 = .ok (.aload_n 2, 1) := dec_of (decode cL_law) da_443 7 rfl
theorem dL_law_1287 : decode cL_law 1287 = .ok (.aload_n 0, 1) := dec_of (decode cL_law) da_443 8 rfl
theorem dL_law_1288 : decode cL_law 1288 = .ok (.iload 4, 2) := dec_of (decode cL_law) da_443 9 rfl
theorem dL_law_1290 : decode cL_law 1290 = .ok (.iconst 1, 1) := dec_of (decode cL_law) da_443 10 rfl
theorem dL_law_1291 : decode cL_law 1291 = .ok (.iadd, 1) := dec_of (decode cL_law) da_443 11 rfl
theorem dL_law_1292 : decode cL_law 1292 = .ok (.iaload, 1) := dec_of (decode cL_law) da_443 12 rfl
theorem dL_law_1293 : decode cL_law 1293 = .ok (.invokevirtual 150, 3) := dec_of (decode cL_law) da_443 13 rfl
theorem dL_law_1296 : decode cL_law 1296 = .ok (.pop, 1) := dec_of (decode cL_law) da_443 14 rfl
theorem dL_law_1297 : decode cL_law 1297 = .ok (.goto 252, 3) := dec_of (decode cL_law) da_443 15 rfl
theorem dL_law_1300 : decode cL_law 1300 = .ok (.aload_n 1, 1) := dec_of (decode cL_law) da_443 16 rfl
theorem dL_law_1301 : decode cL_law 1301 = .ok (.invokevirtual 151, 3) := dec_of (decode cL_law) da_443 17 rfl
theorem dL_law_1304 : decode cL_law 1304 = .ok (.pop, 1) := dec_of (decode cL_law) da_443 18 rfl
theorem dL_law_1305 : decode cL_law 1305 = .ok (.aload_n 2, 1) := dec_of (decode cL_law) da_443 19 rfl
theorem dL_law_1306 : decode cL_law 1306 = .ok (.invokevirtual 154, 3) := dec_of (decode cL_law) da_443 20 rfl
theorem dL_law_1309 : decode cL_law 1309 = .ok (.pop, 1) := dec_of (decode cL_law) da_443 21 rfl
theorem dL_law_1310 : decode cL_law 1310 = .ok (.goto 239, 3) := dec_of (decode cL_law) da_443 22 rfl
theorem dL_law_1313 : decode cL_law 1313 = .ok (.aload_n 1, 1) := dec_of (decode cL_law) da_443 23 rfl
theorem dL_law_1314 : decode cL_law 1314 = .ok (.aload_n 0, 1) := dec_of (decode cL_law) da_443 24 rfl
theorem dL_law_1315 : decode cL_law 1315 = .ok (.iload 4, 2) := dec_of (decode cL_law) da_443 25 rfl
theorem dL_law_1317 : decode cL_law 1317 = .ok (.iconst 1, 1) := dec_of (decode cL_law) da_443 26 rfl
theorem dL_law_1318 : decode cL_law 1318 = .ok (.iadd, 1) := dec_of (decode cL_law) da_443 27 rfl
theorem dL_law_1319 : decode cL_law 1319 = .ok (.iaload, 1) := dec_of (decode cL_law) da_443 28 rfl
theorem dL_law_1320 : decode cL_law 1320 = .ok (.aload_n 0, 1) := dec_of (decode cL_law) da_443 29 rfl
theorem dL_law_1321 : decode cL_law 1321 = .ok (.iload 4, 2) := dec_of (decode cL_law) da_443 30 rfl
theorem dL_law_1323 : decode cL_law 1323 = .ok (.iconst 2, 1) := dec_of (decode cL_law) da_443 31 rfl
theorem dL_law_1324 : decode cL_law 1324 = .ok (.iadd, 1) := dec_of (decode cL_law) da_443 32 rfl
theorem dL_law_1325 : decode cL_law 1325 = .ok (.iaload, 1) := dec_of (decode cL_law) da_443 33 rfl
theorem dL_law_1326 : decode cL_law 1326 = .ok (.invokevirtual 155, 3) := dec_of (decode cL_law) da_443 34 rfl
theorem dL_law_1329 : decode cL_law 1329 = .ok (.pop, 1) := dec_of (decode cL_law) da_443 35 rfl
theorem dL_law_1330 : decode cL_law 1330 = .ok (.aload_n 2, 1) := dec_of (decode cL_law) da_443 36 rfl
theorem dL_law_1331 : decode cL_law 1331 = .ok (.aload_n 0, 1) := dec_of (decode cL_law) da_443 37 rfl
theorem dL_law_1332 : decode cL_law 1332 = .ok (.iload 4, 2) := dec_of (decode cL_law) da_443 38 rfl
theorem dL_law_1334 : decode cL_law 1334 = .ok (.iconst 1, 1) := dec_of (decode cL_law) da_443 39 rfl
abbrev dl_444 : List (Nat × Except DecodeError (Instr × Nat)) := [(1335, .ok (.iadd, 1)), (1336, .ok (.iaload, 1)), (1337, .ok (.aload_n 0, 1)), (1338, .ok (.iload 4, 2)), (1340, .ok (.iconst 2, 1)), (1341, .ok (.iadd, 1)), (1342, .ok (.iaload, 1)), (1343, .ok (.invokevirtual 158, 3)), (1346, .ok (.pop, 1)), (1347, .ok (.goto 202, 3)), (1350, .ok (.aload_n 1, 1)), (1351, .ok (.aload_n 0, 1)), (1352, .ok (.iload 4, 2)), (1354, .ok (.iconst 1, 1)), (1355, .ok (.iadd, 1)), (1356, .ok (.iaload, 1)), (1357, .ok (.aload_n 0, 1)), (1358, .ok (.iload 4, 2)), (1360, .ok (.iconst 2, 1)), (1361, .ok (.iadd, 1)), (1362, .ok (.iaload, 1)), (1363, .ok (.invokevirtual 159, 3)), (1366, .ok (.pop, 1)), (1367, .ok (.aload_n 2, 1)), (1368, .ok (.aload_n 0, 1)), (1369, .ok (.iload 4, 2)), (1371, .ok (.iconst 1, 1)), (1372, .ok (.iadd, 1)), (1373, .ok (.iaload, 1)), (1374, .ok (.aload_n 0, 1)), (1375, .ok (.iload 4, 2)), (1377, .ok (.iconst 2, 1)), (1378, .ok (.iadd, 1)), (1379, .ok (.iaload, 1)), (1380, .ok (.invokevirtual 162, 3)), (1383, .ok (.pop, 1)), (1384, .ok (.goto 165, 3)), (1387, .ok (.aload_n 1, 1)), (1388, .ok (.aload_n 0, 1)), (1389, .ok (.iload 4, 2))]
theorem da_444 : dl_444.all (fun q => decide (decode cL_law q.1 = q.2)) = true := by decide +kernel
theorem dL_law_1335 : decode cL_law 1335 = .ok (.iadd, 1) := dec_of (decode cL_law) da_444 0 rfl
theorem dL_law_1336 : decode cL_law 1336 = .ok (.iaload, 1) := dec_of (decode cL_law) da_444 1 rfl
theorem dL_law_1337 : decode cL_law 1337 = .ok (.aload_n 0, 1) := dec_of (decode cL_law) da_444 2 rfl
theorem dL_law_1338 : decode cL_law 1338 = .ok (.iload 4, 2) := dec_of (decode cL_law) da_444 3 rfl
theorem dL_law_1340 : decode cL_law 1340 = .ok (.iconst 2, 1) := dec_of (decode cL_law) da_444 4 rfl
theorem dL_law_1341 : decode cL_law 1341 = .ok (.iadd, 1) := dec_of (decode cL_law) da_444 5 rfl
theorem dL_law_1342 : decode cL_law 1342 = .ok (.iaload, 1) := dec_of (decode cL_law) da_444 6 rfl
theorem dL_law_1343 : decode cL_law 1343 = .ok (.invokevirtual 158, 3) := dec_of (decode cL_law) da_444 7 rfl
theorem dL_law_1346 : decode cL_law 1346 = .ok (.pop, 1) := dec_of (decode cL_law) da_444 8 rfl
theorem dL_law_1347 : decode cL_law 1347 = .ok (.goto 202, 3) := dec_of (decode cL_law) da_444 9 rfl
theorem dL_law_1350 : decode cL_law 1350 = .ok (.aload_n 1, 1) := dec_of (decode cL_law) da_444 10 rfl
theorem dL_law_1351 : decode cL_law 1351 = .ok (.aload_n 0, 1) := dec_of (decode cL_law) da_444 11 rfl
theorem dL_law_1352 : decode cL_law 1352 = .ok (.iload 4, 2) := dec_of (decode cL_law) da_444 12 rfl
theorem dL_law_1354 : decode cL_law 1354 = .ok (.iconst 1, 1) := dec_of (decode cL_law) da_444 13 rfl
theorem dL_law_1355 : decode cL_law 1355 = .ok (.iadd, 1) := dec_of (decode cL_law) da_444 14 rfl
theorem dL_law_1356 : decode cL_law 1356 = .ok (.iaload, 1) := dec_of (decode cL_law) da_444 15 rfl
theorem dL_law_1357 : decode cL_law 1357 = .ok (.aload_n 0, 1) := dec_of (decode cL_law) da_444 16 rfl
theorem dL_law_1358 : decode cL_law 1358 = .ok (.iload 4, 2) := dec_of (decode cL_law) da_444 17 rfl
theorem dL_law_1360 : decode cL_law 1360 = .ok (.iconst 2, 1) := dec_of (decode cL_law) da_444 18 rfl
theorem dL_law_1361 : decode cL_law 1361 = .ok (.iadd, 1) := dec_of (decode cL_law) da_444 19 rfl
theorem dL_law_1362 : decode cL_law 1362 = .ok (.iaload, 1) := dec_of (decode cL_law) da_444 20 rfl
theorem dL_law_1363 : decode cL_law 1363 = .ok (.invokevirtual 159, 3) := dec_of (decode cL_law) da_444 21 rfl
theorem dL_law_1366 : decode cL_law 1366 = .ok (.pop, 1) := dec_of (decode cL_law) da_444 22 rfl
theorem dL_law_1367 : decode cL_law 1367 = .ok (.aload_n 2, 1) := dec_of (decode cL_law) da_444 23 rfl
theorem dL_law_1368 : decode cL_law 1368 = .ok (.aload_n 0, 1) := dec_of (decode cL_law) da_444 24 rfl
theorem dL_law_1369 : decode cL_law 1369 = .ok (.iload 4, 2) := dec_of (decode cL_law) da_444 25 rfl
theorem dL_law_1371 : decode cL_law 1371 = .ok (.iconst 1, 1) := dec_of (decode cL_law) da_444 26 rfl
theorem dL_law_1372 : decode cL_law 1372 = .ok (.iadd, 1) := dec_of (decode cL_law) da_444 27 rfl
theorem dL_law_1373 : decode cL_law 1373 = .ok (.iaload, 1) := dec_of (decode cL_law) da_444 28 rfl
theorem dL_law_1374 : decode cL_law 1374 = .ok (.aload_n 0, 1) := dec_of (decode cL_law) da_444 29 rfl
theorem dL_law_1375 : decode cL_law 1375 = .ok (.iload 4, 2) := dec_of (decode cL_law) da_444 30 rfl
theorem dL_law_1377 : decode cL_law 1377 = .ok (.iconst 2, 1) := dec_of (decode cL_law) da_444 31 rfl
theorem dL_law_1378 : decode cL_law 1378 = .ok (.iadd, 1) := dec_of (decode cL_law) da_444 32 rfl
theorem dL_law_1379 : decode cL_law 1379 = .ok (.iaload, 1) := dec_of (decode cL_law) da_444 33 rfl
theorem dL_law_1380 : decode cL_law 1380 = .ok (.invokevirtual 162, 3) := dec_of (decode cL_law) da_444 34 rfl
theorem dL_law_1383 : decode cL_law 1383 = .ok (.pop, 1) := dec_of (decode cL_law) da_444 35 rfl
theorem dL_law_1384 : decode cL_law 1384 = .ok (.goto 165, 3) := dec_of (decode cL_law) da_444 36 rfl
theorem dL_law_1387 : decode cL_law 1387 = .ok (.aload_n 1, 1) := dec_of (decode cL_law) da_444 37 rfl
theorem dL_law_1388 : decode cL_law 1388 = .ok (.aload_n 0, 1) := dec_of (decode cL_law) da_444 38 rfl
theorem dL_law_1389 : decode cL_law 1389 = .ok (.iload 4, 2) := dec_of (decode cL_law) da_444 39 rfl
abbrev dl_445 : List (Nat × Except DecodeError (Instr × Nat)) := [(1391, .ok (.iconst 1, 1)), (1392, .ok (.iadd, 1)), (1393, .ok (.iaload, 1)), (1394, .ok (.aload_n 0, 1)), (1395, .ok (.iload 4, 2)), (1397, .ok (.iconst 2, 1)), (1398, .ok (.iadd, 1)), (1399, .ok (.iaload, 1)), (1400, .ok (.aload_n 0, 1)), (1401, .ok (.iload 4, 2)), (1403, .ok (.iconst 3, 1)), (1404, .ok (.iadd, 1)), (1405, .ok (.iaload, 1)), (1406, .ok (.invokevirtual 163, 3)), (1409, .ok (.pop, 1)), (1410, .ok (.aload_n 2, 1)), (1411, .ok (.aload_n 0, 1)), (1412, .ok (.iload 4, 2)), (1414, .ok (.iconst 1, 1)), (1415, .ok (.iadd, 1)), (1416, .ok (.iaload, 1)), (1417, .ok (.aload_n 0, 1)), (1418, .ok (.iload 4, 2)), (1420, .ok (.iconst 2, 1)), (1421, .ok (.iadd, 1)), (1422, .ok (.iaload, 1)), (1423, .ok (.aload_n 0, 1)), (1424, .ok (.iload 4, 2)), (1426, .ok (.iconst 3, 1)), (1427, .ok (.iadd, 1)), (1428, .ok (.iaload, 1)), (1429, .ok (.invokevirtual 166, 3)), (1432, .ok (.pop, 1)), (1433, .ok (.goto 116, 3)), (1436, .ok (.aload_n 1, 1)), (1437, .ok (.aload_n 0, 1)), (1438, .ok (.iload 4, 2)), (1440, .ok (.iconst 1, 1)), (1441, .ok (.iadd, 1)), (1442, .ok (.iaload, 1))]
theorem da_445 : dl_445.all (fun q => decide (decode cL_law q.1 = q.2)) = true := by decide +kernel
theorem dL_law_1391 : decode cL_law 1391 = .ok (.iconst 1, 1) := dec_of (decode cL_law) da_445 0 rfl
theorem dL_law_1392 : decode cL_law 1392 = .ok (.iadd, 1) := dec_of (decode cL_law) da_445 1 rfl
theorem dL_law_1393 : decode cL_law 1393 = .ok (.iaload, 1) := dec_of (decode cL_law) da_445 2 rfl
theorem dL_law_1394 : decode cL_law 1394 = .ok (.aload_n 0, 1) := dec_of (decode cL_law) da_445 3 rfl
theorem dL_law_1395 : decode cL_law 1395 = .ok (.iload 4, 2) := dec_of (decode cL_law) da_445 4 rfl
theorem dL_law_1397 : decode cL_law 1397 = .ok (.iconst 2, 1) := dec_of (decode cL_law) da_445 5 rfl
theorem dL_law_1398 : decode cL_law 1398 = .ok (.iadd, 1) := dec_of (decode cL_law) da_445 6 rfl
theorem dL_law_1399 : decode cL_law 1399 = .ok (.iaload, 1) := dec_of (decode cL_law) da_445 7 rfl
theorem dL_law_1400 : decode cL_law 1400 = .ok (.aload_n 0, 1) := dec_of (decode cL_law) da_445 8 rfl
theorem dL_law_1401 : decode cL_law 1401 = .ok (.iload 4, 2) := dec_of (decode cL_law) da_445 9 rfl
theorem dL_law_1403 : decode cL_law 1403 = .ok (.iconst 3, 1) := dec_of (decode cL_law) da_445 10 rfl
theorem dL_law_1404 : decode cL_law 1404 = .ok (.iadd, 1) := dec_of (decode cL_law) da_445 11 rfl
theorem dL_law_1405 : decode cL_law 1405 = .ok (.iaload, 1) := dec_of (decode cL_law) da_445 12 rfl
theorem dL_law_1406 : decode cL_law 1406 = .ok (.invokevirtual 163, 3) := dec_of (decode cL_law) da_445 13 rfl
theorem dL_law_1409 : decode cL_law 1409 = .ok (.pop, 1) := dec_of (decode cL_law) da_445 14 rfl
theorem dL_law_1410 : decode cL_law 1410 = .ok (.aload_n 2, 1) := dec_of (decode cL_law) da_445 15 rfl
theorem dL_law_1411 : decode cL_law 1411 = .ok (.aload_n 0, 1) := dec_of (decode cL_law) da_445 16 rfl
theorem dL_law_1412 : decode cL_law 1412 = .ok (.iload 4, 2) := dec_of (decode cL_law) da_445 17 rfl
theorem dL_law_1414 : decode cL_law 1414 = .ok (.iconst 1, 1) := dec_of (decode cL_law) da_445 18 rfl
theorem dL_law_1415 : decode cL_law 1415 = .ok (.iadd, 1) := dec_of (decode cL_law) da_445 19 rfl
theorem dL_law_1416 : decode cL_law 1416 = .ok (.iaload, 1) := dec_of (decode cL_law) da_445 20 rfl
theorem dL_law_1417 : decode cL_law 1417 = .ok (.aload_n 0, 1) := dec_of (decode cL_law) da_445 21 rfl
theorem dL_law_1418 : decode cL_law 1418 = .ok (.iload 4, 2) := dec_of (decode cL_law) da_445 22 rfl
theorem dL_law_1420 : decode cL_law 1420 = .ok (.iconst 2, 1) := dec_of (decode cL_law) da_445 23 rfl
theorem dL_law_1421 : decode cL_law 1421 = .ok (.iadd, 1) := dec_of (decode cL_law) da_445 24 rfl
theorem dL_law_1422 : decode cL_law 1422 = .ok (.iaload, 1) := dec_of (decode cL_law) da_445 25 rfl
theorem dL_law_1423 : decode cL_law 1423 = .ok (.aload_n 0, 1) := dec_of (decode cL_law) da_445 26 rfl
theorem dL_law_1424 : decode cL_law 1424 = .ok (.iload 4, 2) := dec_of (decode cL_law) da_445 27 rfl
theorem dL_law_1426 : decode cL_law 1426 = .ok (.iconst 3, 1) := dec_of (decode cL_law) da_445 28 rfl
theorem dL_law_1427 : decode cL_law 1427 = .ok (.iadd, 1) := dec_of (decode cL_law) da_445 29 rfl
theorem dL_law_1428 : decode cL_law 1428 = .ok (.iaload, 1) := dec_of (decode cL_law) da_445 30 rfl
theorem dL_law_1429 : decode cL_law 1429 = .ok (.invokevirtual 166, 3) := dec_of (decode cL_law) da_445 31 rfl
theorem dL_law_1432 : decode cL_law 1432 = .ok (.pop, 1) := dec_of (decode cL_law) da_445 32 rfl
theorem dL_law_1433 : decode cL_law 1433 = .ok (.goto 116, 3) := dec_of (decode cL_law) da_445 33 rfl
theorem dL_law_1436 : decode cL_law 1436 = .ok (.aload_n 1, 1) := dec_of (decode cL_law) da_445 34 rfl
theorem dL_law_1437 : decode cL_law 1437 = .ok (.aload_n 0, 1) := dec_of (decode cL_law) da_445 35 rfl
theorem dL_law_1438 : decode cL_law 1438 = .ok (.iload 4, 2) := dec_of (decode cL_law) da_445 36 rfl
theorem dL_law_1440 : decode cL_law 1440 = .ok (.iconst 1, 1) := dec_of (decode cL_law) da_445 37 rfl
theorem dL_law_1441 : decode cL_law 1441 = .ok (.iadd, 1) := dec_of (decode cL_law) da_445 38 rfl
theorem dL_law_1442 : decode cL_law 1442 = .ok (.iaload, 1) := dec_of (decode cL_law) da_445 39 rfl
abbrev dl_446 : List (Nat × Except DecodeError (Instr × Nat)) := [(1443, .ok (.aload_n 0, 1)), (1444, .ok (.iload 4, 2)), (1446, .ok (.iconst 2, 1)), (1447, .ok (.iadd, 1)), (1448, .ok (.iaload, 1)), (1449, .ok (.aload_n 0, 1)), (1450, .ok (.iload 4, 2)), (1452, .ok (.iconst 3, 1)), (1453, .ok (.iadd, 1)), (1454, .ok (.iaload, 1)), (1455, .ok (.invokevirtual 167, 3)), (1458, .ok (.pop, 1)), (1459, .ok (.aload_n 2, 1)), (1460, .ok (.aload_n 0, 1)), (1461, .ok (.iload 4, 2)), (1463, .ok (.iconst 1, 1)), (1464, .ok (.iadd, 1)), (1465, .ok (.iaload, 1)), (1466, .ok (.aload_n 0, 1)), (1467, .ok (.iload 4, 2)), (1469, .ok (.iconst 2, 1)), (1470, .ok (.iadd, 1)), (1471, .ok (.iaload, 1)), (1472, .ok (.aload_n 0, 1)), (1473, .ok (.iload 4, 2)), (1475, .ok (.iconst 3, 1)), (1476, .ok (.iadd, 1)), (1477, .ok (.iaload, 1)), (1478, .ok (.invokevirtual 170, 3)), (1481, .ok (.pop, 1)), (1482, .ok (.goto 67, 3)), (1485, .ok (.aload_n 1, 1)), (1486, .ok (.invokevirtual 171, 3)), (1489, .ok (.pop, 1)), (1490, .ok (.aload_n 2, 1)), (1491, .ok (.invokevirtual 174, 3)), (1494, .ok (.pop, 1)), (1495, .ok (.goto 54, 3)), (1498, .ok (.aload_n 1, 1)), (1499, .ok (.invokevirtual 175, 3))]
theorem da_446 : dl_446.all (fun q => decide (decode cL_law q.1 = q.2)) = true := by decide +kernel
theorem dL_law_1443 : decode cL_law 1443 = .ok (.aload_n 0, 1) := dec_of (decode cL_law) da_446 0 rfl
theorem dL_law_1444 : decode cL_law 1444 = .ok (.iload 4, 2) := dec_of (decode cL_law) da_446 1 rfl
theorem dL_law_1446 : decode cL_law 1446 = .ok (.iconst 2, 1) := dec_of (decode cL_law) da_446 2 rfl
theorem dL_law_1447 : decode cL_law 1447 = .ok (.iadd, 1) := dec_of (decode cL_law) da_446 3 rfl
theorem dL_law_1448 : decode cL_law 1448 = .ok (.iaload, 1) := dec_of (decode cL_law) da_446 4 rfl
theorem dL_law_1449 : decode cL_law 1449 = .ok (.aload_n 0, 1) := dec_of (decode cL_law) da_446 5 rfl
theorem dL_law_1450 : decode cL_law 1450 = .ok (.iload 4, 2) := dec_of (decode cL_law) da_446 6 rfl
theorem dL_law_1452 : decode cL_law 1452 = .ok (.iconst 3, 1) := dec_of (decode cL_law) da_446 7 rfl
theorem dL_law_1453 : decode cL_law 1453 = .ok (.iadd, 1) := dec_of (decode cL_law) da_446 8 rfl
theorem dL_law_1454 : decode cL_law 1454 = .ok (.iaload, 1) := dec_of (decode cL_law) da_446 9 rfl
theorem dL_law_1455 : decode cL_law 1455 = .ok (.invokevirtual 167, 3) := dec_of (decode cL_law) da_446 10 rfl
theorem dL_law_1458 : decode cL_law 1458 = .ok (.pop, 1) := dec_of (decode cL_law) da_446 11 rfl
theorem dL_law_1459 : decode cL_law 1459 = .ok (.aload_n 2, 1) := dec_of (decode cL_law) da_446 12 rfl
theorem dL_law_1460 : decode cL_law 1460 = .ok (.aload_n 0, 1) := dec_of (decode cL_law) da_446 13 rfl
theorem dL_law_1461 : decode cL_law 1461 = .ok (.iload 4, 2) := dec_of (decode cL_law) da_446 14 rfl
theorem dL_law_1463 : decode cL_law 1463 = .ok (.iconst 1, 1) := dec_of (decode cL_law) da_446 15 rfl
theorem dL_law_1464 : decode cL_law 1464 = .ok (.iadd, 1) := dec_of (decode cL_law) da_446 16 rfl
theorem dL_law_1465 : decode cL_law 1465 = .ok (.iaload, 1) := dec_of (decode cL_law) da_446 17 rfl
theorem dL_law_1466 : decode cL_law 1466 = .ok (.aload_n 0, 1) := dec_of (decode cL_law) da_446 18 rfl
theorem dL_law_1467 : decode cL_law 1467 = .ok (.iload 4, 2) := dec_of (decode cL_law) da_446 19 rfl
theorem dL_law_1469 : decode cL_law 1469 = .ok (.iconst 2, 1) := dec_of (decode cL_law) da_446 20 rfl
theorem dL_law_1470 : decode cL_law 1470 = .ok (.iadd, 1) := dec_of (decode cL_law) da_446 21 rfl
theorem dL_law_1471 : decode cL_law 1471 = .ok (.iaload, 1) := dec_of (decode cL_law) da_446 22 rfl
theorem dL_law_1472 : decode cL_law 1472 = .ok (.aload_n 0, 1) := dec_of (decode cL_law) da_446 23 rfl
theorem dL_law_1473 : decode cL_law 1473 = .ok (.iload 4, 2) := dec_of (decode cL_law) da_446 24 rfl
theorem dL_law_1475 : decode cL_law 1475 = .ok (.iconst 3, 1) := dec_of (decode cL_law) da_446 25 rfl
theorem dL_law_1476 : decode cL_law 1476 = .ok (.iadd, 1) := dec_of (decode cL_law) da_446 26 rfl
theorem dL_law_1477 : decode cL_law 1477 = .ok (.iaload, 1) := dec_of (decode cL_law) da_446 27 rfl
theorem dL_law_1478 : decode cL_law 1478 = .ok (.invokevirtual 170, 3) := dec_of (decode cL_law) da_446 28 rfl
theorem dL_law_1481 : decode cL_law 1481 = .ok (.pop, 1) := dec_of (decode cL_law) da_446 29 rfl
theorem dL_law_1482 : decode cL_law 1482 = .ok (.goto 67, 3) := dec_of (decode cL_law) da_446 30 rfl
theorem dL_law_1485 : decode cL_law 1485 = .ok (.aload_n 1, 1) := dec_of (decode cL_law) da_446 31 rfl
theorem dL_law_1486 : decode cL_law 1486 = .ok (.invokevirtual 171, 3) := dec_of (decode cL_law) da_446 32 rfl
theorem dL_law_1489 : decode cL_law 1489 = .ok (.pop, 1) := dec_of (decode cL_law) da_446 33 rfl
theorem dL_law_1490 : decode cL_law 1490 = .ok (.aload_n 2, 1) := dec_of (decode cL_law) da_446 34 rfl
theorem dL_law_1491 : decode cL_law 1491 = .ok (.invokevirtual 174, 3) := dec_of (decode cL_law) da_446 35 rfl
theorem dL_law_1494 : decode cL_law 1494 = .ok (.pop, 1) := dec_of (decode cL_law) da_446 36 rfl
theorem dL_law_1495 : decode cL_law 1495 = .ok (.goto 54, 3) := dec_of (decode cL_law) da_446 37 rfl
theorem dL_law_1498 : decode cL_law 1498 = .ok (.aload_n 1, 1) := dec_of (decode cL_law) da_446 38 rfl
theorem dL_law_1499 : decode cL_law 1499 = .ok (.invokevirtual 175, 3) := dec_of (decode cL_law) da_446 39 rfl
abbrev dl_447 : List (Nat × Except DecodeError (Instr × Nat)) := [(1502, .ok (.pop, 1)), (1503, .ok (.aload_n 2, 1)), (1504, .ok (.invokevirtual 178, 3)), (1507, .ok (.pop, 1)), (1508, .ok (.goto 41, 3)), (1511, .ok (.aload_n 1, 1)), (1512, .ok (.invokevirtual 179, 3)), (1515, .ok (.pop, 1)), (1516, .ok (.aload_n 2, 1)), (1517, .ok (.invokevirtual 182, 3)), (1520, .ok (.pop, 1)), (1521, .ok (.goto 28, 3)), (1524, .ok (.aload_n 1, 1)), (1525, .ok (.aload_n 0, 1)), (1526, .ok (.iload 4, 2)), (1528, .ok (.iconst 1, 1)), (1529, .ok (.iadd, 1)), (1530, .ok (.iaload, 1)), (1531, .ok (.invokevirtual 183, 3)), (1534, .ok (.pop, 1)), (1535, .ok (.aload_n 2, 1)), (1536, .ok (.aload_n 0, 1)), (1537, .ok (.iload 4, 2)), (1539, .ok (.iconst 1, 1)), (1540, .ok (.iadd, 1)), (1541, .ok (.iaload, 1)), (1542, .ok (.invokevirtual 186, 3)), (1545, .ok (.pop, 1)), (1546, .ok (.goto 3, 3)), (1549, .ok (.iinc 4 6, 3)), (1552, .ok (.goto (-1529), 3)), (1555, .ok (.iconst 1, 1)), (1556, .ok (.ireturn, 1))]
theorem da_447 : dl_447.all (fun q => decide (decode cL_law q.1 = q.2)) = true := by decide +kernel
theorem dL_law_1502 : decode cL_law 1502 = .ok (.pop, 1) := dec_of (decode cL_law) da_447 0 rfl
theorem dL_law_1503 : decode cL_law 1503 = .ok (.aload_n 2, 1) := dec_of (decode cL_law) da_447 1 rfl
theorem dL_law_1504 : decode cL_law 1504 = .ok (.invokevirtual 178, 3) := dec_of (decode cL_law) da_447 2 rfl
theorem dL_law_1507 : decode cL_law 1507 = .ok (.pop, 1) := dec_of (decode cL_law) da_447 3 rfl
theorem dL_law_1508 : decode cL_law 1508 = .ok (.goto 41, 3) := dec_of (decode cL_law) da_447 4 rfl
theorem dL_law_1511 : decode cL_law 1511 = .ok (.aload_n 1, 1) := dec_of (decode cL_law) da_447 5 rfl
theorem dL_law_1512 : decode cL_law 1512 = .ok (.invokevirtual 179, 3) := dec_of (decode cL_law) da_447 6 rfl
theorem dL_law_1515 : decode cL_law 1515 = .ok (.pop, 1) := dec_of (decode cL_law) da_447 7 rfl
theorem dL_law_1516 : decode cL_law 1516 = .ok (.aload_n 2, 1) := dec_of (decode cL_law) da_447 8 rfl
theorem dL_law_1517 : decode cL_law 1517 = .ok (.invokevirtual 182, 3) := dec_of (decode cL_law) da_447 9 rfl
theorem dL_law_1520 : decode cL_law 1520 = .ok (.pop, 1) := dec_of (decode cL_law) da_447 10 rfl
theorem dL_law_1521 : decode cL_law 1521 = .ok (.goto 28, 3) := dec_of (decode cL_law) da_447 11 rfl
theorem dL_law_1524 : decode cL_law 1524 = .ok (.aload_n 1, 1) := dec_of (decode cL_law) da_447 12 rfl
theorem dL_law_1525 : decode cL_law 1525 = .ok (.aload_n 0, 1) := dec_of (decode cL_law) da_447 13 rfl
theorem dL_law_1526 : decode cL_law 1526 = .ok (.iload 4, 2) := dec_of (decode cL_law) da_447 14 rfl
theorem dL_law_1528 : decode cL_law 1528 = .ok (.iconst 1, 1) := dec_of (decode cL_law) da_447 15 rfl
theorem dL_law_1529 : decode cL_law 1529 = .ok (.iadd, 1) := dec_of (decode cL_law) da_447 16 rfl
theorem dL_law_1530 : decode cL_law 1530 = .ok (.iaload, 1) := dec_of (decode cL_law) da_447 17 rfl
theorem dL_law_1531 : decode cL_law 1531 = .ok (.invokevirtual 183, 3) := dec_of (decode cL_law) da_447 18 rfl
theorem dL_law_1534 : decode cL_law 1534 = .ok (.pop, 1) := dec_of (decode cL_law) da_447 19 rfl
theorem dL_law_1535 : decode cL_law 1535 = .ok (.aload_n 2, 1) := dec_of (decode cL_law) da_447 20 rfl
theorem dL_law_1536 : decode cL_law 1536 = .ok (.aload_n 0, 1) := dec_of (decode cL_law) da_447 21 rfl
theorem dL_law_1537 : decode cL_law 1537 = .ok (.iload 4, 2) := dec_of (decode cL_law) da_447 22 rfl
theorem dL_law_1539 : decode cL_law 1539 = .ok (.iconst 1, 1) := dec_of (decode cL_law) da_447 23 rfl
theorem dL_law_1540 : decode cL_law 1540 = .ok (.iadd, 1) := dec_of (decode cL_law) da_447 24 rfl
theorem dL_law_1541 : decode cL_law 1541 = .ok (.iaload, 1) := dec_of (decode cL_law) da_447 25 rfl
theorem dL_law_1542 : decode cL_law 1542 = .ok (.invokevirtual 186, 3) := dec_of (decode cL_law) da_447 26 rfl
theorem dL_law_1545 : decode cL_law 1545 = .ok (.pop, 1) := dec_of (decode cL_law) da_447 27 rfl
theorem dL_law_1546 : decode cL_law 1546 = .ok (.goto 3, 3) := dec_of (decode cL_law) da_447 28 rfl

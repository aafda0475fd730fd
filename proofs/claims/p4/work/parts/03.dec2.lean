theorem dX10_coughing_71 : decode cX10_coughing 71 = .ok (.aload_n 0, 1) := by decide +kernel
theorem dX10_coughing_72 : decode cX10_coughing 72 = .ok (.iload_n 1, 1) := by decide +kernel
theorem dX10_coughing_73 : decode cX10_coughing 73 = .ok (.iload_n 2, 1) := by decide +kernel
theorem dX10_coughing_74 : decode cX10_coughing 74 = .ok (.invokevirtual 371, 3) := by decide +kernel
theorem dX10_coughing_77 : decode cX10_coughing 77 = .ok (.if_icmp .lt 19, 3) := by decide +kernel
theorem dX10_coughing_80 : decode cX10_coughing 80 = .ok (.aload_n 0, 1) := by decide +kernel
theorem dX10_coughing_81 : decode cX10_coughing 81 = .ok (.iload_n 1, 1) := by decide +kernel
theorem dX10_coughing_82 : decode cX10_coughing 82 = .ok (.invokevirtual 374, 3) := by decide +kernel
theorem dX10_coughing_85 : decode cX10_coughing 85 = .ok (.ifCond .ne 11, 3) := by decide +kernel
theorem dX10_coughing_88 : decode cX10_coughing 88 = .ok (.aload_n 0, 1) := by decide +kernel
theorem dX10_coughing_89 : decode cX10_coughing 89 = .ok (.iload_n 1, 1) := by decide +kernel
theorem dX10_coughing_90 : decode cX10_coughing 90 = .ok (.iconst 0, 1) := by decide +kernel
theorem dX10_coughing_91 : decode cX10_coughing 91 = .ok (.iconst 3, 1) := by decide +kernel
theorem dX10_coughing_92 : decode cX10_coughing 92 = .ok (.iload_n 2, 1) := by decide +kernel
theorem dX10_coughing_93 : decode cX10_coughing 93 = .ok (.invokevirtual 377, 3) := by decide +kernel
theorem dX10_coughing_96 : decode cX10_coughing 96 = .ok (.aload_n 0, 1) := by decide +kernel
theorem dX10_coughing_97 : decode cX10_coughing 97 = .ok (.getfield 78, 3) := by decide +kernel
theorem dX10_coughing_100 : decode cX10_coughing 100 = .ok (.iload_n 1, 1) := by decide +kernel
theorem dX10_coughing_101 : decode cX10_coughing 101 = .ok (.iconst 0, 1) := by decide +kernel
theorem dX10_coughing_102 : decode cX10_coughing 102 = .ok (.iastore, 1) := by decide +kernel
theorem dX10_coughing_103 : decode cX10_coughing 103 = .ok (.return_, 1) := by decide +kernel
theorem dX10_pour_0 : decode cX10_pour 0 = .ok (.aload_n 0, 1) := by decide +kernel
theorem dX10_pour_1 : decode cX10_pour 1 = .ok (.getfield 81, 3) := by decide +kernel
theorem dX10_pour_4 : decode cX10_pour 4 = .ok (.iload_n 1, 1) := by decide +kernel
theorem dX10_pour_5 : decode cX10_pour 5 = .ok (.iaload, 1) := by decide +kernel
theorem dX10_pour_6 : decode cX10_pour 6 = .ok (.ifCond .ne 4, 3) := by decide +kernel
theorem dX10_pour_9 : decode cX10_pour 9 = .ok (.return_, 1) := by decide +kernel
theorem dX10_pour_10 : decode cX10_pour 10 = .ok (.aload_n 0, 1) := by decide +kernel
theorem dX10_pour_11 : decode cX10_pour 11 = .ok (.getfield 84, 3) := by decide +kernel
theorem dX10_pour_14 : decode cX10_pour 14 = .ok (.bipush 8, 2) := by decide +kernel
theorem dX10_pour_16 : decode cX10_pour 16 = .ok (.iload_n 1, 1) := by decide +kernel
theorem dX10_pour_17 : decode cX10_pour 17 = .ok (.imul, 1) := by decide +kernel
theorem dX10_pour_18 : decode cX10_pour 18 = .ok (.iaload, 1) := by decide +kernel
theorem dX10_pour_19 : decode cX10_pour 19 = .ok (.istore_n 2, 1) := by decide +kernel
theorem dX10_pour_20 : decode cX10_pour 20 = .ok (.aload_n 0, 1) := by decide +kernel
theorem dX10_pour_21 : decode cX10_pour 21 = .ok (.getfield 13, 3) := by decide +kernel
theorem dX10_pour_24 : decode cX10_pour 24 = .ok (.iconst 2, 1) := by decide +kernel
theorem dX10_pour_25 : decode cX10_pour 25 = .ok (.iaload, 1) := by decide +kernel
theorem dX10_pour_26 : decode cX10_pour 26 = .ok (.aload_n 0, 1) := by decide +kernel
theorem dX10_pour_27 : decode cX10_pour 27 = .ok (.getfield 120, 3) := by decide +kernel
theorem dX10_pour_30 : decode cX10_pour 30 = .ok (.iconst 3, 1) := by decide +kernel
theorem dX10_pour_31 : decode cX10_pour 31 = .ok (.if_icmp .ne 7, 3) := by decide +kernel
theorem dX10_pour_34 : decode cX10_pour 34 = .ok (.iconst 1, 1) := by decide +kernel
theorem dX10_pour_35 : decode cX10_pour 35 = .ok (.goto 4, 3) := by decide +kernel
theorem dX10_pour_38 : decode cX10_pour 38 = .ok (.iconst 0, 1) := by decide +kernel
theorem dX10_pour_39 : decode cX10_pour 39 = .ok (.iadd, 1) := by decide +kernel
theorem dX10_pour_40 : decode cX10_pour 40 = .ok (.aload_n 0, 1) := by decide +kernel
theorem dX10_pour_41 : decode cX10_pour 41 = .ok (.getfield 28, 3) := by decide +kernel
theorem dX10_pour_44 : decode cX10_pour 44 = .ok (.iload_n 2, 1) := by decide +kernel
theorem dX10_pour_45 : decode cX10_pour 45 = .ok (.iaload, 1) := by decide +kernel
theorem dX10_pour_46 : decode cX10_pour 46 = .ok (.aload_n 0, 1) := by decide +kernel
theorem dX10_pour_47 : decode cX10_pour 47 = .ok (.getfield 93, 3) := by decide +kernel
theorem dX10_pour_50 : decode cX10_pour 50 = .ok (.bipush 8, 2) := by decide +kernel
theorem dX10_pour_52 : decode cX10_pour 52 = .ok (.iload_n 1, 1) := by decide +kernel
theorem dX10_pour_53 : decode cX10_pour 53 = .ok (.imul, 1) := by decide +kernel
theorem dX10_pour_54 : decode cX10_pour 54 = .ok (.iload_n 2, 1) := by decide +kernel
theorem dX10_pour_55 : decode cX10_pour 55 = .ok (.iadd, 1) := by decide +kernel
theorem dX10_pour_56 : decode cX10_pour 56 = .ok (.iaload, 1) := by decide +kernel
theorem dX10_pour_57 : decode cX10_pour 57 = .ok (.isub, 1) := by decide +kernel
theorem dX10_pour_58 : decode cX10_pour 58 = .ok (.invokestatic 380, 3) := by decide +kernel
theorem dX10_pour_61 : decode cX10_pour 61 = .ok (.istore_n 3, 1) := by decide +kernel
theorem dX10_pour_62 : decode cX10_pour 62 = .ok (.aload_n 0, 1) := by decide +kernel
theorem dX10_pour_63 : decode cX10_pour 63 = .ok (.getfield 120, 3) := by decide +kernel
theorem dX10_pour_66 : decode cX10_pour 66 = .ok (.iconst 4, 1) := by decide +kernel
theorem dX10_pour_67 : decode cX10_pour 67 = .ok (.if_icmp .eq 24, 3) := by decide +kernel
theorem dX10_pour_70 : decode cX10_pour 70 = .ok (.iload_n 3, 1) := by decide +kernel
theorem dX10_pour_71 : decode cX10_pour 71 = .ok (.aload_n 0, 1) := by decide +kernel
theorem dX10_pour_72 : decode cX10_pour 72 = .ok (.getfield 72, 3) := by decide +kernel
theorem dX10_pour_75 : decode cX10_pour 75 = .ok (.iload_n 1, 1) := by decide +kernel
theorem dX10_pour_76 : decode cX10_pour 76 = .ok (.iaload, 1) := by decide +kernel
theorem dX10_pour_77 : decode cX10_pour 77 = .ok (.invokestatic 380, 3) := by decide +kernel
theorem dX10_pour_80 : decode cX10_pour 80 = .ok (.istore_n 3, 1) := by decide +kernel
theorem dX10_pour_81 : decode cX10_pour 81 = .ok (.aload_n 0, 1) := by decide +kernel
theorem dX10_pour_82 : decode cX10_pour 82 = .ok (.getfield 72, 3) := by decide +kernel
theorem dX10_pour_85 : decode cX10_pour 85 = .ok (.iload_n 1, 1) := by decide +kernel
theorem dX10_pour_86 : decode cX10_pour 86 = .ok (.dup2, 1) := by decide +kernel
theorem dX10_pour_87 : decode cX10_pour 87 = .ok (.iaload, 1) := by decide +kernel
theorem dX10_pour_88 : decode cX10_pour 88 = .ok (.iload_n 3, 1) := by decide +kernel
theorem dX10_pour_89 : decode cX10_pour 89 = .ok (.isub, 1) := by decide +kernel
theorem dX10_pour_90 : decode cX10_pour 90 = .ok (.iastore, 1) := by decide +kernel
theorem dX10_pour_91 : decode cX10_pour 91 = .ok (.aload_n 0, 1) := by decide +kernel
theorem dX10_pour_92 : decode cX10_pour 92 = .ok (.getfield 93, 3) := by decide +kernel
theorem dX10_pour_95 : decode cX10_pour 95 = .ok (.bipush 8, 2) := by decide +kernel
theorem dX10_pour_97 : decode cX10_pour 97 = .ok (.iload_n 1, 1) := by decide +kernel
theorem dX10_pour_98 : decode cX10_pour 98 = .ok (.imul, 1) := by decide +kernel
theorem dX10_pour_99 : decode cX10_pour 99 = .ok (.iload_n 2, 1) := by decide +kernel
theorem dX10_pour_100 : decode cX10_pour 100 = .ok (.iadd, 1) := by decide +kernel
theorem dX10_pour_101 : decode cX10_pour 101 = .ok (.dup2, 1) := by decide +kernel
theorem dX10_pour_102 : decode cX10_pour 102 = .ok (.iaload, 1) := by decide +kernel
theorem dX10_pour_103 : decode cX10_pour 103 = .ok (.iload_n 3, 1) := by decide +kernel
theorem dX10_pour_104 : decode cX10_pour 104 = .ok (.iadd, 1) := by decide +kernel
theorem dX10_pour_105 : decode cX10_pour 105 = .ok (.iastore, 1) := by decide +kernel
theorem dX10_pour_106 : decode cX10_pour 106 = .ok (.return_, 1) := by decide +kernel
theorem dX10_levy_0 : decode cX10_levy 0 = .ok (.aload_n 0, 1) := by decide +kernel
theorem dX10_levy_1 : decode cX10_levy 1 = .ok (.getfield 114, 3) := by decide +kernel
theorem dX10_levy_4 : decode cX10_levy 4 = .ok (.iconst 3, 1) := by decide +kernel
theorem dX10_levy_5 : decode cX10_levy 5 = .ok (.iload_n 1, 1) := by decide +kernel
theorem dX10_levy_6 : decode cX10_levy 6 = .ok (.imul, 1) := by decide +kernel
theorem dX10_levy_7 : decode cX10_levy 7 = .ok (.iconst 2, 1) := by decide +kernel
theorem dX10_levy_8 : decode cX10_levy 8 = .ok (.iadd, 1) := by decide +kernel
theorem dX10_levy_9 : decode cX10_levy 9 = .ok (.iaload, 1) := by decide +kernel
theorem dX10_levy_10 : decode cX10_levy 10 = .ok (.istore_n 3, 1) := by decide +kernel
theorem dX10_levy_11 : decode cX10_levy 11 = .ok (.iload_n 2, 1) := by decide +kernel
theorem dX10_levy_12 : decode cX10_levy 12 = .ok (.aload_n 0, 1) := by decide +kernel
theorem dX10_levy_13 : decode cX10_levy 13 = .ok (.getfield 13, 3) := by decide +kernel
theorem dX10_levy_16 : decode cX10_levy 16 = .ok (.iconst 3, 1) := by decide +kernel
theorem dX10_levy_17 : decode cX10_levy 17 = .ok (.iaload, 1) := by decide +kernel
theorem dX10_levy_18 : decode cX10_levy 18 = .ok (.irem, 1) := by decide +kernel
theorem dX10_levy_19 : decode cX10_levy 19 = .ok (.ifCond .ne 20, 3) := by decide +kernel
theorem dX10_levy_22 : decode cX10_levy 22 = .ok (.iload_n 3, 1) := by decide +kernel
theorem dX10_levy_23 : decode cX10_levy 23 = .ok (.aload_n 0, 1) := by decide +kernel
theorem dX10_levy_24 : decode cX10_levy 24 = .ok (.getfield 81, 3) := by decide +kernel
theorem dX10_levy_27 : decode cX10_levy 27 = .ok (.iload_n 1, 1) := by decide +kernel
theorem dX10_levy_28 : decode cX10_levy 28 = .ok (.iaload, 1) := by decide +kernel
theorem dX10_levy_29 : decode cX10_levy 29 = .ok (.if_icmp .ge 10, 3) := by decide +kernel
theorem dX10_levy_32 : decode cX10_levy 32 = .ok (.aload_n 0, 1) := by decide +kernel
theorem dX10_levy_33 : decode cX10_levy 33 = .ok (.getfield 120, 3) := by decide +kernel
theorem dX10_levy_36 : decode cX10_levy 36 = .ok (.ifCond .ne 4, 3) := by decide +kernel
theorem dX10_levy_39 : decode cX10_levy 39 = .ok (.return_, 1) := by decide +kernel
theorem dX10_levy_40 : decode cX10_levy 40 = .ok (.bipush 8, 2) := by decide +kernel
theorem dX10_levy_42 : decode cX10_levy 42 = .ok (.iload_n 1, 1) := by decide +kernel
theorem dX10_levy_43 : decode cX10_levy 43 = .ok (.imul, 1) := by decide +kernel
theorem dX10_levy_44 : decode cX10_levy 44 = .ok (.aload_n 0, 1) := by decide +kernel
theorem dX10_levy_45 : decode cX10_levy 45 = .ok (.getfield 84, 3) := by decide +kernel
theorem dX10_levy_48 : decode cX10_levy 48 = .ok (.bipush 8, 2) := by decide +kernel
theorem dX10_levy_50 : decode cX10_levy 50 = .ok (.iload_n 1, 1) := by decide +kernel
theorem dX10_levy_51 : decode cX10_levy 51 = .ok (.imul, 1) := by decide +kernel
theorem dX10_levy_52 : decode cX10_levy 52 = .ok (.iload_n 3, 1) := by decide +kernel
theorem dX10_levy_53 : decode cX10_levy 53 = .ok (.iadd, 1) := by decide +kernel
theorem dX10_levy_54 : decode cX10_levy 54 = .ok (.iaload, 1) := by decide +kernel
theorem dX10_levy_55 : decode cX10_levy 55 = .ok (.iadd, 1) := by decide +kernel
theorem dX10_levy_56 : decode cX10_levy 56 = .ok (.istore 4, 2) := by decide +kernel
theorem dX10_levy_58 : decode cX10_levy 58 = .ok (.iconst 0, 1) := by decide +kernel
theorem dX10_levy_59 : decode cX10_levy 59 = .ok (.istore 5, 2) := by decide +kernel
theorem dX10_levy_61 : decode cX10_levy 61 = .ok (.iload 5, 2) := by decide +kernel
theorem dX10_levy_63 : decode cX10_levy 63 = .ok (.aload_n 0, 1) := by decide +kernel
theorem dX10_levy_64 : decode cX10_levy 64 = .ok (.getfield 81, 3) := by decide +kernel
theorem dX10_levy_67 : decode cX10_levy 67 = .ok (.iload_n 1, 1) := by decide +kernel
theorem dX10_levy_68 : decode cX10_levy 68 = .ok (.iaload, 1) := by decide +kernel
theorem dX10_levy_69 : decode cX10_levy 69 = .ok (.if_icmp .ge 97, 3) := by decide +kernel
theorem dX10_levy_72 : decode cX10_levy 72 = .ok (.iload 5, 2) := by decide +kernel
theorem dX10_levy_74 : decode cX10_levy 74 = .ok (.iload_n 3, 1) := by decide +kernel
theorem dX10_levy_75 : decode cX10_levy 75 = .ok (.if_icmp .ne 6, 3) := by decide +kernel
theorem dX10_levy_78 : decode cX10_levy 78 = .ok (.goto 82, 3) := by decide +kernel
theorem dX10_levy_81 : decode cX10_levy 81 = .ok (.aload_n 0, 1) := by decide +kernel
theorem dX10_levy_82 : decode cX10_levy 82 = .ok (.getfield 84, 3) := by decide +kernel
theorem dX10_levy_85 : decode cX10_levy 85 = .ok (.bipush 8, 2) := by decide +kernel
theorem dX10_levy_87 : decode cX10_levy 87 = .ok (.iload_n 1, 1) := by decide +kernel
theorem dX10_levy_88 : decode cX10_levy 88 = .ok (.imul, 1) := by decide +kernel
theorem dX10_levy_89 : decode cX10_levy 89 = .ok (.iload 5, 2) := by decide +kernel
theorem dX10_levy_91 : decode cX10_levy 91 = .ok (.iadd, 1) := by decide +kernel
theorem dX10_levy_92 : decode cX10_levy 92 = .ok (.iaload, 1) := by decide +kernel
theorem dX10_levy_93 : decode cX10_levy 93 = .ok (.istore 6, 2) := by decide +kernel
theorem dX10_levy_95 : decode cX10_levy 95 = .ok (.aload_n 0, 1) := by decide +kernel
theorem dX10_levy_96 : decode cX10_levy 96 = .ok (.iload_n 1, 1) := by decide +kernel
theorem dX10_levy_97 : decode cX10_levy 97 = .ok (.iload 6, 2) := by decide +kernel
theorem dX10_levy_99 : decode cX10_levy 99 = .ok (.iload 5, 2) := by decide +kernel
theorem dX10_levy_101 : decode cX10_levy 101 = .ok (.iload_n 2, 1) := by decide +kernel
theorem dX10_levy_102 : decode cX10_levy 102 = .ok (.invokevirtual 363, 3) := by decide +kernel
theorem dX10_levy_105 : decode cX10_levy 105 = .ok (.aload_n 0, 1) := by decide +kernel
theorem dX10_levy_106 : decode cX10_levy 106 = .ok (.getfield 96, 3) := by decide +kernel
theorem dX10_levy_109 : decode cX10_levy 109 = .ok (.bipush 8, 2) := by decide +kernel
theorem dX10_levy_111 : decode cX10_levy 111 = .ok (.iload_n 1, 1) := by decide +kernel
theorem dX10_levy_112 : decode cX10_levy 112 = .ok (.imul, 1) := by decide +kernel
theorem dX10_levy_113 : decode cX10_levy 113 = .ok (.iload 6, 2) := by decide +kernel
theorem dX10_levy_115 : decode cX10_levy 115 = .ok (.iadd, 1) := by decide +kernel
theorem dX10_levy_116 : decode cX10_levy 116 = .ok (.iaload, 1) := by decide +kernel
theorem dX10_levy_117 : decode cX10_levy 117 = .ok (.aload_n 0, 1) := by decide +kernel
theorem dX10_levy_118 : decode cX10_levy 118 = .ok (.iconst 0, 1) := by decide +kernel
theorem dX10_levy_119 : decode cX10_levy 119 = .ok (.iconst 0, 1) := by decide +kernel
theorem dX10_levy_120 : decode cX10_levy 120 = .ok (.bipush 99, 2) := by decide +kernel
theorem dX10_levy_122 : decode cX10_levy 122 = .ok (.iconst 1, 1) := by decide +kernel
theorem dX10_levy_123 : decode cX10_levy 123 = .ok (.invokevirtual 367, 3) := by decide +kernel
theorem dX10_levy_126 : decode cX10_levy 126 = .ok (.invokestatic 380, 3) := by decide +kernel
theorem dX10_levy_129 : decode cX10_levy 129 = .ok (.istore 7, 2) := by decide +kernel
theorem dX10_levy_131 : decode cX10_levy 131 = .ok (.aload_n 0, 1) := by decide +kernel
theorem dX10_levy_132 : decode cX10_levy 132 = .ok (.getfield 96, 3) := by decide +kernel
theorem dX10_levy_135 : decode cX10_levy 135 = .ok (.bipush 8, 2) := by decide +kernel
theorem dX10_levy_137 : decode cX10_levy 137 = .ok (.iload_n 1, 1) := by decide +kernel
theorem dX10_levy_138 : decode cX10_levy 138 = .ok (.imul, 1) := by decide +kernel
theorem dX10_levy_139 : decode cX10_levy 139 = .ok (.iload 6, 2) := by decide +kernel
theorem dX10_levy_141 : decode cX10_levy 141 = .ok (.iadd, 1) := by decide +kernel
theorem dX10_levy_142 : decode cX10_levy 142 = .ok (.dup2, 1) := by decide +kernel
theorem dX10_levy_143 : decode cX10_levy 143 = .ok (.iaload, 1) := by decide +kernel
theorem dX10_levy_144 : decode cX10_levy 144 = .ok (.iload 7, 2) := by decide +kernel
theorem dX10_levy_146 : decode cX10_levy 146 = .ok (.isub, 1) := by decide +kernel
theorem dX10_levy_147 : decode cX10_levy 147 = .ok (.iastore, 1) := by decide +kernel
theorem dX10_levy_148 : decode cX10_levy 148 = .ok (.aload_n 0, 1) := by decide +kernel
theorem dX10_levy_149 : decode cX10_levy 149 = .ok (.getfield 96, 3) := by decide +kernel
theorem dX10_levy_152 : decode cX10_levy 152 = .ok (.iload 4, 2) := by decide +kernel
theorem dX10_levy_154 : decode cX10_levy 154 = .ok (.dup2, 1) := by decide +kernel
theorem dX10_levy_155 : decode cX10_levy 155 = .ok (.iaload, 1) := by decide +kernel
theorem dX10_levy_156 : decode cX10_levy 156 = .ok (.iload 7, 2) := by decide +kernel
theorem dX10_levy_158 : decode cX10_levy 158 = .ok (.iadd, 1) := by decide +kernel
theorem dX10_levy_159 : decode cX10_levy 159 = .ok (.iastore, 1) := by decide +kernel
theorem dX10_levy_160 : decode cX10_levy 160 = .ok (.iinc 5 1, 3) := by decide +kernel
theorem dX10_levy_163 : decode cX10_levy 163 = .ok (.goto (-102), 3) := by decide +kernel
theorem dX10_levy_166 : decode cX10_levy 166 = .ok (.return_, 1) := by decide +kernel
theorem dX10_wear_0 : decode cX10_wear 0 = .ok (.iconst 0, 1) := by decide +kernel
theorem dX10_wear_1 : decode cX10_wear 1 = .ok (.istore_n 3, 1) := by decide +kernel
theorem dX10_wear_2 : decode cX10_wear 2 = .ok (.iload_n 3, 1) := by decide +kernel
theorem dX10_wear_3 : decode cX10_wear 3 = .ok (.aload_n 0, 1) := by decide +kernel
theorem dX10_wear_4 : decode cX10_wear 4 = .ok (.getfield 81, 3) := by decide +kernel
theorem dX10_wear_7 : decode cX10_wear 7 = .ok (.iload_n 1, 1) := by decide +kernel
theorem dX10_wear_8 : decode cX10_wear 8 = .ok (.iaload, 1) := by decide +kernel
theorem dX10_wear_9 : decode cX10_wear 9 = .ok (.if_icmp .ge 95, 3) := by decide +kernel
theorem dX10_wear_12 : decode cX10_wear 12 = .ok (.aload_n 0, 1) := by decide +kernel
theorem dX10_wear_13 : decode cX10_wear 13 = .ok (.getfield 84, 3) := by decide +kernel
theorem dX10_wear_16 : decode cX10_wear 16 = .ok (.bipush 8, 2) := by decide +kernel
theorem dX10_wear_18 : decode cX10_wear 18 = .ok (.iload_n 1, 1) := by decide +kernel
theorem dX10_wear_19 : decode cX10_wear 19 = .ok (.imul, 1) := by decide +kernel
theorem dX10_wear_20 : decode cX10_wear 20 = .ok (.iload_n 3, 1) := by decide +kernel
theorem dX10_wear_21 : decode cX10_wear 21 = .ok (.iadd, 1) := by decide +kernel
theorem dX10_wear_22 : decode cX10_wear 22 = .ok (.iaload, 1) := by decide +kernel
theorem dX10_wear_23 : decode cX10_wear 23 = .ok (.istore 4, 2) := by decide +kernel
theorem dX10_wear_25 : decode cX10_wear 25 = .ok (.bipush 8, 2) := by decide +kernel
theorem dX10_wear_27 : decode cX10_wear 27 = .ok (.iload_n 1, 1) := by decide +kernel
theorem dX10_wear_28 : decode cX10_wear 28 = .ok (.imul, 1) := by decide +kernel
theorem dX10_wear_29 : decode cX10_wear 29 = .ok (.iload 4, 2) := by decide +kernel
theorem dX10_wear_31 : decode cX10_wear 31 = .ok (.iadd, 1) := by decide +kernel
theorem dX10_wear_32 : decode cX10_wear 32 = .ok (.istore 5, 2) := by decide +kernel
theorem dX10_wear_34 : decode cX10_wear 34 = .ok (.aload_n 0, 1) := by decide +kernel
theorem dX10_wear_35 : decode cX10_wear 35 = .ok (.getfield 108, 3) := by decide +kernel
theorem dX10_wear_38 : decode cX10_wear 38 = .ok (.iload 5, 2) := by decide +kernel
theorem dX10_wear_40 : decode cX10_wear 40 = .ok (.iaload, 1) := by decide +kernel
theorem dX10_wear_41 : decode cX10_wear 41 = .ok (.ifCond .le 17, 3) := by decide +kernel
theorem dX10_wear_44 : decode cX10_wear 44 = .ok (.aload_n 0, 1) := by decide +kernel
theorem dX10_wear_45 : decode cX10_wear 45 = .ok (.getfield 108, 3) := by decide +kernel
theorem dX10_wear_48 : decode cX10_wear 48 = .ok (.iload 5, 2) := by decide +kernel
theorem dX10_wear_50 : decode cX10_wear 50 = .ok (.dup2, 1) := by decide +kernel
theorem dX10_wear_51 : decode cX10_wear 51 = .ok (.iaload, 1) := by decide +kernel
theorem dX10_wear_52 : decode cX10_wear 52 = .ok (.iconst 1, 1) := by decide +kernel
theorem dX10_wear_53 : decode cX10_wear 53 = .ok (.isub, 1) := by decide +kernel
theorem dX10_wear_54 : decode cX10_wear 54 = .ok (.iastore, 1) := by decide +kernel
theorem dX10_wear_55 : decode cX10_wear 55 = .ok (.goto 43, 3) := by decide +kernel
theorem dX10_wear_58 : decode cX10_wear 58 = .ok (.iload_n 3, 1) := by decide +kernel
theorem dX10_wear_59 : decode cX10_wear 59 = .ok (.ifCond .le 39, 3) := by decide +kernel
theorem dX10_wear_62 : decode cX10_wear 62 = .ok (.aload_n 0, 1) := by decide +kernel
theorem dX10_wear_63 : decode cX10_wear 63 = .ok (.getfield 120, 3) := by decide +kernel
theorem dX10_wear_66 : decode cX10_wear 66 = .ok (.iconst 1, 1) := by decide +kernel
theorem dX10_wear_67 : decode cX10_wear 67 = .ok (.if_icmp .eq 31, 3) := by decide +kernel
theorem dX10_wear_70 : decode cX10_wear 70 = .ok (.aload_n 0, 1) := by decide +kernel
theorem dX10_wear_71 : decode cX10_wear 71 = .ok (.iload_n 1, 1) := by decide +kernel
theorem dX10_wear_72 : decode cX10_wear 72 = .ok (.iload 4, 2) := by decide +kernel
theorem dX10_wear_74 : decode cX10_wear 74 = .ok (.iload_n 3, 1) := by decide +kernel
theorem dX10_wear_75 : decode cX10_wear 75 = .ok (.iload_n 2, 1) := by decide +kernel
theorem dX10_wear_76 : decode cX10_wear 76 = .ok (.invokevirtual 363, 3) := by decide +kernel
theorem dX10_wear_79 : decode cX10_wear 79 = .ok (.aload_n 0, 1) := by decide +kernel
theorem dX10_wear_80 : decode cX10_wear 80 = .ok (.getfield 90, 3) := by decide +kernel
theorem dX10_wear_83 : decode cX10_wear 83 = .ok (.iload 5, 2) := by decide +kernel
theorem dX10_wear_85 : decode cX10_wear 85 = .ok (.dup2, 1) := by decide +kernel
theorem dX10_wear_86 : decode cX10_wear 86 = .ok (.iaload, 1) := by decide +kernel
theorem dX10_wear_87 : decode cX10_wear 87 = .ok (.aload_n 0, 1) := by decide +kernel
theorem dX10_wear_88 : decode cX10_wear 88 = .ok (.iconst 1, 1) := by decide +kernel
theorem dX10_wear_89 : decode cX10_wear 89 = .ok (.iconst 0, 1) := by decide +kernel
theorem dX10_wear_90 : decode cX10_wear 90 = .ok (.bipush 9, 2) := by decide +kernel
theorem dX10_wear_92 : decode cX10_wear 92 = .ok (.iconst 1, 1) := by decide +kernel
theorem dX10_wear_93 : decode cX10_wear 93 = .ok (.invokevirtual 367, 3) := by decide +kernel
theorem dX10_wear_96 : decode cX10_wear 96 = .ok (.isub, 1) := by decide +kernel
theorem dX10_wear_97 : decode cX10_wear 97 = .ok (.iastore, 1) := by decide +kernel
theorem dX10_wear_98 : decode cX10_wear 98 = .ok (.iinc 3 1, 3) := by decide +kernel
theorem dX10_wear_101 : decode cX10_wear 101 = .ok (.goto (-99), 3) := by decide +kernel
theorem dX10_wear_104 : decode cX10_wear 104 = .ok (.return_, 1) := by decide +kernel
theorem dX10_passes_0 : decode cX10_passes 0 = .ok (.aload_n 0, 1) := by decide +kernel
theorem dX10_passes_1 : decode cX10_passes 1 = .ok (.getfield 69, 3) := by decide +kernel
theorem dX10_passes_4 : decode cX10_passes 4 = .ok (.iload_n 1, 1) := by decide +kernel
theorem dX10_passes_5 : decode cX10_passes 5 = .ok (.iaload, 1) := by decide +kernel
theorem dX10_passes_6 : decode cX10_passes 6 = .ok (.istore_n 3, 1) := by decide +kernel
theorem dX10_passes_7 : decode cX10_passes 7 = .ok (.aload_n 0, 1) := by decide +kernel
theorem dX10_passes_8 : decode cX10_passes 8 = .ok (.iload_n 1, 1) := by decide +kernel
theorem dX10_passes_9 : decode cX10_passes 9 = .ok (.iload_n 3, 1) := by decide +kernel
theorem dX10_passes_10 : decode cX10_passes 10 = .ok (.invokevirtual 382, 3) := by decide +kernel
theorem dX10_passes_13 : decode cX10_passes 13 = .ok (.aload_n 0, 1) := by decide +kernel
theorem dX10_passes_14 : decode cX10_passes 14 = .ok (.iload_n 1, 1) := by decide +kernel
theorem dX10_passes_15 : decode cX10_passes 15 = .ok (.iload_n 3, 1) := by decide +kernel
theorem dX10_passes_16 : decode cX10_passes 16 = .ok (.invokevirtual 385, 3) := by decide +kernel
theorem dX10_passes_19 : decode cX10_passes 19 = .ok (.aload_n 0, 1) := by decide +kernel
theorem dX10_passes_20 : decode cX10_passes 20 = .ok (.iload_n 1, 1) := by decide +kernel
theorem dX10_passes_21 : decode cX10_passes 21 = .ok (.invokevirtual 388, 3) := by decide +kernel
theorem dX10_passes_24 : decode cX10_passes 24 = .ok (.aload_n 0, 1) := by decide +kernel
theorem dX10_passes_25 : decode cX10_passes 25 = .ok (.iload_n 1, 1) := by decide +kernel
theorem dX10_passes_26 : decode cX10_passes 26 = .ok (.iload_n 3, 1) := by decide +kernel
theorem dX10_passes_27 : decode cX10_passes 27 = .ok (.invokevirtual 391, 3) := by decide +kernel
theorem dX10_passes_30 : decode cX10_passes 30 = .ok (.aload_n 0, 1) := by decide +kernel
theorem dX10_passes_31 : decode cX10_passes 31 = .ok (.iload_n 1, 1) := by decide +kernel
theorem dX10_passes_32 : decode cX10_passes 32 = .ok (.iload_n 3, 1) := by decide +kernel
theorem dX10_passes_33 : decode cX10_passes 33 = .ok (.invokevirtual 394, 3) := by decide +kernel
theorem dX10_passes_36 : decode cX10_passes 36 = .ok (.aload_n 0, 1) := by decide +kernel
theorem dX10_passes_37 : decode cX10_passes 37 = .ok (.getfield 81, 3) := by decide +kernel
theorem dX10_passes_40 : decode cX10_passes 40 = .ok (.iload_n 1, 1) := by decide +kernel
theorem dX10_passes_41 : decode cX10_passes 41 = .ok (.iaload, 1) := by decide +kernel
theorem dX10_passes_42 : decode cX10_passes 42 = .ok (.ifCond .le 47, 3) := by decide +kernel
theorem dX10_passes_45 : decode cX10_passes 45 = .ok (.aload_n 0, 1) := by decide +kernel
theorem dX10_passes_46 : decode cX10_passes 46 = .ok (.getfield 93, 3) := by decide +kernel
theorem dX10_passes_49 : decode cX10_passes 49 = .ok (.bipush 8, 2) := by decide +kernel
theorem dX10_passes_51 : decode cX10_passes 51 = .ok (.iload_n 1, 1) := by decide +kernel
theorem dX10_passes_52 : decode cX10_passes 52 = .ok (.imul, 1) := by decide +kernel
theorem dX10_passes_53 : decode cX10_passes 53 = .ok (.aload_n 0, 1) := by decide +kernel
theorem dX10_passes_54 : decode cX10_passes 54 = .ok (.getfield 84, 3) := by decide +kernel
theorem dX10_passes_57 : decode cX10_passes 57 = .ok (.bipush 8, 2) := by decide +kernel
theorem dX10_passes_59 : decode cX10_passes 59 = .ok (.iload_n 1, 1) := by decide +kernel
theorem dX10_passes_60 : decode cX10_passes 60 = .ok (.imul, 1) := by decide +kernel
theorem dX10_passes_61 : decode cX10_passes 61 = .ok (.iaload, 1) := by decide +kernel
theorem dX10_passes_62 : decode cX10_passes 62 = .ok (.iadd, 1) := by decide +kernel
theorem dX10_passes_63 : decode cX10_passes 63 = .ok (.iaload, 1) := by decide +kernel
theorem dX10_passes_64 : decode cX10_passes 64 = .ok (.aload_n 0, 1) := by decide +kernel
theorem dX10_passes_65 : decode cX10_passes 65 = .ok (.getfield 28, 3) := by decide +kernel
theorem dX10_passes_68 : decode cX10_passes 68 = .ok (.aload_n 0, 1) := by decide +kernel
theorem dX10_passes_69 : decode cX10_passes 69 = .ok (.getfield 84, 3) := by decide +kernel
theorem dX10_passes_72 : decode cX10_passes 72 = .ok (.bipush 8, 2) := by decide +kernel
theorem dX10_passes_74 : decode cX10_passes 74 = .ok (.iload_n 1, 1) := by decide +kernel
theorem dX10_passes_75 : decode cX10_passes 75 = .ok (.imul, 1) := by decide +kernel
theorem dX10_passes_76 : decode cX10_passes 76 = .ok (.iaload, 1) := by decide +kernel
theorem dX10_passes_77 : decode cX10_passes 77 = .ok (.iaload, 1) := by decide +kernel
theorem dX10_passes_78 : decode cX10_passes 78 = .ok (.if_icmp .ne 11, 3) := by decide +kernel
theorem dX10_passes_81 : decode cX10_passes 81 = .ok (.aload_n 0, 1) := by decide +kernel
theorem dX10_passes_82 : decode cX10_passes 82 = .ok (.iload_n 1, 1) := by decide +kernel
theorem dX10_passes_83 : decode cX10_passes 83 = .ok (.iconst 0, 1) := by decide +kernel
theorem dX10_passes_84 : decode cX10_passes 84 = .ok (.iconst 2, 1) := by decide +kernel
theorem dX10_passes_85 : decode cX10_passes 85 = .ok (.iload_n 3, 1) := by decide +kernel
theorem dX10_passes_86 : decode cX10_passes 86 = .ok (.invokevirtual 377, 3) := by decide +kernel
theorem dX10_passes_89 : decode cX10_passes 89 = .ok (.aload_n 0, 1) := by decide +kernel
theorem dX10_passes_90 : decode cX10_passes 90 = .ok (.getfield 81, 3) := by decide +kernel
theorem dX10_passes_93 : decode cX10_passes 93 = .ok (.iload_n 1, 1) := by decide +kernel
theorem dX10_passes_94 : decode cX10_passes 94 = .ok (.iaload, 1) := by decide +kernel
theorem dX10_passes_95 : decode cX10_passes 95 = .ok (.iconst 1, 1) := by decide +kernel
theorem dX10_passes_96 : decode cX10_passes 96 = .ok (.isub, 1) := by decide +kernel
theorem dX10_passes_97 : decode cX10_passes 97 = .ok (.istore 4, 2) := by decide +kernel
theorem dX10_passes_99 : decode cX10_passes 99 = .ok (.iload 4, 2) := by decide +kernel
theorem dX10_passes_101 : decode cX10_passes 101 = .ok (.iconst 1, 1) := by decide +kernel
theorem dX10_passes_102 : decode cX10_passes 102 = .ok (.if_icmp .lt 43, 3) := by decide +kernel
theorem dX10_passes_105 : decode cX10_passes 105 = .ok (.aload_n 0, 1) := by decide +kernel
theorem dX10_passes_106 : decode cX10_passes 106 = .ok (.getfield 90, 3) := by decide +kernel
theorem dX10_passes_109 : decode cX10_passes 109 = .ok (.bipush 8, 2) := by decide +kernel
theorem dX10_passes_111 : decode cX10_passes 111 = .ok (.iload_n 1, 1) := by decide +kernel
theorem dX10_passes_112 : decode cX10_passes 112 = .ok (.imul, 1) := by decide +kernel
theorem dX10_passes_113 : decode cX10_passes 113 = .ok (.aload_n 0, 1) := by decide +kernel
theorem dX10_passes_114 : decode cX10_passes 114 = .ok (.getfield 84, 3) := by decide +kernel
theorem dX10_passes_117 : decode cX10_passes 117 = .ok (.bipush 8, 2) := by decide +kernel
theorem dX10_passes_119 : decode cX10_passes 119 = .ok (.iload_n 1, 1) := by decide +kernel
theorem dX10_passes_120 : decode cX10_passes 120 = .ok (.imul, 1) := by decide +kernel
theorem dX10_passes_121 : decode cX10_passes 121 = .ok (.iload 4, 2) := by decide +kernel
theorem dX10_passes_123 : decode cX10_passes 123 = .ok (.iadd, 1) := by decide +kernel
theorem dX10_passes_124 : decode cX10_passes 124 = .ok (.iaload, 1) := by decide +kernel
theorem dX10_passes_125 : decode cX10_passes 125 = .ok (.iadd, 1) := by decide +kernel
theorem dX10_passes_126 : decode cX10_passes 126 = .ok (.iaload, 1) := by decide +kernel
theorem dX10_passes_127 : decode cX10_passes 127 = .ok (.ifCond .gt 12, 3) := by decide +kernel
theorem dX10_passes_130 : decode cX10_passes 130 = .ok (.aload_n 0, 1) := by decide +kernel
theorem dX10_passes_131 : decode cX10_passes 131 = .ok (.iload_n 1, 1) := by decide +kernel
theorem dX10_passes_132 : decode cX10_passes 132 = .ok (.iload 4, 2) := by decide +kernel
theorem dX10_passes_134 : decode cX10_passes 134 = .ok (.iconst 3, 1) := by decide +kernel
theorem dX10_passes_135 : decode cX10_passes 135 = .ok (.iload_n 3, 1) := by decide +kernel
theorem dX10_passes_136 : decode cX10_passes 136 = .ok (.invokevirtual 377, 3) := by decide +kernel
theorem dX10_passes_139 : decode cX10_passes 139 = .ok (.iinc 4 (-1), 3) := by decide +kernel
theorem dX10_passes_142 : decode cX10_passes 142 = .ok (.goto (-43), 3) := by decide +kernel
theorem dX10_passes_145 : decode cX10_passes 145 = .ok (.iload_n 2, 1) := by decide +kernel
theorem dX10_passes_146 : decode cX10_passes 146 = .ok (.ifCond .eq 51, 3) := by decide +kernel
theorem dX10_passes_149 : decode cX10_passes 149 = .ok (.aload_n 0, 1) := by decide +kernel
theorem dX10_passes_150 : decode cX10_passes 150 = .ok (.getfield 13, 3) := by decide +kernel
theorem dX10_passes_153 : decode cX10_passes 153 = .ok (.iconst 5, 1) := by decide +kernel
theorem dX10_passes_154 : decode cX10_passes 154 = .ok (.iaload, 1) := by decide +kernel
theorem dX10_passes_155 : decode cX10_passes 155 = .ok (.ifCond .le 42, 3) := by decide +kernel
theorem dX10_passes_158 : decode cX10_passes 158 = .ok (.aload_n 0, 1) := by decide +kernel
theorem dX10_passes_159 : decode cX10_passes 159 = .ok (.iload_n 1, 1) := by decide +kernel
theorem dX10_passes_160 : decode cX10_passes 160 = .ok (.invokevirtual 397, 3) := by decide +kernel
theorem dX10_passes_163 : decode cX10_passes 163 = .ok (.aload_n 0, 1) := by decide +kernel
theorem dX10_passes_164 : decode cX10_passes 164 = .ok (.getfield 13, 3) := by decide +kernel
theorem dX10_passes_167 : decode cX10_passes 167 = .ok (.iconst 5, 1) := by decide +kernel
theorem dX10_passes_168 : decode cX10_passes 168 = .ok (.iaload, 1) := by decide +kernel
theorem dX10_passes_169 : decode cX10_passes 169 = .ok (.if_icmp .ge 28, 3) := by decide +kernel
theorem dX10_passes_172 : decode cX10_passes 172 = .ok (.aload_n 0, 1) := by decide +kernel
theorem dX10_passes_173 : decode cX10_passes 173 = .ok (.getfield 81, 3) := by decide +kernel
theorem dX10_passes_176 : decode cX10_passes 176 = .ok (.iload_n 1, 1) := by decide +kernel
theorem dX10_passes_177 : decode cX10_passes 177 = .ok (.iaload, 1) := by decide +kernel
theorem dX10_passes_178 : decode cX10_passes 178 = .ok (.iconst 1, 1) := by decide +kernel
theorem dX10_passes_179 : decode cX10_passes 179 = .ok (.if_icmp .le 18, 3) := by decide +kernel
theorem dX10_passes_182 : decode cX10_passes 182 = .ok (.aload_n 0, 1) := by decide +kernel
theorem dX10_passes_183 : decode cX10_passes 183 = .ok (.iload_n 1, 1) := by decide +kernel
theorem dX10_passes_184 : decode cX10_passes 184 = .ok (.aload_n 0, 1) := by decide +kernel
theorem dX10_passes_185 : decode cX10_passes 185 = .ok (.getfield 81, 3) := by decide +kernel
theorem dX10_passes_188 : decode cX10_passes 188 = .ok (.iload_n 1, 1) := by decide +kernel
theorem dX10_passes_189 : decode cX10_passes 189 = .ok (.iaload, 1) := by decide +kernel
theorem dX10_passes_190 : decode cX10_passes 190 = .ok (.iconst 1, 1) := by decide +kernel
theorem dX10_passes_191 : decode cX10_passes 191 = .ok (.isub, 1) := by decide +kernel
theorem dX10_passes_192 : decode cX10_passes 192 = .ok (.iconst 3, 1) := by decide +kernel
theorem dX10_passes_193 : decode cX10_passes 193 = .ok (.iload_n 3, 1) := by decide +kernel
theorem dX10_passes_194 : decode cX10_passes 194 = .ok (.invokevirtual 377, 3) := by decide +kernel
theorem dX10_passes_197 : decode cX10_passes 197 = .ok (.aload_n 0, 1) := by decide +kernel
theorem dX10_passes_198 : decode cX10_passes 198 = .ok (.getfield 69, 3) := by decide +kernel
theorem dX10_passes_201 : decode cX10_passes 201 = .ok (.iload_n 1, 1) := by decide +kernel
theorem dX10_passes_202 : decode cX10_passes 202 = .ok (.dup2, 1) := by decide +kernel
theorem dX10_passes_203 : decode cX10_passes 203 = .ok (.iaload, 1) := by decide +kernel
theorem dX10_passes_204 : decode cX10_passes 204 = .ok (.iconst 1, 1) := by decide +kernel
theorem dX10_passes_205 : decode cX10_passes 205 = .ok (.iadd, 1) := by decide +kernel
theorem dX10_passes_206 : decode cX10_passes 206 = .ok (.iastore, 1) := by decide +kernel
theorem dX10_passes_207 : decode cX10_passes 207 = .ok (.return_, 1) := by decide +kernel
theorem dX10_draw_0 : decode cX10_draw 0 = .ok (.aload_n 0, 1) := by decide +kernel
theorem dX10_draw_1 : decode cX10_draw 1 = .ok (.getfield 75, 3) := by decide +kernel
theorem dX10_draw_4 : decode cX10_draw 4 = .ok (.iload_n 1, 1) := by decide +kernel
theorem dX10_draw_5 : decode cX10_draw 5 = .ok (.aload_n 0, 1) := by decide +kernel
theorem dX10_draw_6 : decode cX10_draw 6 = .ok (.getfield 75, 3) := by decide +kernel
theorem dX10_draw_9 : decode cX10_draw 9 = .ok (.iload_n 1, 1) := by decide +kernel
theorem dX10_draw_10 : decode cX10_draw 10 = .ok (.iaload, 1) := by decide +kernel
theorem dX10_draw_11 : decode cX10_draw 11 = .ok (.ldc_w 400, 3) := by decide +kernel
theorem dX10_draw_14 : decode cX10_draw 14 = .ok (.imul, 1) := by decide +kernel
theorem dX10_draw_15 : decode cX10_draw 15 = .ok (.sipush 12345, 3) := by decide +kernel
theorem dX10_draw_18 : decode cX10_draw 18 = .ok (.iadd, 1) := by decide +kernel
theorem dX10_draw_19 : decode cX10_draw 19 = .ok (.ldc_w 403, 3) := by decide +kernel
theorem dX10_draw_22 : decode cX10_draw 22 = .ok (.iand, 1) := by decide +kernel
theorem dX10_draw_23 : decode cX10_draw 23 = .ok (.iastore, 1) := by decide +kernel
theorem dX10_draw_24 : decode cX10_draw 24 = .ok (.aload_n 0, 1) := by decide +kernel
theorem dX10_draw_25 : decode cX10_draw 25 = .ok (.getfield 75, 3) := by decide +kernel
theorem dX10_draw_28 : decode cX10_draw 28 = .ok (.iload_n 1, 1) := by decide +kernel
theorem dX10_draw_29 : decode cX10_draw 29 = .ok (.iaload, 1) := by decide +kernel
theorem dX10_draw_30 : decode cX10_draw 30 = .ok (.bipush 16, 2) := by decide +kernel
theorem dX10_draw_32 : decode cX10_draw 32 = .ok (.ishr, 1) := by decide +kernel
theorem dX10_draw_33 : decode cX10_draw 33 = .ok (.bipush 100, 2) := by decide +kernel
theorem dX10_draw_35 : decode cX10_draw 35 = .ok (.irem, 1) := by decide +kernel
theorem dX10_draw_36 : decode cX10_draw 36 = .ok (.ireturn, 1) := by decide +kernel
theorem dX10_lays_0 : decode cX10_lays 0 = .ok (.aload_n 0, 1) := by decide +kernel
theorem dX10_lays_1 : decode cX10_lays 1 = .ok (.iconst 1, 1) := by decide +kernel
theorem dX10_lays_2 : decode cX10_lays 2 = .ok (.iconst 0, 1) := by decide +kernel
theorem dX10_lays_3 : decode cX10_lays 3 = .ok (.invokevirtual 404, 3) := by decide +kernel
theorem dX10_lays_6 : decode cX10_lays 6 = .ok (.aload_n 0, 1) := by decide +kernel
theorem dX10_lays_7 : decode cX10_lays 7 = .ok (.getfield 78, 3) := by decide +kernel
theorem dX10_lays_10 : decode cX10_lays 10 = .ok (.iconst 1, 1) := by decide +kernel
theorem dX10_lays_11 : decode cX10_lays 11 = .ok (.iconst 0, 1) := by decide +kernel
theorem dX10_lays_12 : decode cX10_lays 12 = .ok (.iastore, 1) := by decide +kernel
theorem dX10_lays_13 : decode cX10_lays 13 = .ok (.return_, 1) := by decide +kernel
theorem dX10_runs_0 : decode cX10_runs 0 = .ok (.iconst 0, 1) := by decide +kernel
theorem dX10_runs_1 : decode cX10_runs 1 = .ok (.istore_n 2, 1) := by decide +kernel
theorem dX10_runs_2 : decode cX10_runs 2 = .ok (.iload_n 2, 1) := by decide +kernel
theorem dX10_runs_3 : decode cX10_runs 3 = .ok (.iload_n 1, 1) := by decide +kernel
theorem dX10_runs_4 : decode cX10_runs 4 = .ok (.if_icmp .ge 15, 3) := by decide +kernel
theorem dX10_runs_7 : decode cX10_runs 7 = .ok (.aload_n 0, 1) := by decide +kernel
theorem dX10_runs_8 : decode cX10_runs 8 = .ok (.iconst 1, 1) := by decide +kernel
theorem dX10_runs_9 : decode cX10_runs 9 = .ok (.iconst 0, 1) := by decide +kernel
theorem dX10_runs_10 : decode cX10_runs 10 = .ok (.invokevirtual 407, 3) := by decide +kernel
theorem dX10_runs_13 : decode cX10_runs 13 = .ok (.iinc 2 1, 3) := by decide +kernel
theorem dX10_runs_16 : decode cX10_runs 16 = .ok (.goto (-14), 3) := by decide +kernel
theorem dX10_runs_19 : decode cX10_runs 19 = .ok (.return_, 1) := by decide +kernel
theorem dX10_look_0 : decode cX10_look 0 = .ok (.aload_n 0, 1) := by decide +kernel
theorem dX10_look_1 : decode cX10_look 1 = .ok (.aload_n 0, 1) := by decide +kernel
theorem dX10_look_2 : decode cX10_look 2 = .ok (.iload_n 1, 1) := by decide +kernel
theorem dX10_look_3 : decode cX10_look 3 = .ok (.invokevirtual 356, 3) := by decide +kernel
theorem dX10_look_6 : decode cX10_look 6 = .ok (.ifCond .ne 7, 3) := by decide +kernel
theorem dX10_look_9 : decode cX10_look 9 = .ok (.iconst 1, 1) := by decide +kernel
theorem dX10_look_10 : decode cX10_look 10 = .ok (.goto 18, 3) := by decide +kernel
theorem dX10_look_13 : decode cX10_look 13 = .ok (.iload_n 2, 1) := by decide +kernel
theorem dX10_look_14 : decode cX10_look 14 = .ok (.ifCond .lt 9, 3) := by decide +kernel
theorem dX10_look_17 : decode cX10_look 17 = .ok (.iload_n 2, 1) := by decide +kernel
theorem dX10_look_18 : decode cX10_look 18 = .ok (.bipush 10, 2) := by decide +kernel
theorem dX10_look_20 : decode cX10_look 20 = .ok (.if_icmp .le 7, 3) := by decide +kernel
theorem dX10_look_23 : decode cX10_look 23 = .ok (.iconst 2, 1) := by decide +kernel
theorem dX10_look_24 : decode cX10_look 24 = .ok (.goto 4, 3) := by decide +kernel
theorem dX10_look_27 : decode cX10_look 27 = .ok (.iconst 0, 1) := by decide +kernel
theorem dX10_look_28 : decode cX10_look 28 = .ok (.putfield 154, 3) := by decide +kernel
theorem dX10_look_31 : decode cX10_look 31 = .ok (.aload_n 0, 1) := by decide +kernel
theorem dX10_look_32 : decode cX10_look 32 = .ok (.getfield 154, 3) := by decide +kernel
theorem dX10_look_35 : decode cX10_look 35 = .ok (.ifCond .eq 5, 3) := by decide +kernel
theorem dX10_look_38 : decode cX10_look 38 = .ok (.iconst 0, 1) := by decide +kernel
theorem dX10_look_39 : decode cX10_look 39 = .ok (.ireturn, 1) := by decide +kernel
theorem dX10_look_40 : decode cX10_look 40 = .ok (.iload_n 2, 1) := by decide +kernel
theorem dX10_look_41 : decode cX10_look 41 = .ok (.tableswitch 168 0 9 #[55, 62, 69, 76, 83, 90, 97, 104, 150, 157], 55) := by decide +kernel
theorem dX10_look_96 : decode cX10_look 96 = .ok (.aload_n 0, 1) := by decide +kernel
theorem dX10_look_97 : decode cX10_look 97 = .ok (.getfield 19, 3) := by decide +kernel
theorem dX10_look_100 : decode cX10_look 100 = .ok (.iload_n 1, 1) := by decide +kernel
theorem dX10_look_101 : decode cX10_look 101 = .ok (.iaload, 1) := by decide +kernel
theorem dX10_look_102 : decode cX10_look 102 = .ok (.ireturn, 1) := by decide +kernel
theorem dX10_look_103 : decode cX10_look 103 = .ok (.aload_n 0, 1) := by decide +kernel
theorem dX10_look_104 : decode cX10_look 104 = .ok (.getfield 22, 3) := by decide +kernel
theorem dX10_look_107 : decode cX10_look 107 = .ok (.iload_n 1, 1) := by decide +kernel
theorem dX10_look_108 : decode cX10_look 108 = .ok (.iaload, 1) := by decide +kernel
theorem dX10_look_109 : decode cX10_look 109 = .ok (.ireturn, 1) := by decide +kernel
theorem dX10_look_110 : decode cX10_look 110 = .ok (.aload_n 0, 1) := by decide +kernel
theorem dX10_look_111 : decode cX10_look 111 = .ok (.getfield 90, 3) := by decide +kernel
theorem dX10_look_114 : decode cX10_look 114 = .ok (.iload_n 1, 1) := by decide +kernel
theorem dX10_look_115 : decode cX10_look 115 = .ok (.iaload, 1) := by decide +kernel
theorem dX10_look_116 : decode cX10_look 116 = .ok (.ireturn, 1) := by decide +kernel
theorem dX10_look_117 : decode cX10_look 117 = .ok (.aload_n 0, 1) := by decide +kernel
theorem dX10_look_118 : decode cX10_look 118 = .ok (.getfield 93, 3) := by decide +kernel
theorem dX10_look_121 : decode cX10_look 121 = .ok (.iload_n 1, 1) := by decide +kernel
theorem dX10_look_122 : decode cX10_look 122 = .ok (.iaload, 1) := by decide +kernel
theorem dX10_look_123 : decode cX10_look 123 = .ok (.ireturn, 1) := by decide +kernel
theorem dX10_look_124 : decode cX10_look 124 = .ok (.aload_n 0, 1) := by decide +kernel
theorem dX10_look_125 : decode cX10_look 125 = .ok (.getfield 96, 3) := by decide +kernel
theorem dX10_look_128 : decode cX10_look 128 = .ok (.iload_n 1, 1) := by decide +kernel
theorem dX10_look_129 : decode cX10_look 129 = .ok (.iaload, 1) := by decide +kernel
theorem dX10_look_130 : decode cX10_look 130 = .ok (.ireturn, 1) := by decide +kernel
theorem dX10_look_131 : decode cX10_look 131 = .ok (.aload_n 0, 1) := by decide +kernel
theorem dX10_look_132 : decode cX10_look 132 = .ok (.iconst 0, 1) := by decide +kernel
theorem dX10_look_133 : decode cX10_look 133 = .ok (.iload_n 1, 1) := by decide +kernel
theorem dX10_look_134 : decode cX10_look 134 = .ok (.invokevirtual 411, 3) := by decide +kernel
theorem dX10_look_137 : decode cX10_look 137 = .ok (.ireturn, 1) := by decide +kernel
theorem dX10_look_138 : decode cX10_look 138 = .ok (.aload_n 0, 1) := by decide +kernel
theorem dX10_look_139 : decode cX10_look 139 = .ok (.getfield 87, 3) := by decide +kernel
theorem dX10_look_142 : decode cX10_look 142 = .ok (.iload_n 1, 1) := by decide +kernel
theorem dX10_look_143 : decode cX10_look 143 = .ok (.iaload, 1) := by decide +kernel
theorem dX10_look_144 : decode cX10_look 144 = .ok (.ireturn, 1) := by decide +kernel
theorem dX10_look_145 : decode cX10_look 145 = .ok (.aload_n 0, 1) := by decide +kernel
theorem dX10_look_146 : decode cX10_look 146 = .ok (.getfield 87, 3) := by decide +kernel
theorem dX10_look_149 : decode cX10_look 149 = .ok (.iload_n 1, 1) := by decide +kernel
theorem dX10_look_150 : decode cX10_look 150 = .ok (.iaload, 1) := by decide +kernel
theorem dX10_look_151 : decode cX10_look 151 = .ok (.ifCond .ne 7, 3) := by decide +kernel
theorem dX10_look_154 : decode cX10_look 154 = .ok (.iconst 0, 1) := by decide +kernel
theorem dX10_look_155 : decode cX10_look 155 = .ok (.goto 35, 3) := by decide +kernel
theorem dX10_look_158 : decode cX10_look 158 = .ok (.aload_n 0, 1) := by decide +kernel
theorem dX10_look_159 : decode cX10_look 159 = .ok (.getfield 87, 3) := by decide +kernel
theorem dX10_look_162 : decode cX10_look 162 = .ok (.iload_n 1, 1) := by decide +kernel
theorem dX10_look_163 : decode cX10_look 163 = .ok (.iaload, 1) := by decide +kernel
theorem dX10_look_164 : decode cX10_look 164 = .ok (.iconst 1, 1) := by decide +kernel
theorem dX10_look_165 : decode cX10_look 165 = .ok (.if_icmp .ne 12, 3) := by decide +kernel
theorem dX10_look_168 : decode cX10_look 168 = .ok (.aload_n 0, 1) := by decide +kernel
theorem dX10_look_169 : decode cX10_look 169 = .ok (.getfield 69, 3) := by decide +kernel
theorem dX10_look_172 : decode cX10_look 172 = .ok (.iconst 0, 1) := by decide +kernel
theorem dX10_look_173 : decode cX10_look 173 = .ok (.iaload, 1) := by decide +kernel
theorem dX10_look_174 : decode cX10_look 174 = .ok (.goto 9, 3) := by decide +kernel
theorem dX10_look_177 : decode cX10_look 177 = .ok (.aload_n 0, 1) := by decide +kernel
theorem dX10_look_178 : decode cX10_look 178 = .ok (.getfield 105, 3) := by decide +kernel
theorem dX10_look_181 : decode cX10_look 181 = .ok (.iload_n 1, 1) := by decide +kernel
theorem dX10_look_182 : decode cX10_look 182 = .ok (.iaload, 1) := by decide +kernel
theorem dX10_look_183 : decode cX10_look 183 = .ok (.aload_n 0, 1) := by decide +kernel
theorem dX10_look_184 : decode cX10_look 184 = .ok (.getfield 102, 3) := by decide +kernel
theorem dX10_look_187 : decode cX10_look 187 = .ok (.iload_n 1, 1) := by decide +kernel
theorem dX10_look_188 : decode cX10_look 188 = .ok (.iaload, 1) := by decide +kernel
theorem dX10_look_189 : decode cX10_look 189 = .ok (.isub, 1) := by decide +kernel
theorem dX10_look_190 : decode cX10_look 190 = .ok (.ireturn, 1) := by decide +kernel
theorem dX10_look_191 : decode cX10_look 191 = .ok (.aload_n 0, 1) := by decide +kernel
theorem dX10_look_192 : decode cX10_look 192 = .ok (.getfield 108, 3) := by decide +kernel
theorem dX10_look_195 : decode cX10_look 195 = .ok (.iload_n 1, 1) := by decide +kernel
theorem dX10_look_196 : decode cX10_look 196 = .ok (.iaload, 1) := by decide +kernel
theorem dX10_look_197 : decode cX10_look 197 = .ok (.ireturn, 1) := by decide +kernel
theorem dX10_look_198 : decode cX10_look 198 = .ok (.aload_n 0, 1) := by decide +kernel
theorem dX10_look_199 : decode cX10_look 199 = .ok (.getfield 78, 3) := by decide +kernel
theorem dX10_look_202 : decode cX10_look 202 = .ok (.iconst 0, 1) := by decide +kernel
theorem dX10_look_203 : decode cX10_look 203 = .ok (.iaload, 1) := by decide +kernel
theorem dX10_look_204 : decode cX10_look 204 = .ok (.iload_n 1, 1) := by decide +kernel
theorem dX10_look_205 : decode cX10_look 205 = .ok (.ishr, 1) := by decide +kernel
theorem dX10_look_206 : decode cX10_look 206 = .ok (.iconst 1, 1) := by decide +kernel
theorem dX10_look_207 : decode cX10_look 207 = .ok (.iand, 1) := by decide +kernel
theorem dX10_look_208 : decode cX10_look 208 = .ok (.ireturn, 1) := by decide +kernel
theorem dX10_look_209 : decode cX10_look 209 = .ok (.aload_n 0, 1) := by decide +kernel
theorem dX10_look_210 : decode cX10_look 210 = .ok (.getfield 43, 3) := by decide +kernel
theorem dX10_look_213 : decode cX10_look 213 = .ok (.iload_n 1, 1) := by decide +kernel
theorem dX10_look_214 : decode cX10_look 214 = .ok (.iaload, 1) := by decide +kernel
theorem dX10_look_215 : decode cX10_look 215 = .ok (.iconst 1, 1) := by decide +kernel
theorem dX10_look_216 : decode cX10_look 216 = .ok (.isub, 1) := by decide +kernel
theorem dX10_look_217 : decode cX10_look 217 = .ok (.ireturn, 1) := by decide +kernel
theorem dX10_stands_0 : decode cX10_stands 0 = .ok (.aload_n 0, 1) := by decide +kernel
theorem dX10_stands_1 : decode cX10_stands 1 = .ok (.iconst 0, 1) := by decide +kernel
theorem dX10_stands_2 : decode cX10_stands 2 = .ok (.putfield 154, 3) := by decide +kernel
theorem dX10_stands_5 : decode cX10_stands 5 = .ok (.iload_n 1, 1) := by decide +kernel
theorem dX10_stands_6 : decode cX10_stands 6 = .ok (.invokestatic 414, 3) := by decide +kernel
theorem dX10_stands_9 : decode cX10_stands 9 = .ok (.ifCond .eq 12, 3) := by decide +kernel
theorem dX10_stands_12 : decode cX10_stands 12 = .ok (.aload_n 0, 1) := by decide +kernel
theorem dX10_stands_13 : decode cX10_stands 13 = .ok (.iconst 0, 1) := by decide +kernel
theorem dX10_stands_14 : decode cX10_stands 14 = .ok (.iload_n 1, 1) := by decide +kernel
theorem dX10_stands_15 : decode cX10_stands 15 = .ok (.invokevirtual 417, 3) := by decide +kernel
theorem dX10_stands_18 : decode cX10_stands 18 = .ok (.goto 4, 3) := by decide +kernel
theorem dX10_stands_21 : decode cX10_stands 21 = .ok (.iconst (-1), 1) := by decide +kernel
theorem dX10_stands_22 : decode cX10_stands 22 = .ok (.ireturn, 1) := by decide +kernel
theorem dX10_isPower_0 : decode cX10_isPower 0 = .ok (.iload_n 0, 1) := by decide +kernel
theorem dX10_isPower_1 : decode cX10_isPower 1 = .ok (.ifCond .lt 12, 3) := by decide +kernel
theorem dX10_isPower_4 : decode cX10_isPower 4 = .ok (.iload_n 0, 1) := by decide +kernel
theorem dX10_isPower_5 : decode cX10_isPower 5 = .ok (.iconst 3, 1) := by decide +kernel
theorem dX10_isPower_6 : decode cX10_isPower 6 = .ok (.if_icmp .ge 7, 3) := by decide +kernel
theorem dX10_isPower_9 : decode cX10_isPower 9 = .ok (.iconst 1, 1) := by decide +kernel
theorem dX10_isPower_10 : decode cX10_isPower 10 = .ok (.goto 4, 3) := by decide +kernel
theorem dX10_isPower_13 : decode cX10_isPower 13 = .ok (.iconst 0, 1) := by decide +kernel
theorem dX10_isPower_14 : decode cX10_isPower 14 = .ok (.ireturn, 1) := by decide +kernel
theorem dX10_holder_0 : decode cX10_holder 0 = .ok (.aload_n 0, 1) := by decide +kernel
theorem dX10_holder_1 : decode cX10_holder 1 = .ok (.iconst 0, 1) := by decide +kernel
theorem dX10_holder_2 : decode cX10_holder 2 = .ok (.putfield 154, 3) := by decide +kernel
theorem dX10_holder_5 : decode cX10_holder 5 = .ok (.iload_n 1, 1) := by decide +kernel
theorem dX10_holder_6 : decode cX10_holder 6 = .ok (.invokestatic 420, 3) := by decide +kernel
theorem dX10_holder_9 : decode cX10_holder 9 = .ok (.ifCond .eq 17, 3) := by decide +kernel
theorem dX10_holder_12 : decode cX10_holder 12 = .ok (.aload_n 0, 1) := by decide +kernel
theorem dX10_holder_13 : decode cX10_holder 13 = .ok (.iconst 0, 1) := by decide +kernel
theorem dX10_holder_14 : decode cX10_holder 14 = .ok (.aload_n 0, 1) := by decide +kernel
theorem dX10_holder_15 : decode cX10_holder 15 = .ok (.getfield 114, 3) := by decide +kernel
theorem dX10_holder_18 : decode cX10_holder 18 = .ok (.iload_n 1, 1) := by decide +kernel
theorem dX10_holder_19 : decode cX10_holder 19 = .ok (.iaload, 1) := by decide +kernel
theorem dX10_holder_20 : decode cX10_holder 20 = .ok (.invokevirtual 417, 3) := by decide +kernel
theorem dX10_holder_23 : decode cX10_holder 23 = .ok (.goto 4, 3) := by decide +kernel
theorem dX10_holder_26 : decode cX10_holder 26 = .ok (.iconst (-1), 1) := by decide +kernel
theorem dX10_holder_27 : decode cX10_holder 27 = .ok (.ireturn, 1) := by decide +kernel
theorem dX10_law_0 : decode cX10_law 0 = .ok (.aload_n 0, 1) := by decide +kernel
theorem dX10_law_1 : decode cX10_law 1 = .ok (.iconst 0, 1) := by decide +kernel
theorem dX10_law_2 : decode cX10_law 2 = .ok (.putfield 154, 3) := by decide +kernel
theorem dX10_law_5 : decode cX10_law 5 = .ok (.iload_n 1, 1) := by decide +kernel
theorem dX10_law_6 : decode cX10_law 6 = .ok (.ifCond .lt 41, 3) := by decide +kernel
theorem dX10_law_9 : decode cX10_law 9 = .ok (.iload_n 1, 1) := by decide +kernel
theorem dX10_law_10 : decode cX10_law 10 = .ok (.iconst 2, 1) := by decide +kernel
theorem dX10_law_11 : decode cX10_law 11 = .ok (.if_icmp .gt 36, 3) := by decide +kernel
theorem dX10_law_14 : decode cX10_law 14 = .ok (.aload_n 0, 1) := by decide +kernel
theorem dX10_law_15 : decode cX10_law 15 = .ok (.iload_n 1, 1) := by decide +kernel
theorem dX10_law_16 : decode cX10_law 16 = .ok (.invokevirtual 340, 3) := by decide +kernel
theorem dX10_law_19 : decode cX10_law 19 = .ok (.ifCond .eq 28, 3) := by decide +kernel
theorem dX10_law_22 : decode cX10_law 22 = .ok (.iload_n 1, 1) := by decide +kernel
theorem dX10_law_23 : decode cX10_law 23 = .ok (.iconst 2, 1) := by decide +kernel
theorem dX10_law_24 : decode cX10_law 24 = .ok (.if_icmp .ne 15, 3) := by decide +kernel
theorem dX10_law_27 : decode cX10_law 27 = .ok (.aload_n 0, 1) := by decide +kernel
theorem dX10_law_28 : decode cX10_law 28 = .ok (.getfield 81, 3) := by decide +kernel
theorem dX10_law_31 : decode cX10_law 31 = .ok (.iconst 0, 1) := by decide +kernel
theorem dX10_law_32 : decode cX10_law 32 = .ok (.iaload, 1) := by decide +kernel
theorem dX10_law_33 : decode cX10_law 33 = .ok (.ifCond .ne 18, 3) := by decide +kernel
theorem dX10_law_36 : decode cX10_law 36 = .ok (.goto 11, 3) := by decide +kernel
theorem dX10_law_39 : decode cX10_law 39 = .ok (.aload_n 0, 1) := by decide +kernel
theorem dX10_law_40 : decode cX10_law 40 = .ok (.iload_n 2, 1) := by decide +kernel
theorem dX10_law_41 : decode cX10_law 41 = .ok (.invokevirtual 423, 3) := by decide +kernel
theorem dX10_law_44 : decode cX10_law 44 = .ok (.ifCond .ne 7, 3) := by decide +kernel
theorem dX10_law_47 : decode cX10_law 47 = .ok (.ldc2_w 428, 3) := by decide +kernel
theorem dX10_law_50 : decode cX10_law 50 = .ok (.lreturn, 1) := by decide +kernel
theorem dX10_law_51 : decode cX10_law 51 = .ok (.iload_n 1, 1) := by decide +kernel
theorem dX10_law_52 : decode cX10_law 52 = .ok (.iconst 2, 1) := by decide +kernel
theorem dX10_law_53 : decode cX10_law 53 = .ok (.if_icmp .ne 29, 3) := by decide +kernel
theorem dX10_law_56 : decode cX10_law 56 = .ok (.aload_n 0, 1) := by decide +kernel
theorem dX10_law_57 : decode cX10_law 57 = .ok (.iconst 0, 1) := by decide +kernel
theorem dX10_law_58 : decode cX10_law 58 = .ok (.aload_n 0, 1) := by decide +kernel
theorem dX10_law_59 : decode cX10_law 59 = .ok (.getfield 84, 3) := by decide +kernel
theorem dX10_law_62 : decode cX10_law 62 = .ok (.iconst 0, 1) := by decide +kernel
theorem dX10_law_63 : decode cX10_law 63 = .ok (.iaload, 1) := by decide +kernel
theorem dX10_law_64 : decode cX10_law 64 = .ok (.aload_n 0, 1) := by decide +kernel
theorem dX10_law_65 : decode cX10_law 65 = .ok (.getfield 81, 3) := by decide +kernel
theorem dX10_law_68 : decode cX10_law 68 = .ok (.iconst 0, 1) := by decide +kernel
theorem dX10_law_69 : decode cX10_law 69 = .ok (.iaload, 1) := by decide +kernel
theorem dX10_law_70 : decode cX10_law 70 = .ok (.aload_n 0, 1) := by decide +kernel
theorem dX10_law_71 : decode cX10_law 71 = .ok (.getfield 69, 3) := by decide +kernel
theorem dX10_law_74 : decode cX10_law 74 = .ok (.iconst 0, 1) := by decide +kernel
theorem dX10_law_75 : decode cX10_law 75 = .ok (.iaload, 1) := by decide +kernel
theorem dX10_law_76 : decode cX10_law 76 = .ok (.invokevirtual 363, 3) := by decide +kernel
theorem dX10_law_79 : decode cX10_law 79 = .ok (.goto 21, 3) := by decide +kernel
theorem dX10_law_82 : decode cX10_law 82 = .ok (.aload_n 0, 1) := by decide +kernel
theorem dX10_law_83 : decode cX10_law 83 = .ok (.iconst 0, 1) := by decide +kernel
theorem dX10_law_84 : decode cX10_law 84 = .ok (.iload_n 2, 1) := by decide +kernel
theorem dX10_law_85 : decode cX10_law 85 = .ok (.aload_n 0, 1) := by decide +kernel
theorem dX10_law_86 : decode cX10_law 86 = .ok (.iconst 0, 1) := by decide +kernel
theorem dX10_law_87 : decode cX10_law 87 = .ok (.iload_n 2, 1) := by decide +kernel
theorem dX10_law_88 : decode cX10_law 88 = .ok (.invokevirtual 411, 3) := by decide +kernel
theorem dX10_law_91 : decode cX10_law 91 = .ok (.aload_n 0, 1) := by decide +kernel
theorem dX10_law_92 : decode cX10_law 92 = .ok (.getfield 69, 3) := by decide +kernel
theorem dX10_law_95 : decode cX10_law 95 = .ok (.iconst 0, 1) := by decide +kernel
theorem dX10_law_96 : decode cX10_law 96 = .ok (.iaload, 1) := by decide +kernel
theorem dX10_law_97 : decode cX10_law 97 = .ok (.invokevirtual 363, 3) := by decide +kernel
theorem dX10_law_100 : decode cX10_law 100 = .ok (.aload_n 0, 1) := by decide +kernel
theorem dX10_law_101 : decode cX10_law 101 = .ok (.iload_n 1, 1) := by decide +kernel
theorem dX10_law_102 : decode cX10_law 102 = .ok (.invokevirtual 343, 3) := by decide +kernel
theorem dX10_law_105 : decode cX10_law 105 = .ok (.ifCond .eq 12, 3) := by decide +kernel
theorem dX10_law_108 : decode cX10_law 108 = .ok (.aload_n 0, 1) := by decide +kernel
theorem dX10_law_109 : decode cX10_law 109 = .ok (.getfield 66, 3) := by decide +kernel
theorem dX10_law_112 : decode cX10_law 112 = .ok (.iconst 0, 1) := by decide +kernel
theorem dX10_law_113 : decode cX10_law 113 = .ok (.laload, 1) := by decide +kernel
theorem dX10_law_114 : decode cX10_law 114 = .ok (.goto 6, 3) := by decide +kernel
theorem dX10_law_117 : decode cX10_law 117 = .ok (.ldc2_w 428, 3) := by decide +kernel
theorem dX10_law_120 : decode cX10_law 120 = .ok (.lreturn, 1) := by decide +kernel
theorem dX10_minutesLeft_0 : decode cX10_minutesLeft 0 = .ok (.bipush 120, 2) := by decide +kernel
theorem dX10_minutesLeft_2 : decode cX10_minutesLeft 2 = .ok (.aload_n 0, 1) := by decide +kernel
theorem dX10_minutesLeft_3 : decode cX10_minutesLeft 3 = .ok (.getfield 69, 3) := by decide +kernel
theorem dX10_minutesLeft_6 : decode cX10_minutesLeft 6 = .ok (.iconst 0, 1) := by decide +kernel
theorem dX10_minutesLeft_7 : decode cX10_minutesLeft 7 = .ok (.iaload, 1) := by decide +kernel
theorem dX10_minutesLeft_8 : decode cX10_minutesLeft 8 = .ok (.isub, 1) := by decide +kernel
theorem dX10_minutesLeft_9 : decode cX10_minutesLeft 9 = .ok (.ireturn, 1) := by decide +kernel
theorem dX10_go_0 : decode cX10_go 0 = .ok (.aload_n 0, 1) := by decide +kernel
theorem dX10_go_1 : decode cX10_go 1 = .ok (.iconst 0, 1) := by decide +kernel
theorem dX10_go_2 : decode cX10_go 2 = .ok (.putfield 154, 3) := by decide +kernel
theorem dX10_go_5 : decode cX10_go 5 = .ok (.iload_n 1, 1) := by decide +kernel
theorem dX10_go_6 : decode cX10_go 6 = .ok (.ifCond .lt 17, 3) := by decide +kernel
theorem dX10_go_9 : decode cX10_go 9 = .ok (.iload_n 1, 1) := by decide +kernel
theorem dX10_go_10 : decode cX10_go 10 = .ok (.bipush 120, 2) := by decide +kernel
theorem dX10_go_12 : decode cX10_go 12 = .ok (.if_icmp .gt 11, 3) := by decide +kernel
theorem dX10_go_15 : decode cX10_go 15 = .ok (.iload_n 1, 1) := by decide +kernel
theorem dX10_go_16 : decode cX10_go 16 = .ok (.aload_n 0, 1) := by decide +kernel
theorem dX10_go_17 : decode cX10_go 17 = .ok (.invokevirtual 430, 3) := by decide +kernel
theorem dX10_go_20 : decode cX10_go 20 = .ok (.if_icmp .le 5, 3) := by decide +kernel
theorem dX10_go_23 : decode cX10_go 23 = .ok (.iconst (-1), 1) := by decide +kernel
theorem dX10_go_24 : decode cX10_go 24 = .ok (.ireturn, 1) := by decide +kernel
theorem dX10_go_25 : decode cX10_go 25 = .ok (.iload_n 1, 1) := by decide +kernel
theorem dX10_go_26 : decode cX10_go 26 = .ok (.ifCond .le 8, 3) := by decide +kernel
theorem dX10_go_29 : decode cX10_go 29 = .ok (.aload_n 0, 1) := by decide +kernel
theorem dX10_go_30 : decode cX10_go 30 = .ok (.iconst 0, 1) := by decide +kernel
theorem dX10_go_31 : decode cX10_go 31 = .ok (.putfield 317, 3) := by decide +kernel
theorem dX10_go_34 : decode cX10_go 34 = .ok (.iconst 0, 1) := by decide +kernel
theorem dX10_go_35 : decode cX10_go 35 = .ok (.istore_n 2, 1) := by decide +kernel
theorem dX10_go_36 : decode cX10_go 36 = .ok (.iload_n 2, 1) := by decide +kernel
theorem dX10_go_37 : decode cX10_go 37 = .ok (.iload_n 1, 1) := by decide +kernel
theorem dX10_go_38 : decode cX10_go 38 = .ok (.if_icmp .ge 60, 3) := by decide +kernel
theorem dX10_go_41 : decode cX10_go 41 = .ok (.aload_n 0, 1) := by decide +kernel
theorem dX10_go_42 : decode cX10_go 42 = .ok (.getfield 69, 3) := by decide +kernel
theorem dX10_go_45 : decode cX10_go 45 = .ok (.iconst 0, 1) := by decide +kernel
theorem dX10_go_46 : decode cX10_go 46 = .ok (.iaload, 1) := by decide +kernel
theorem dX10_go_47 : decode cX10_go 47 = .ok (.istore_n 3, 1) := by decide +kernel
theorem dX10_go_48 : decode cX10_go 48 = .ok (.aload_n 0, 1) := by decide +kernel
theorem dX10_go_49 : decode cX10_go 49 = .ok (.iconst 0, 1) := by decide +kernel
theorem dX10_go_50 : decode cX10_go 50 = .ok (.iconst 1, 1) := by decide +kernel
theorem dX10_go_51 : decode cX10_go 51 = .ok (.invokevirtual 407, 3) := by decide +kernel
theorem dX10_go_54 : decode cX10_go 54 = .ok (.iconst 0, 1) := by decide +kernel
theorem dX10_go_55 : decode cX10_go 55 = .ok (.istore 4, 2) := by decide +kernel
theorem dX10_go_57 : decode cX10_go 57 = .ok (.iload 4, 2) := by decide +kernel
theorem dX10_go_59 : decode cX10_go 59 = .ok (.iconst 3, 1) := by decide +kernel
theorem dX10_go_60 : decode cX10_go 60 = .ok (.if_icmp .ge 32, 3) := by decide +kernel
theorem dX10_go_63 : decode cX10_go 63 = .ok (.aload_n 0, 1) := by decide +kernel
theorem dX10_go_64 : decode cX10_go 64 = .ok (.getfield 117, 3) := by decide +kernel
theorem dX10_go_67 : decode cX10_go 67 = .ok (.iconst 3, 1) := by decide +kernel
theorem dX10_go_68 : decode cX10_go 68 = .ok (.iload_n 3, 1) := by decide +kernel
theorem dX10_go_69 : decode cX10_go 69 = .ok (.imul, 1) := by decide +kernel
theorem dX10_go_70 : decode cX10_go 70 = .ok (.iload 4, 2) := by decide +kernel
theorem dX10_go_72 : decode cX10_go 72 = .ok (.iadd, 1) := by decide +kernel
theorem dX10_go_73 : decode cX10_go 73 = .ok (.aload_n 0, 1) := by decide +kernel
theorem dX10_go_74 : decode cX10_go 74 = .ok (.iconst 0, 1) := by decide +kernel
theorem dX10_go_75 : decode cX10_go 75 = .ok (.aload_n 0, 1) := by decide +kernel
theorem dX10_go_76 : decode cX10_go 76 = .ok (.getfield 114, 3) := by decide +kernel
theorem dX10_go_79 : decode cX10_go 79 = .ok (.iload 4, 2) := by decide +kernel
theorem dX10_go_81 : decode cX10_go 81 = .ok (.iaload, 1) := by decide +kernel
theorem dX10_go_82 : decode cX10_go 82 = .ok (.invokevirtual 417, 3) := by decide +kernel
theorem dX10_go_85 : decode cX10_go 85 = .ok (.iastore, 1) := by decide +kernel
theorem dX10_go_86 : decode cX10_go 86 = .ok (.iinc 4 1, 3) := by decide +kernel
theorem dX10_go_89 : decode cX10_go 89 = .ok (.goto (-32), 3) := by decide +kernel
theorem dX10_go_92 : decode cX10_go 92 = .ok (.iinc 2 1, 3) := by decide +kernel
theorem dX10_go_95 : decode cX10_go 95 = .ok (.goto (-59), 3) := by decide +kernel
theorem dX10_go_98 : decode cX10_go 98 = .ok (.aload_n 0, 1) := by decide +kernel
theorem dX10_go_99 : decode cX10_go 99 = .ok (.getfield 69, 3) := by decide +kernel
theorem dX10_go_102 : decode cX10_go 102 = .ok (.iconst 0, 1) := by decide +kernel
theorem dX10_go_103 : decode cX10_go 103 = .ok (.iaload, 1) := by decide +kernel
theorem dX10_go_104 : decode cX10_go 104 = .ok (.ireturn, 1) := by decide +kernel
theorem dX10_keepNow_0 : decode cX10_keepNow 0 = .ok (.aload_n 0, 1) := by decide +kernel
theorem dX10_keepNow_1 : decode cX10_keepNow 1 = .ok (.getfield 317, 3) := by decide +kernel
theorem dX10_keepNow_4 : decode cX10_keepNow 4 = .ok (.bipush 20, 2) := by decide +kernel
theorem dX10_keepNow_6 : decode cX10_keepNow 6 = .ok (.if_icmp .ne 39, 3) := by decide +kernel
theorem dX10_keepNow_9 : decode cX10_keepNow 9 = .ok (.iconst 1, 1) := by decide +kernel
theorem dX10_keepNow_10 : decode cX10_keepNow 10 = .ok (.istore_n 1, 1) := by decide +kernel
theorem dX10_keepNow_11 : decode cX10_keepNow 11 = .ok (.iload_n 1, 1) := by decide +kernel
theorem dX10_keepNow_12 : decode cX10_keepNow 12 = .ok (.bipush 20, 2) := by decide +kernel
theorem dX10_keepNow_14 : decode cX10_keepNow 14 = .ok (.if_icmp .ge 21, 3) := by decide +kernel
theorem dX10_keepNow_17 : decode cX10_keepNow 17 = .ok (.aload_n 0, 1) := by decide +kernel
theorem dX10_keepNow_18 : decode cX10_keepNow 18 = .ok (.iconst 3, 1) := by decide +kernel
theorem dX10_keepNow_19 : decode cX10_keepNow 19 = .ok (.iload_n 1, 1) := by decide +kernel
theorem dX10_keepNow_20 : decode cX10_keepNow 20 = .ok (.iadd, 1) := by decide +kernel
theorem dX10_keepNow_21 : decode cX10_keepNow 21 = .ok (.iconst 1, 1) := by decide +kernel
theorem dX10_keepNow_22 : decode cX10_keepNow 22 = .ok (.isub, 1) := by decide +kernel
theorem dX10_keepNow_23 : decode cX10_keepNow 23 = .ok (.iconst 3, 1) := by decide +kernel
theorem dX10_keepNow_24 : decode cX10_keepNow 24 = .ok (.iload_n 1, 1) := by decide +kernel
theorem dX10_keepNow_25 : decode cX10_keepNow 25 = .ok (.iadd, 1) := by decide +kernel
theorem dX10_keepNow_26 : decode cX10_keepNow 26 = .ok (.invokevirtual 404, 3) := by decide +kernel
theorem dX10_keepNow_29 : decode cX10_keepNow 29 = .ok (.iinc 1 1, 3) := by decide +kernel
theorem dX10_keepNow_32 : decode cX10_keepNow 32 = .ok (.goto (-21), 3) := by decide +kernel
theorem dX10_keepNow_35 : decode cX10_keepNow 35 = .ok (.aload_n 0, 1) := by decide +kernel
theorem dX10_keepNow_36 : decode cX10_keepNow 36 = .ok (.dup, 1) := by decide +kernel
theorem dX10_keepNow_37 : decode cX10_keepNow 37 = .ok (.getfield 317, 3) := by decide +kernel
theorem dX10_keepNow_40 : decode cX10_keepNow 40 = .ok (.iconst 1, 1) := by decide +kernel
theorem dX10_keepNow_41 : decode cX10_keepNow 41 = .ok (.isub, 1) := by decide +kernel
theorem dX10_keepNow_42 : decode cX10_keepNow 42 = .ok (.putfield 317, 3) := by decide +kernel
theorem dX10_keepNow_45 : decode cX10_keepNow 45 = .ok (.aload_n 0, 1) := by decide +kernel
theorem dX10_keepNow_46 : decode cX10_keepNow 46 = .ok (.iconst 3, 1) := by decide +kernel
theorem dX10_keepNow_47 : decode cX10_keepNow 47 = .ok (.aload_n 0, 1) := by decide +kernel
theorem dX10_keepNow_48 : decode cX10_keepNow 48 = .ok (.getfield 317, 3) := by decide +kernel
theorem dX10_keepNow_51 : decode cX10_keepNow 51 = .ok (.iadd, 1) := by decide +kernel
theorem dX10_keepNow_52 : decode cX10_keepNow 52 = .ok (.iconst 0, 1) := by decide +kernel
theorem dX10_keepNow_53 : decode cX10_keepNow 53 = .ok (.invokevirtual 404, 3) := by decide +kernel
theorem dX10_keepNow_56 : decode cX10_keepNow 56 = .ok (.aload_n 0, 1) := by decide +kernel
theorem dX10_keepNow_57 : decode cX10_keepNow 57 = .ok (.dup, 1) := by decide +kernel
theorem dX10_keepNow_58 : decode cX10_keepNow 58 = .ok (.getfield 317, 3) := by decide +kernel
theorem dX10_keepNow_61 : decode cX10_keepNow 61 = .ok (.iconst 1, 1) := by decide +kernel
theorem dX10_keepNow_62 : decode cX10_keepNow 62 = .ok (.iadd, 1) := by decide +kernel
theorem dX10_keepNow_63 : decode cX10_keepNow 63 = .ok (.putfield 317, 3) := by decide +kernel
theorem dX10_keepNow_66 : decode cX10_keepNow 66 = .ok (.return_, 1) := by decide +kernel
theorem dX10_join_0 : decode cX10_join 0 = .ok (.aload_n 0, 1) := by decide +kernel
theorem dX10_join_1 : decode cX10_join 1 = .ok (.iconst 0, 1) := by decide +kernel
theorem dX10_join_2 : decode cX10_join 2 = .ok (.putfield 154, 3) := by decide +kernel
theorem dX10_join_5 : decode cX10_join 5 = .ok (.aload_n 0, 1) := by decide +kernel
theorem dX10_join_6 : decode cX10_join 6 = .ok (.iload_n 1, 1) := by decide +kernel
theorem dX10_join_7 : decode cX10_join 7 = .ok (.invokevirtual 433, 3) := by decide +kernel
theorem dX10_join_10 : decode cX10_join 10 = .ok (.ifCond .ne 5, 3) := by decide +kernel
theorem dX10_join_13 : decode cX10_join 13 = .ok (.iconst (-1), 1) := by decide +kernel
theorem dX10_join_14 : decode cX10_join 14 = .ok (.ireturn, 1) := by decide +kernel
theorem dX10_join_15 : decode cX10_join 15 = .ok (.aload_n 0, 1) := by decide +kernel
theorem dX10_join_16 : decode cX10_join 16 = .ok (.invokevirtual 436, 3) := by decide +kernel
theorem dX10_join_19 : decode cX10_join 19 = .ok (.aload_n 0, 1) := by decide +kernel
theorem dX10_join_20 : decode cX10_join 20 = .ok (.iconst 0, 1) := by decide +kernel
theorem dX10_join_21 : decode cX10_join 21 = .ok (.iload_n 1, 1) := by decide +kernel
theorem dX10_join_22 : decode cX10_join 22 = .ok (.aload_n 0, 1) := by decide +kernel
theorem dX10_join_23 : decode cX10_join 23 = .ok (.getfield 69, 3) := by decide +kernel
theorem dX10_join_26 : decode cX10_join 26 = .ok (.iconst 0, 1) := by decide +kernel
theorem dX10_join_27 : decode cX10_join 27 = .ok (.iaload, 1) := by decide +kernel
theorem dX10_join_28 : decode cX10_join 28 = .ok (.invokevirtual 359, 3) := by decide +kernel
theorem dX10_join_31 : decode cX10_join 31 = .ok (.aload_n 0, 1) := by decide +kernel
theorem dX10_join_32 : decode cX10_join 32 = .ok (.getfield 81, 3) := by decide +kernel
theorem dX10_join_35 : decode cX10_join 35 = .ok (.iconst 0, 1) := by decide +kernel
theorem dX10_join_36 : decode cX10_join 36 = .ok (.iaload, 1) := by decide +kernel
theorem dX10_join_37 : decode cX10_join 37 = .ok (.iconst 1, 1) := by decide +kernel
theorem dX10_join_38 : decode cX10_join 38 = .ok (.isub, 1) := by decide +kernel
theorem dX10_join_39 : decode cX10_join 39 = .ok (.ireturn, 1) := by decide +kernel
theorem dX10_out_0 : decode cX10_out 0 = .ok (.aload_n 0, 1) := by decide +kernel
theorem dX10_out_1 : decode cX10_out 1 = .ok (.iconst 0, 1) := by decide +kernel
theorem dX10_out_2 : decode cX10_out 2 = .ok (.putfield 154, 3) := by decide +kernel
theorem dX10_out_5 : decode cX10_out 5 = .ok (.aload_n 0, 1) := by decide +kernel
theorem dX10_out_6 : decode cX10_out 6 = .ok (.iload_n 1, 1) := by decide +kernel
theorem dX10_out_7 : decode cX10_out 7 = .ok (.invokevirtual 423, 3) := by decide +kernel
theorem dX10_out_10 : decode cX10_out 10 = .ok (.ifCond .ne 5, 3) := by decide +kernel
theorem dX10_out_13 : decode cX10_out 13 = .ok (.iconst 0, 1) := by decide +kernel
theorem dX10_out_14 : decode cX10_out 14 = .ok (.ireturn, 1) := by decide +kernel
theorem dX10_out_15 : decode cX10_out 15 = .ok (.aload_n 0, 1) := by decide +kernel
theorem dX10_out_16 : decode cX10_out 16 = .ok (.invokevirtual 436, 3) := by decide +kernel
theorem dX10_out_19 : decode cX10_out 19 = .ok (.aload_n 0, 1) := by decide +kernel
theorem dX10_out_20 : decode cX10_out 20 = .ok (.iconst 0, 1) := by decide +kernel
theorem dX10_out_21 : decode cX10_out 21 = .ok (.aload_n 0, 1) := by decide +kernel
theorem dX10_out_22 : decode cX10_out 22 = .ok (.iconst 0, 1) := by decide +kernel
theorem dX10_out_23 : decode cX10_out 23 = .ok (.iload_n 1, 1) := by decide +kernel
theorem dX10_out_24 : decode cX10_out 24 = .ok (.invokevirtual 411, 3) := by decide +kernel
theorem dX10_out_27 : decode cX10_out 27 = .ok (.iconst 3, 1) := by decide +kernel
theorem dX10_out_28 : decode cX10_out 28 = .ok (.aload_n 0, 1) := by decide +kernel
theorem dX10_out_29 : decode cX10_out 29 = .ok (.getfield 69, 3) := by decide +kernel
theorem dX10_out_32 : decode cX10_out 32 = .ok (.iconst 0, 1) := by decide +kernel
theorem dX10_out_33 : decode cX10_out 33 = .ok (.iaload, 1) := by decide +kernel
theorem dX10_out_34 : decode cX10_out 34 = .ok (.invokevirtual 377, 3) := by decide +kernel
theorem dX10_out_37 : decode cX10_out 37 = .ok (.iconst 1, 1) := by decide +kernel
theorem dX10_out_38 : decode cX10_out 38 = .ok (.ireturn, 1) := by decide +kernel
theorem dX10_swap_0 : decode cX10_swap 0 = .ok (.aload_n 0, 1) := by decide +kernel
theorem dX10_swap_1 : decode cX10_swap 1 = .ok (.iconst 0, 1) := by decide +kernel
theorem dX10_swap_2 : decode cX10_swap 2 = .ok (.putfield 154, 3) := by decide +kernel
theorem dX10_swap_5 : decode cX10_swap 5 = .ok (.aload_n 0, 1) := by decide +kernel
theorem dX10_swap_6 : decode cX10_swap 6 = .ok (.iload_n 1, 1) := by decide +kernel
theorem dX10_swap_7 : decode cX10_swap 7 = .ok (.invokevirtual 423, 3) := by decide +kernel
theorem dX10_swap_10 : decode cX10_swap 10 = .ok (.ifCond .eq 36, 3) := by decide +kernel
theorem dX10_swap_13 : decode cX10_swap 13 = .ok (.aload_n 0, 1) := by decide +kernel
theorem dX10_swap_14 : decode cX10_swap 14 = .ok (.iload_n 2, 1) := by decide +kernel
theorem dX10_swap_15 : decode cX10_swap 15 = .ok (.invokevirtual 423, 3) := by decide +kernel
theorem dX10_swap_18 : decode cX10_swap 18 = .ok (.ifCond .eq 28, 3) := by decide +kernel
theorem dX10_swap_21 : decode cX10_swap 21 = .ok (.iload_n 1, 1) := by decide +kernel
theorem dX10_swap_22 : decode cX10_swap 22 = .ok (.iload_n 2, 1) := by decide +kernel
theorem dX10_swap_23 : decode cX10_swap 23 = .ok (.if_icmp .eq 23, 3) := by decide +kernel
theorem dX10_swap_26 : decode cX10_swap 26 = .ok (.iload_n 3, 1) := by decide +kernel
theorem dX10_swap_27 : decode cX10_swap 27 = .ok (.ifCond .lt 19, 3) := by decide +kernel
theorem dX10_swap_30 : decode cX10_swap 30 = .ok (.iload_n 3, 1) := by decide +kernel
theorem dX10_swap_31 : decode cX10_swap 31 = .ok (.bipush 99, 2) := by decide +kernel
theorem dX10_swap_33 : decode cX10_swap 33 = .ok (.if_icmp .gt 13, 3) := by decide +kernel
theorem dX10_swap_36 : decode cX10_swap 36 = .ok (.aload_n 0, 1) := by decide +kernel
theorem dX10_swap_37 : decode cX10_swap 37 = .ok (.getfield 96, 3) := by decide +kernel
theorem dX10_swap_40 : decode cX10_swap 40 = .ok (.iload_n 1, 1) := by decide +kernel
theorem dX10_swap_41 : decode cX10_swap 41 = .ok (.iaload, 1) := by decide +kernel
theorem dX10_swap_42 : decode cX10_swap 42 = .ok (.iload_n 3, 1) := by decide +kernel
theorem dX10_swap_43 : decode cX10_swap 43 = .ok (.if_icmp .ge 5, 3) := by decide +kernel
theorem dX10_swap_46 : decode cX10_swap 46 = .ok (.iconst 0, 1) := by decide +kernel
theorem dX10_swap_47 : decode cX10_swap 47 = .ok (.ireturn, 1) := by decide +kernel
theorem dX10_swap_48 : decode cX10_swap 48 = .ok (.aload_n 0, 1) := by decide +kernel
theorem dX10_swap_49 : decode cX10_swap 49 = .ok (.invokevirtual 436, 3) := by decide +kernel
theorem dX10_swap_52 : decode cX10_swap 52 = .ok (.aload_n 0, 1) := by decide +kernel
theorem dX10_swap_53 : decode cX10_swap 53 = .ok (.iconst 0, 1) := by decide +kernel
theorem dX10_swap_54 : decode cX10_swap 54 = .ok (.iload_n 1, 1) := by decide +kernel
theorem dX10_swap_55 : decode cX10_swap 55 = .ok (.invokevirtual 411, 3) := by decide +kernel
theorem dX10_swap_58 : decode cX10_swap 58 = .ok (.istore 4, 2) := by decide +kernel
theorem dX10_swap_60 : decode cX10_swap 60 = .ok (.aload_n 0, 1) := by decide +kernel
theorem dX10_swap_61 : decode cX10_swap 61 = .ok (.iconst 0, 1) := by decide +kernel
theorem dX10_swap_62 : decode cX10_swap 62 = .ok (.iload_n 2, 1) := by decide +kernel
theorem dX10_swap_63 : decode cX10_swap 63 = .ok (.invokevirtual 411, 3) := by decide +kernel
theorem dX10_swap_66 : decode cX10_swap 66 = .ok (.istore 5, 2) := by decide +kernel
theorem dX10_swap_68 : decode cX10_swap 68 = .ok (.aload_n 0, 1) := by decide +kernel
theorem dX10_swap_69 : decode cX10_swap 69 = .ok (.getfield 84, 3) := by decide +kernel
theorem dX10_swap_72 : decode cX10_swap 72 = .ok (.iload 4, 2) := by decide +kernel
theorem dX10_swap_74 : decode cX10_swap 74 = .ok (.iload_n 2, 1) := by decide +kernel
theorem dX10_swap_75 : decode cX10_swap 75 = .ok (.iastore, 1) := by decide +kernel
theorem dX10_swap_76 : decode cX10_swap 76 = .ok (.aload_n 0, 1) := by decide +kernel
theorem dX10_swap_77 : decode cX10_swap 77 = .ok (.getfield 84, 3) := by decide +kernel
theorem dX10_swap_80 : decode cX10_swap 80 = .ok (.iload 5, 2) := by decide +kernel
theorem dX10_swap_82 : decode cX10_swap 82 = .ok (.iload_n 1, 1) := by decide +kernel
theorem dX10_swap_83 : decode cX10_swap 83 = .ok (.iastore, 1) := by decide +kernel
theorem dX10_swap_84 : decode cX10_swap 84 = .ok (.aload_n 0, 1) := by decide +kernel
theorem dX10_swap_85 : decode cX10_swap 85 = .ok (.getfield 96, 3) := by decide +kernel
theorem dX10_swap_88 : decode cX10_swap 88 = .ok (.iload_n 1, 1) := by decide +kernel
theorem dX10_swap_89 : decode cX10_swap 89 = .ok (.dup2, 1) := by decide +kernel
theorem dX10_swap_90 : decode cX10_swap 90 = .ok (.iaload, 1) := by decide +kernel
theorem dX10_swap_91 : decode cX10_swap 91 = .ok (.iload_n 3, 1) := by decide +kernel
theorem dX10_swap_92 : decode cX10_swap 92 = .ok (.isub, 1) := by decide +kernel
theorem dX10_swap_93 : decode cX10_swap 93 = .ok (.iastore, 1) := by decide +kernel
theorem dX10_swap_94 : decode cX10_swap 94 = .ok (.aload_n 0, 1) := by decide +kernel
theorem dX10_swap_95 : decode cX10_swap 95 = .ok (.getfield 96, 3) := by decide +kernel
theorem dX10_swap_98 : decode cX10_swap 98 = .ok (.iload_n 2, 1) := by decide +kernel
theorem dX10_swap_99 : decode cX10_swap 99 = .ok (.dup2, 1) := by decide +kernel
theorem dX10_swap_100 : decode cX10_swap 100 = .ok (.iaload, 1) := by decide +kernel
theorem dX10_swap_101 : decode cX10_swap 101 = .ok (.iload_n 3, 1) := by decide +kernel
theorem dX10_swap_102 : decode cX10_swap 102 = .ok (.iadd, 1) := by decide +kernel
theorem dX10_swap_103 : decode cX10_swap 103 = .ok (.iastore, 1) := by decide +kernel
theorem dX10_swap_104 : decode cX10_swap 104 = .ok (.iconst 1, 1) := by decide +kernel
theorem dX10_swap_105 : decode cX10_swap 105 = .ok (.ireturn, 1) := by decide +kernel
theorem dX10_kneel_0 : decode cX10_kneel 0 = .ok (.aload_n 0, 1) := by decide +kernel
theorem dX10_kneel_1 : decode cX10_kneel 1 = .ok (.iconst 0, 1) := by decide +kernel
theorem dX10_kneel_2 : decode cX10_kneel 2 = .ok (.putfield 154, 3) := by decide +kernel
theorem dX10_kneel_5 : decode cX10_kneel 5 = .ok (.aload_n 0, 1) := by decide +kernel
theorem dX10_kneel_6 : decode cX10_kneel 6 = .ok (.iload_n 1, 1) := by decide +kernel
theorem dX10_kneel_7 : decode cX10_kneel 7 = .ok (.invokevirtual 423, 3) := by decide +kernel
theorem dX10_kneel_10 : decode cX10_kneel 10 = .ok (.ifCond .eq 24, 3) := by decide +kernel
theorem dX10_kneel_13 : decode cX10_kneel 13 = .ok (.iload_n 2, 1) := by decide +kernel
theorem dX10_kneel_14 : decode cX10_kneel 14 = .ok (.iconst 1, 1) := by decide +kernel
theorem dX10_kneel_15 : decode cX10_kneel 15 = .ok (.if_icmp .lt 19, 3) := by decide +kernel
theorem dX10_kneel_18 : decode cX10_kneel 18 = .ok (.iload_n 2, 1) := by decide +kernel
theorem dX10_kneel_19 : decode cX10_kneel 19 = .ok (.bipush 20, 2) := by decide +kernel
theorem dX10_kneel_21 : decode cX10_kneel 21 = .ok (.if_icmp .gt 13, 3) := by decide +kernel
theorem dX10_kneel_24 : decode cX10_kneel 24 = .ok (.aload_n 0, 1) := by decide +kernel
theorem dX10_kneel_25 : decode cX10_kneel 25 = .ok (.getfield 108, 3) := by decide +kernel
theorem dX10_kneel_28 : decode cX10_kneel 28 = .ok (.iload_n 1, 1) := by decide +kernel
theorem dX10_kneel_29 : decode cX10_kneel 29 = .ok (.iaload, 1) := by decide +kernel
theorem dX10_kneel_30 : decode cX10_kneel 30 = .ok (.iload_n 2, 1) := by decide +kernel
theorem dX10_kneel_31 : decode cX10_kneel 31 = .ok (.if_icmp .ne 5, 3) := by decide +kernel
theorem dX10_kneel_34 : decode cX10_kneel 34 = .ok (.iconst 0, 1) := by decide +kernel
theorem dX10_kneel_35 : decode cX10_kneel 35 = .ok (.ireturn, 1) := by decide +kernel
theorem dX10_kneel_36 : decode cX10_kneel 36 = .ok (.aload_n 0, 1) := by decide +kernel
theorem dX10_kneel_37 : decode cX10_kneel 37 = .ok (.invokevirtual 436, 3) := by decide +kernel
theorem dX10_kneel_40 : decode cX10_kneel 40 = .ok (.aload_n 0, 1) := by decide +kernel
theorem dX10_kneel_41 : decode cX10_kneel 41 = .ok (.getfield 108, 3) := by decide +kernel
theorem dX10_kneel_44 : decode cX10_kneel 44 = .ok (.iload_n 1, 1) := by decide +kernel
theorem dX10_kneel_45 : decode cX10_kneel 45 = .ok (.iload_n 2, 1) := by decide +kernel
theorem dX10_kneel_46 : decode cX10_kneel 46 = .ok (.iastore, 1) := by decide +kernel
theorem dX10_kneel_47 : decode cX10_kneel 47 = .ok (.iconst 1, 1) := by decide +kernel
theorem dX10_kneel_48 : decode cX10_kneel 48 = .ok (.ireturn, 1) := by decide +kernel
theorem dX10_cough_0 : decode cX10_cough 0 = .ok (.aload_n 0, 1) := by decide +kernel
theorem dX10_cough_1 : decode cX10_cough 1 = .ok (.iconst 0, 1) := by decide +kernel
theorem dX10_cough_2 : decode cX10_cough 2 = .ok (.putfield 154, 3) := by decide +kernel
theorem dX10_cough_5 : decode cX10_cough 5 = .ok (.aload_n 0, 1) := by decide +kernel
theorem dX10_cough_6 : decode cX10_cough 6 = .ok (.iload_n 1, 1) := by decide +kernel
theorem dX10_cough_7 : decode cX10_cough 7 = .ok (.invokevirtual 423, 3) := by decide +kernel
theorem dX10_cough_10 : decode cX10_cough 10 = .ok (.ifCond .eq 17, 3) := by decide +kernel
theorem dX10_cough_13 : decode cX10_cough 13 = .ok (.aload_n 0, 1) := by decide +kernel
theorem dX10_cough_14 : decode cX10_cough 14 = .ok (.getfield 78, 3) := by decide +kernel
theorem dX10_cough_17 : decode cX10_cough 17 = .ok (.iconst 0, 1) := by decide +kernel
theorem dX10_cough_18 : decode cX10_cough 18 = .ok (.iaload, 1) := by decide +kernel
theorem dX10_cough_19 : decode cX10_cough 19 = .ok (.iload_n 1, 1) := by decide +kernel
theorem dX10_cough_20 : decode cX10_cough 20 = .ok (.ishr, 1) := by decide +kernel
theorem dX10_cough_21 : decode cX10_cough 21 = .ok (.iconst 1, 1) := by decide +kernel
theorem dX10_cough_22 : decode cX10_cough 22 = .ok (.iand, 1) := by decide +kernel
theorem dX10_cough_23 : decode cX10_cough 23 = .ok (.iconst 1, 1) := by decide +kernel
theorem dX10_cough_24 : decode cX10_cough 24 = .ok (.if_icmp .ne 5, 3) := by decide +kernel
theorem dX10_cough_27 : decode cX10_cough 27 = .ok (.iconst 0, 1) := by decide +kernel
theorem dX10_cough_28 : decode cX10_cough 28 = .ok (.ireturn, 1) := by decide +kernel
theorem dX10_cough_29 : decode cX10_cough 29 = .ok (.aload_n 0, 1) := by decide +kernel
theorem dX10_cough_30 : decode cX10_cough 30 = .ok (.invokevirtual 436, 3) := by decide +kernel
theorem dX10_cough_33 : decode cX10_cough 33 = .ok (.aload_n 0, 1) := by decide +kernel
theorem dX10_cough_34 : decode cX10_cough 34 = .ok (.getfield 78, 3) := by decide +kernel
theorem dX10_cough_37 : decode cX10_cough 37 = .ok (.iconst 0, 1) := by decide +kernel
theorem dX10_cough_38 : decode cX10_cough 38 = .ok (.dup2, 1) := by decide +kernel
theorem dX10_cough_39 : decode cX10_cough 39 = .ok (.iaload, 1) := by decide +kernel
theorem dX10_cough_40 : decode cX10_cough 40 = .ok (.iconst 1, 1) := by decide +kernel
theorem dX10_cough_41 : decode cX10_cough 41 = .ok (.iload_n 1, 1) := by decide +kernel
theorem dX10_cough_42 : decode cX10_cough 42 = .ok (.ishl, 1) := by decide +kernel
theorem dX10_cough_43 : decode cX10_cough 43 = .ok (.ior, 1) := by decide +kernel
theorem dX10_cough_44 : decode cX10_cough 44 = .ok (.iastore, 1) := by decide +kernel
theorem dX10_cough_45 : decode cX10_cough 45 = .ok (.iconst 1, 1) := by decide +kernel
theorem dX10_cough_46 : decode cX10_cough 46 = .ok (.ireturn, 1) := by decide +kernel
theorem dX10_move_0 : decode cX10_move 0 = .ok (.aload_n 0, 1) := by decide +kernel
theorem dX10_move_1 : decode cX10_move 1 = .ok (.iconst 0, 1) := by decide +kernel
theorem dX10_move_2 : decode cX10_move 2 = .ok (.putfield 154, 3) := by decide +kernel
theorem dX10_move_5 : decode cX10_move 5 = .ok (.iload_n 1, 1) := by decide +kernel
theorem dX10_move_6 : decode cX10_move 6 = .ok (.invokestatic 420, 3) := by decide +kernel
theorem dX10_move_9 : decode cX10_move 9 = .ok (.ifCond .eq 20, 3) := by decide +kernel
theorem dX10_move_12 : decode cX10_move 12 = .ok (.iload_n 2, 1) := by decide +kernel
theorem dX10_move_13 : decode cX10_move 13 = .ok (.invokestatic 414, 3) := by decide +kernel
theorem dX10_move_16 : decode cX10_move 16 = .ok (.ifCond .eq 13, 3) := by decide +kernel
theorem dX10_move_19 : decode cX10_move 19 = .ok (.aload_n 0, 1) := by decide +kernel
theorem dX10_move_20 : decode cX10_move 20 = .ok (.getfield 114, 3) := by decide +kernel
theorem dX10_move_23 : decode cX10_move 23 = .ok (.iload_n 1, 1) := by decide +kernel
theorem dX10_move_24 : decode cX10_move 24 = .ok (.iaload, 1) := by decide +kernel
theorem dX10_move_25 : decode cX10_move 25 = .ok (.iload_n 2, 1) := by decide +kernel
theorem dX10_move_26 : decode cX10_move 26 = .ok (.if_icmp .ne 5, 3) := by decide +kernel
theorem dX10_move_29 : decode cX10_move 29 = .ok (.iconst 0, 1) := by decide +kernel
theorem dX10_move_30 : decode cX10_move 30 = .ok (.ireturn, 1) := by decide +kernel
theorem dX10_move_31 : decode cX10_move 31 = .ok (.aload_n 0, 1) := by decide +kernel
theorem dX10_move_32 : decode cX10_move 32 = .ok (.invokevirtual 436, 3) := by decide +kernel
theorem dX10_move_35 : decode cX10_move 35 = .ok (.aload_n 0, 1) := by decide +kernel
theorem dX10_move_36 : decode cX10_move 36 = .ok (.getfield 114, 3) := by decide +kernel
theorem dX10_move_39 : decode cX10_move 39 = .ok (.iload_n 1, 1) := by decide +kernel
theorem dX10_move_40 : decode cX10_move 40 = .ok (.iload_n 2, 1) := by decide +kernel
theorem dX10_move_41 : decode cX10_move 41 = .ok (.iastore, 1) := by decide +kernel
theorem dX10_move_42 : decode cX10_move 42 = .ok (.iconst 1, 1) := by decide +kernel
theorem dX10_move_43 : decode cX10_move 43 = .ok (.ireturn, 1) := by decide +kernel
theorem dX10_isGone_0 : decode cX10_isGone 0 = .ok (.iload_n 1, 1) := by decide +kernel
theorem dX10_isGone_1 : decode cX10_isGone 1 = .ok (.ifCond .lt 17, 3) := by decide +kernel
theorem dX10_isGone_4 : decode cX10_isGone 4 = .ok (.iload_n 1, 1) := by decide +kernel
theorem dX10_isGone_5 : decode cX10_isGone 5 = .ok (.aload_n 0, 1) := by decide +kernel
theorem dX10_isGone_6 : decode cX10_isGone 6 = .ok (.getfield 69, 3) := by decide +kernel
theorem dX10_isGone_9 : decode cX10_isGone 9 = .ok (.iconst 0, 1) := by decide +kernel
theorem dX10_isGone_10 : decode cX10_isGone 10 = .ok (.iaload, 1) := by decide +kernel
theorem dX10_isGone_11 : decode cX10_isGone 11 = .ok (.if_icmp .ge 7, 3) := by decide +kernel
theorem dX10_isGone_14 : decode cX10_isGone 14 = .ok (.iconst 1, 1) := by decide +kernel
theorem dX10_isGone_15 : decode cX10_isGone 15 = .ok (.goto 4, 3) := by decide +kernel
theorem dX10_isGone_18 : decode cX10_isGone 18 = .ok (.iconst 0, 1) := by decide +kernel
theorem dX10_isGone_19 : decode cX10_isGone 19 = .ok (.ireturn, 1) := by decide +kernel
theorem dX10_was_0 : decode cX10_was 0 = .ok (.aload_n 0, 1) := by decide +kernel
theorem dX10_was_1 : decode cX10_was 1 = .ok (.iconst 0, 1) := by decide +kernel
theorem dX10_was_2 : decode cX10_was 2 = .ok (.putfield 154, 3) := by decide +kernel
theorem dX10_was_5 : decode cX10_was 5 = .ok (.iload_n 1, 1) := by decide +kernel
theorem dX10_was_6 : decode cX10_was 6 = .ok (.invokestatic 420, 3) := by decide +kernel
theorem dX10_was_9 : decode cX10_was 9 = .ok (.ifCond .eq 24, 3) := by decide +kernel
theorem dX10_was_12 : decode cX10_was 12 = .ok (.aload_n 0, 1) := by decide +kernel
theorem dX10_was_13 : decode cX10_was 13 = .ok (.iload_n 2, 1) := by decide +kernel
theorem dX10_was_14 : decode cX10_was 14 = .ok (.invokevirtual 439, 3) := by decide +kernel
theorem dX10_was_17 : decode cX10_was 17 = .ok (.ifCond .eq 16, 3) := by decide +kernel
theorem dX10_was_20 : decode cX10_was 20 = .ok (.aload_n 0, 1) := by decide +kernel
theorem dX10_was_21 : decode cX10_was 21 = .ok (.getfield 117, 3) := by decide +kernel
theorem dX10_was_24 : decode cX10_was 24 = .ok (.iconst 3, 1) := by decide +kernel
theorem dX10_was_25 : decode cX10_was 25 = .ok (.iload_n 2, 1) := by decide +kernel
theorem dX10_was_26 : decode cX10_was 26 = .ok (.imul, 1) := by decide +kernel
theorem dX10_was_27 : decode cX10_was 27 = .ok (.iload_n 1, 1) := by decide +kernel
theorem dX10_was_28 : decode cX10_was 28 = .ok (.iadd, 1) := by decide +kernel
theorem dX10_was_29 : decode cX10_was 29 = .ok (.iaload, 1) := by decide +kernel
theorem dX10_was_30 : decode cX10_was 30 = .ok (.goto 4, 3) := by decide +kernel
theorem dX10_was_33 : decode cX10_was 33 = .ok (.iconst (-1), 1) := by decide +kernel
theorem dX10_was_34 : decode cX10_was 34 = .ok (.ireturn, 1) := by decide +kernel
theorem dX10_ruled_0 : decode cX10_ruled 0 = .ok (.aload_n 0, 1) := by decide +kernel
theorem dX10_ruled_1 : decode cX10_ruled 1 = .ok (.iconst 0, 1) := by decide +kernel
theorem dX10_ruled_2 : decode cX10_ruled 2 = .ok (.putfield 154, 3) := by decide +kernel
theorem dX10_ruled_5 : decode cX10_ruled 5 = .ok (.aload_n 0, 1) := by decide +kernel
theorem dX10_ruled_6 : decode cX10_ruled 6 = .ok (.iload_n 1, 1) := by decide +kernel
theorem dX10_ruled_7 : decode cX10_ruled 7 = .ok (.invokevirtual 356, 3) := by decide +kernel
theorem dX10_ruled_10 : decode cX10_ruled 10 = .ok (.ifCond .eq 10, 3) := by decide +kernel
theorem dX10_ruled_13 : decode cX10_ruled 13 = .ok (.iload_n 2, 1) := by decide +kernel
theorem dX10_ruled_14 : decode cX10_ruled 14 = .ok (.invokestatic 420, 3) := by decide +kernel
theorem dX10_ruled_17 : decode cX10_ruled 17 = .ok (.ifCond .ne 5, 3) := by decide +kernel
theorem dX10_ruled_20 : decode cX10_ruled 20 = .ok (.iconst (-1), 1) := by decide +kernel
theorem dX10_ruled_21 : decode cX10_ruled 21 = .ok (.ireturn, 1) := by decide +kernel
theorem dX10_ruled_22 : decode cX10_ruled 22 = .ok (.iconst 0, 1) := by decide +kernel
theorem dX10_ruled_23 : decode cX10_ruled 23 = .ok (.istore_n 3, 1) := by decide +kernel
theorem dX10_ruled_24 : decode cX10_ruled 24 = .ok (.iconst 0, 1) := by decide +kernel
theorem dX10_ruled_25 : decode cX10_ruled 25 = .ok (.istore 4, 2) := by decide +kernel
theorem dX10_ruled_27 : decode cX10_ruled 27 = .ok (.iload 4, 2) := by decide +kernel
theorem dX10_ruled_29 : decode cX10_ruled 29 = .ok (.aload_n 0, 1) := by decide +kernel
theorem dX10_ruled_30 : decode cX10_ruled 30 = .ok (.getfield 69, 3) := by decide +kernel
theorem dX10_ruled_33 : decode cX10_ruled 33 = .ok (.iconst 0, 1) := by decide +kernel
theorem dX10_ruled_34 : decode cX10_ruled 34 = .ok (.iaload, 1) := by decide +kernel
theorem dX10_ruled_35 : decode cX10_ruled 35 = .ok (.if_icmp .ge 32, 3) := by decide +kernel
theorem dX10_ruled_38 : decode cX10_ruled 38 = .ok (.iload_n 3, 1) := by decide +kernel
theorem dX10_ruled_39 : decode cX10_ruled 39 = .ok (.aload_n 0, 1) := by decide +kernel
theorem dX10_ruled_40 : decode cX10_ruled 40 = .ok (.getfield 117, 3) := by decide +kernel
theorem dX10_ruled_43 : decode cX10_ruled 43 = .ok (.iconst 3, 1) := by decide +kernel
theorem dX10_ruled_44 : decode cX10_ruled 44 = .ok (.iload 4, 2) := by decide +kernel
theorem dX10_ruled_46 : decode cX10_ruled 46 = .ok (.imul, 1) := by decide +kernel
theorem dX10_ruled_47 : decode cX10_ruled 47 = .ok (.iload_n 2, 1) := by decide +kernel
theorem dX10_ruled_48 : decode cX10_ruled 48 = .ok (.iadd, 1) := by decide +kernel
theorem dX10_ruled_49 : decode cX10_ruled 49 = .ok (.iaload, 1) := by decide +kernel
theorem dX10_ruled_50 : decode cX10_ruled 50 = .ok (.iload_n 1, 1) := by decide +kernel
theorem dX10_ruled_51 : decode cX10_ruled 51 = .ok (.if_icmp .ne 7, 3) := by decide +kernel
theorem dX10_ruled_54 : decode cX10_ruled 54 = .ok (.iconst 1, 1) := by decide +kernel
theorem dX10_ruled_55 : decode cX10_ruled 55 = .ok (.goto 4, 3) := by decide +kernel
theorem dX10_ruled_58 : decode cX10_ruled 58 = .ok (.iconst 0, 1) := by decide +kernel
theorem dX10_ruled_59 : decode cX10_ruled 59 = .ok (.iadd, 1) := by decide +kernel
theorem dX10_ruled_60 : decode cX10_ruled 60 = .ok (.istore_n 3, 1) := by decide +kernel
theorem dX10_ruled_61 : decode cX10_ruled 61 = .ok (.iinc 4 1, 3) := by decide +kernel
theorem dX10_ruled_64 : decode cX10_ruled 64 = .ok (.goto (-37), 3) := by decide +kernel
theorem dX10_ruled_67 : decode cX10_ruled 67 = .ok (.iload_n 3, 1) := by decide +kernel
theorem dX10_ruled_68 : decode cX10_ruled 68 = .ok (.ireturn, 1) := by decide +kernel
theorem dX10_served_0 : decode cX10_served 0 = .ok (.aload_n 0, 1) := by decide +kernel
theorem dX10_served_1 : decode cX10_served 1 = .ok (.iconst 0, 1) := by decide +kernel
theorem dX10_served_2 : decode cX10_served 2 = .ok (.putfield 154, 3) := by decide +kernel
theorem dX10_served_5 : decode cX10_served 5 = .ok (.aload_n 0, 1) := by decide +kernel
theorem dX10_served_6 : decode cX10_served 6 = .ok (.iload_n 1, 1) := by decide +kernel
theorem dX10_served_7 : decode cX10_served 7 = .ok (.invokevirtual 356, 3) := by decide +kernel
theorem dX10_served_10 : decode cX10_served 10 = .ok (.ifCond .ne 5, 3) := by decide +kernel
theorem dX10_served_13 : decode cX10_served 13 = .ok (.iconst (-1), 1) := by decide +kernel
theorem dX10_served_14 : decode cX10_served 14 = .ok (.ireturn, 1) := by decide +kernel
theorem dX10_served_15 : decode cX10_served 15 = .ok (.aload_n 0, 1) := by decide +kernel
theorem dX10_served_16 : decode cX10_served 16 = .ok (.invokevirtual 442, 3) := by decide +kernel
theorem dX10_served_19 : decode cX10_served 19 = .ok (.aload_n 0, 1) := by decide +kernel
theorem dX10_served_20 : decode cX10_served 20 = .ok (.aload_n 0, 1) := by decide +kernel
theorem dX10_served_21 : decode cX10_served 21 = .ok (.invokevirtual 430, 3) := by decide +kernel
theorem dX10_served_24 : decode cX10_served 24 = .ok (.invokevirtual 445, 3) := by decide +kernel
theorem dX10_served_27 : decode cX10_served 27 = .ok (.aload_n 0, 1) := by decide +kernel
theorem dX10_served_28 : decode cX10_served 28 = .ok (.getfield 111, 3) := by decide +kernel
theorem dX10_served_31 : decode cX10_served 31 = .ok (.bipush 8, 2) := by decide +kernel
theorem dX10_served_33 : decode cX10_served 33 = .ok (.iload_n 1, 1) := by decide +kernel
theorem dX10_served_34 : decode cX10_served 34 = .ok (.iadd, 1) := by decide +kernel
theorem dX10_served_35 : decode cX10_served 35 = .ok (.iaload, 1) := by decide +kernel
theorem dX10_served_36 : decode cX10_served 36 = .ok (.ireturn, 1) := by decide +kernel
theorem dX10_coming_0 : decode cX10_coming 0 = .ok (.aload_n 0, 1) := by decide +kernel
theorem dX10_coming_1 : decode cX10_coming 1 = .ok (.iconst 0, 1) := by decide +kernel
theorem dX10_coming_2 : decode cX10_coming 2 = .ok (.putfield 154, 3) := by decide +kernel
theorem dX10_coming_5 : decode cX10_coming 5 = .ok (.aload_n 0, 1) := by decide +kernel
theorem dX10_coming_6 : decode cX10_coming 6 = .ok (.iload_n 1, 1) := by decide +kernel
theorem dX10_coming_7 : decode cX10_coming 7 = .ok (.invokevirtual 433, 3) := by decide +kernel
theorem dX10_coming_10 : decode cX10_coming 10 = .ok (.ifCond .eq 26, 3) := by decide +kernel
theorem dX10_coming_13 : decode cX10_coming 13 = .ok (.iload_n 2, 1) := by decide +kernel
theorem dX10_coming_14 : decode cX10_coming 14 = .ok (.invokestatic 414, 3) := by decide +kernel
theorem dX10_coming_17 : decode cX10_coming 17 = .ok (.ifCond .eq 19, 3) := by decide +kernel
theorem dX10_coming_20 : decode cX10_coming 20 = .ok (.iload_n 3, 1) := by decide +kernel
theorem dX10_coming_21 : decode cX10_coming 21 = .ok (.aload_n 0, 1) := by decide +kernel
theorem dX10_coming_22 : decode cX10_coming 22 = .ok (.getfield 69, 3) := by decide +kernel
theorem dX10_coming_25 : decode cX10_coming 25 = .ok (.iconst 0, 1) := by decide +kernel
theorem dX10_coming_26 : decode cX10_coming 26 = .ok (.iaload, 1) := by decide +kernel
theorem dX10_coming_27 : decode cX10_coming 27 = .ok (.if_icmp .lt 9, 3) := by decide +kernel
theorem dX10_coming_30 : decode cX10_coming 30 = .ok (.iload_n 3, 1) := by decide +kernel
theorem dX10_coming_31 : decode cX10_coming 31 = .ok (.bipush 120, 2) := by decide +kernel
theorem dX10_coming_33 : decode cX10_coming 33 = .ok (.if_icmp .lt 5, 3) := by decide +kernel
theorem dX10_coming_36 : decode cX10_coming 36 = .ok (.iconst (-1), 1) := by decide +kernel
theorem dX10_coming_37 : decode cX10_coming 37 = .ok (.ireturn, 1) := by decide +kernel
theorem dX10_coming_38 : decode cX10_coming 38 = .ok (.aload_n 0, 1) := by decide +kernel
theorem dX10_coming_39 : decode cX10_coming 39 = .ok (.getfield 69, 3) := by decide +kernel
theorem dX10_coming_42 : decode cX10_coming 42 = .ok (.iconst 0, 1) := by decide +kernel
theorem dX10_coming_43 : decode cX10_coming 43 = .ok (.iaload, 1) := by decide +kernel
theorem dX10_coming_44 : decode cX10_coming 44 = .ok (.istore 4, 2) := by decide +kernel
theorem dX10_coming_46 : decode cX10_coming 46 = .ok (.iload 4, 2) := by decide +kernel
theorem dX10_coming_48 : decode cX10_coming 48 = .ok (.iload_n 3, 1) := by decide +kernel
theorem dX10_coming_49 : decode cX10_coming 49 = .ok (.if_icmp .gt 51, 3) := by decide +kernel
theorem dX10_coming_52 : decode cX10_coming 52 = .ok (.aload_n 0, 1) := by decide +kernel
theorem dX10_coming_53 : decode cX10_coming 53 = .ok (.invokevirtual 442, 3) := by decide +kernel
theorem dX10_coming_56 : decode cX10_coming 56 = .ok (.aload_n 0, 1) := by decide +kernel
theorem dX10_coming_57 : decode cX10_coming 57 = .ok (.getfield 99, 3) := by decide +kernel
theorem dX10_coming_60 : decode cX10_coming 60 = .ok (.bipush 8, 2) := by decide +kernel
theorem dX10_coming_62 : decode cX10_coming 62 = .ok (.iload_n 1, 1) := by decide +kernel
theorem dX10_coming_63 : decode cX10_coming 63 = .ok (.iadd, 1) := by decide +kernel
theorem dX10_coming_64 : decode cX10_coming 64 = .ok (.iload 4, 2) := by decide +kernel
theorem dX10_coming_66 : decode cX10_coming 66 = .ok (.iastore, 1) := by decide +kernel
theorem dX10_coming_67 : decode cX10_coming 67 = .ok (.aload_n 0, 1) := by decide +kernel
theorem dX10_coming_68 : decode cX10_coming 68 = .ok (.iload_n 3, 1) := by decide +kernel
theorem dX10_coming_69 : decode cX10_coming 69 = .ok (.iconst 1, 1) := by decide +kernel
theorem dX10_coming_70 : decode cX10_coming 70 = .ok (.iadd, 1) := by decide +kernel
theorem dX10_coming_71 : decode cX10_coming 71 = .ok (.aload_n 0, 1) := by decide +kernel
theorem dX10_coming_72 : decode cX10_coming 72 = .ok (.getfield 69, 3) := by decide +kernel
theorem dX10_coming_75 : decode cX10_coming 75 = .ok (.iconst 0, 1) := by decide +kernel
theorem dX10_coming_76 : decode cX10_coming 76 = .ok (.iaload, 1) := by decide +kernel
theorem dX10_coming_77 : decode cX10_coming 77 = .ok (.isub, 1) := by decide +kernel
theorem dX10_coming_78 : decode cX10_coming 78 = .ok (.invokevirtual 445, 3) := by decide +kernel
theorem dX10_coming_81 : decode cX10_coming 81 = .ok (.aload_n 0, 1) := by decide +kernel
theorem dX10_coming_82 : decode cX10_coming 82 = .ok (.iconst 1, 1) := by decide +kernel
theorem dX10_coming_83 : decode cX10_coming 83 = .ok (.iload_n 2, 1) := by decide +kernel
theorem dX10_coming_84 : decode cX10_coming 84 = .ok (.invokevirtual 417, 3) := by decide +kernel
theorem dX10_coming_87 : decode cX10_coming 87 = .ok (.iload_n 1, 1) := by decide +kernel
theorem dX10_coming_88 : decode cX10_coming 88 = .ok (.if_icmp .ne 6, 3) := by decide +kernel
theorem dX10_coming_91 : decode cX10_coming 91 = .ok (.iload 4, 2) := by decide +kernel
theorem dX10_coming_93 : decode cX10_coming 93 = .ok (.ireturn, 1) := by decide +kernel
theorem dX10_coming_94 : decode cX10_coming 94 = .ok (.iinc 4 1, 3) := by decide +kernel
theorem dX10_coming_97 : decode cX10_coming 97 = .ok (.goto (-51), 3) := by decide +kernel
theorem dX10_coming_100 : decode cX10_coming 100 = .ok (.bipush (-2), 2) := by decide +kernel
theorem dX10_coming_102 : decode cX10_coming 102 = .ok (.ireturn, 1) := by decide +kernel
theorem dX10_bitsOf_0 : decode cX10_bitsOf 0 = .ok (.iconst 0, 1) := by decide +kernel
theorem dX10_bitsOf_1 : decode cX10_bitsOf 1 = .ok (.istore_n 1, 1) := by decide +kernel
theorem dX10_bitsOf_2 : decode cX10_bitsOf 2 = .ok (.iconst 0, 1) := by decide +kernel
theorem dX10_bitsOf_3 : decode cX10_bitsOf 3 = .ok (.istore_n 2, 1) := by decide +kernel
theorem dX10_bitsOf_4 : decode cX10_bitsOf 4 = .ok (.iload_n 2, 1) := by decide +kernel
theorem dX10_bitsOf_5 : decode cX10_bitsOf 5 = .ok (.bipush 8, 2) := by decide +kernel
theorem dX10_bitsOf_7 : decode cX10_bitsOf 7 = .ok (.if_icmp .ge 17, 3) := by decide +kernel
theorem dX10_bitsOf_10 : decode cX10_bitsOf 10 = .ok (.iload_n 1, 1) := by decide +kernel
theorem dX10_bitsOf_11 : decode cX10_bitsOf 11 = .ok (.iload_n 0, 1) := by decide +kernel
theorem dX10_bitsOf_12 : decode cX10_bitsOf 12 = .ok (.iload_n 2, 1) := by decide +kernel
theorem dX10_bitsOf_13 : decode cX10_bitsOf 13 = .ok (.ishr, 1) := by decide +kernel
theorem dX10_bitsOf_14 : decode cX10_bitsOf 14 = .ok (.iconst 1, 1) := by decide +kernel
theorem dX10_bitsOf_15 : decode cX10_bitsOf 15 = .ok (.iand, 1) := by decide +kernel
theorem dX10_bitsOf_16 : decode cX10_bitsOf 16 = .ok (.iadd, 1) := by decide +kernel
theorem dX10_bitsOf_17 : decode cX10_bitsOf 17 = .ok (.istore_n 1, 1) := by decide +kernel
theorem dX10_bitsOf_18 : decode cX10_bitsOf 18 = .ok (.iinc 2 1, 3) := by decide +kernel
theorem dX10_bitsOf_21 : decode cX10_bitsOf 21 = .ok (.goto (-17), 3) := by decide +kernel
theorem dX10_bitsOf_24 : decode cX10_bitsOf 24 = .ok (.iload_n 1, 1) := by decide +kernel
theorem dX10_bitsOf_25 : decode cX10_bitsOf 25 = .ok (.ireturn, 1) := by decide +kernel
theorem dX10_decree_0 : decode cX10_decree 0 = .ok (.aload_n 0, 1) := by decide +kernel
theorem dX10_decree_1 : decode cX10_decree 1 = .ok (.iconst 0, 1) := by decide +kernel
theorem dX10_decree_2 : decode cX10_decree 2 = .ok (.putfield 154, 3) := by decide +kernel
theorem dX10_decree_5 : decode cX10_decree 5 = .ok (.iload_n 1, 1) := by decide +kernel
theorem dX10_decree_6 : decode cX10_decree 6 = .ok (.iconst 1, 1) := by decide +kernel
theorem dX10_decree_7 : decode cX10_decree 7 = .ok (.if_icmp .lt 27, 3) := by decide +kernel
theorem dX10_decree_10 : decode cX10_decree 10 = .ok (.iload_n 1, 1) := by decide +kernel
theorem dX10_decree_11 : decode cX10_decree 11 = .ok (.bipush 8, 2) := by decide +kernel
theorem dX10_decree_13 : decode cX10_decree 13 = .ok (.if_icmp .gt 21, 3) := by decide +kernel
theorem dX10_decree_16 : decode cX10_decree 16 = .ok (.iload_n 2, 1) := by decide +kernel
theorem dX10_decree_17 : decode cX10_decree 17 = .ok (.ifCond .lt 17, 3) := by decide +kernel
theorem dX10_decree_20 : decode cX10_decree 20 = .ok (.iload_n 2, 1) := by decide +kernel
theorem dX10_decree_21 : decode cX10_decree 21 = .ok (.iload_n 1, 1) := by decide +kernel
theorem dX10_decree_22 : decode cX10_decree 22 = .ok (.if_icmp .gt 12, 3) := by decide +kernel
theorem dX10_decree_25 : decode cX10_decree 25 = .ok (.iload_n 3, 1) := by decide +kernel
theorem dX10_decree_26 : decode cX10_decree 26 = .ok (.ifCond .lt 8, 3) := by decide +kernel
theorem dX10_decree_29 : decode cX10_decree 29 = .ok (.iload_n 3, 1) := by decide +kernel
theorem dX10_decree_30 : decode cX10_decree 30 = .ok (.iconst 1, 1) := by decide +kernel
theorem dX10_decree_31 : decode cX10_decree 31 = .ok (.if_icmp .le 5, 3) := by decide +kernel
theorem dX10_decree_34 : decode cX10_decree 34 = .ok (.iconst (-1), 1) := by decide +kernel
theorem dX10_decree_35 : decode cX10_decree 35 = .ok (.ireturn, 1) := by decide +kernel
theorem dX10_decree_36 : decode cX10_decree 36 = .ok (.iconst 0, 1) := by decide +kernel
theorem dX10_decree_37 : decode cX10_decree 37 = .ok (.istore 4, 2) := by decide +kernel
theorem dX10_decree_39 : decode cX10_decree 39 = .ok (.iconst 0, 1) := by decide +kernel
theorem dX10_decree_40 : decode cX10_decree 40 = .ok (.istore 5, 2) := by decide +kernel
theorem dX10_decree_42 : decode cX10_decree 42 = .ok (.iconst 0, 1) := by decide +kernel
theorem dX10_decree_43 : decode cX10_decree 43 = .ok (.istore 6, 2) := by decide +kernel
theorem dX10_decree_45 : decode cX10_decree 45 = .ok (.iload 6, 2) := by decide +kernel
theorem dX10_decree_47 : decode cX10_decree 47 = .ok (.iload_n 1, 1) := by decide +kernel
theorem dX10_decree_48 : decode cX10_decree 48 = .ok (.if_icmp .ge 56, 3) := by decide +kernel
theorem dX10_decree_51 : decode cX10_decree 51 = .ok (.iload 6, 2) := by decide +kernel
theorem dX10_decree_53 : decode cX10_decree 53 = .ok (.aload_n 0, 1) := by decide +kernel
theorem dX10_decree_54 : decode cX10_decree 54 = .ok (.getfield 81, 3) := by decide +kernel
theorem dX10_decree_57 : decode cX10_decree 57 = .ok (.iconst 0, 1) := by decide +kernel
theorem dX10_decree_58 : decode cX10_decree 58 = .ok (.iaload, 1) := by decide +kernel
theorem dX10_decree_59 : decode cX10_decree 59 = .ok (.if_icmp .ge 45, 3) := by decide +kernel
theorem dX10_decree_62 : decode cX10_decree 62 = .ok (.aload_n 0, 1) := by decide +kernel
theorem dX10_decree_63 : decode cX10_decree 63 = .ok (.getfield 40, 3) := by decide +kernel
theorem dX10_decree_66 : decode cX10_decree 66 = .ok (.aload_n 0, 1) := by decide +kernel
theorem dX10_decree_67 : decode cX10_decree 67 = .ok (.getfield 84, 3) := by decide +kernel
theorem dX10_decree_70 : decode cX10_decree 70 = .ok (.iload 6, 2) := by decide +kernel
theorem dX10_decree_72 : decode cX10_decree 72 = .ok (.iaload, 1) := by decide +kernel
theorem dX10_decree_73 : decode cX10_decree 73 = .ok (.iaload, 1) := by decide +kernel
theorem dX10_decree_74 : decode cX10_decree 74 = .ok (.iconst 1, 1) := by decide +kernel
theorem dX10_decree_75 : decode cX10_decree 75 = .ok (.if_icmp .ne 9, 3) := by decide +kernel
theorem dX10_decree_78 : decode cX10_decree 78 = .ok (.iinc 5 1, 3) := by decide +kernel
theorem dX10_decree_81 : decode cX10_decree 81 = .ok (.goto 17, 3) := by decide +kernel
theorem dX10_decree_84 : decode cX10_decree 84 = .ok (.iload 4, 2) := by decide +kernel
theorem dX10_decree_86 : decode cX10_decree 86 = .ok (.iconst 1, 1) := by decide +kernel
theorem dX10_decree_87 : decode cX10_decree 87 = .ok (.aload_n 0, 1) := by decide +kernel
theorem dX10_decree_88 : decode cX10_decree 88 = .ok (.getfield 84, 3) := by decide +kernel
theorem dX10_decree_91 : decode cX10_decree 91 = .ok (.iload 6, 2) := by decide +kernel
theorem dX10_decree_93 : decode cX10_decree 93 = .ok (.iaload, 1) := by decide +kernel
theorem dX10_decree_94 : decode cX10_decree 94 = .ok (.ishl, 1) := by decide +kernel
theorem dX10_decree_95 : decode cX10_decree 95 = .ok (.ior, 1) := by decide +kernel
theorem dX10_decree_96 : decode cX10_decree 96 = .ok (.istore 4, 2) := by decide +kernel
theorem dX10_decree_98 : decode cX10_decree 98 = .ok (.iinc 6 1, 3) := by decide +kernel
theorem dX10_decree_101 : decode cX10_decree 101 = .ok (.goto (-56), 3) := by decide +kernel
theorem dX10_decree_104 : decode cX10_decree 104 = .ok (.iconst (-1), 1) := by decide +kernel
theorem dX10_decree_105 : decode cX10_decree 105 = .ok (.istore 6, 2) := by decide +kernel
theorem dX10_decree_107 : decode cX10_decree 107 = .ok (.iconst 0, 1) := by decide +kernel
theorem dX10_decree_108 : decode cX10_decree 108 = .ok (.istore 7, 2) := by decide +kernel
theorem dX10_decree_110 : decode cX10_decree 110 = .ok (.iconst 0, 1) := by decide +kernel
theorem dX10_decree_111 : decode cX10_decree 111 = .ok (.istore 8, 2) := by decide +kernel
theorem dX10_decree_113 : decode cX10_decree 113 = .ok (.iload 8, 2) := by decide +kernel
theorem dX10_decree_115 : decode cX10_decree 115 = .ok (.sipush 256, 3) := by decide +kernel
theorem dX10_decree_118 : decode cX10_decree 118 = .ok (.if_icmp .ge 108, 3) := by decide +kernel
theorem dX10_decree_121 : decode cX10_decree 121 = .ok (.iload 8, 2) := by decide +kernel
theorem dX10_decree_123 : decode cX10_decree 123 = .ok (.iload 4, 2) := by decide +kernel
theorem dX10_decree_125 : decode cX10_decree 125 = .ok (.iconst (-1), 1) := by decide +kernel
theorem dX10_decree_126 : decode cX10_decree 126 = .ok (.ixor, 1) := by decide +kernel
theorem dX10_decree_127 : decode cX10_decree 127 = .ok (.iand, 1) := by decide +kernel
theorem dX10_decree_128 : decode cX10_decree 128 = .ok (.ifCond .ne 92, 3) := by decide +kernel
theorem dX10_decree_131 : decode cX10_decree 131 = .ok (.iload 5, 2) := by decide +kernel
theorem dX10_decree_133 : decode cX10_decree 133 = .ok (.iload 8, 2) := by decide +kernel
theorem dX10_decree_135 : decode cX10_decree 135 = .ok (.invokestatic 448, 3) := by decide +kernel
theorem dX10_decree_138 : decode cX10_decree 138 = .ok (.iadd, 1) := by decide +kernel
theorem dX10_decree_139 : decode cX10_decree 139 = .ok (.iload_n 2, 1) := by decide +kernel
theorem dX10_decree_140 : decode cX10_decree 140 = .ok (.if_icmp .ge 6, 3) := by decide +kernel
theorem dX10_decree_143 : decode cX10_decree 143 = .ok (.goto 77, 3) := by decide +kernel
theorem dX10_decree_146 : decode cX10_decree 146 = .ok (.iconst 0, 1) := by decide +kernel
theorem dX10_decree_147 : decode cX10_decree 147 = .ok (.istore 9, 2) := by decide +kernel
theorem dX10_decree_149 : decode cX10_decree 149 = .ok (.iconst 0, 1) := by decide +kernel
theorem dX10_decree_150 : decode cX10_decree 150 = .ok (.istore 10, 2) := by decide +kernel
theorem dX10_decree_152 : decode cX10_decree 152 = .ok (.iload 10, 2) := by decide +kernel
theorem dX10_decree_154 : decode cX10_decree 154 = .ok (.aload_n 0, 1) := by decide +kernel
theorem dX10_decree_155 : decode cX10_decree 155 = .ok (.getfield 13, 3) := by decide +kernel
theorem dX10_decree_158 : decode cX10_decree 158 = .ok (.iconst 0, 1) := by decide +kernel
theorem dX10_decree_159 : decode cX10_decree 159 = .ok (.iaload, 1) := by decide +kernel
theorem dX10_decree_160 : decode cX10_decree 160 = .ok (.if_icmp .ge 36, 3) := by decide +kernel
theorem dX10_decree_163 : decode cX10_decree 163 = .ok (.iload 9, 2) := by decide +kernel
theorem dX10_decree_165 : decode cX10_decree 165 = .ok (.iload 8, 2) := by decide +kernel
theorem dX10_decree_167 : decode cX10_decree 167 = .ok (.iload 10, 2) := by decide +kernel
theorem dX10_decree_169 : decode cX10_decree 169 = .ok (.ishr, 1) := by decide +kernel
theorem dX10_decree_170 : decode cX10_decree 170 = .ok (.iconst 1, 1) := by decide +kernel
theorem dX10_decree_171 : decode cX10_decree 171 = .ok (.iand, 1) := by decide +kernel
theorem dX10_decree_172 : decode cX10_decree 172 = .ok (.iconst 1, 1) := by decide +kernel
theorem dX10_decree_173 : decode cX10_decree 173 = .ok (.if_icmp .ne 13, 3) := by decide +kernel
theorem dX10_decree_176 : decode cX10_decree 176 = .ok (.aload_n 0, 1) := by decide +kernel
theorem dX10_decree_177 : decode cX10_decree 177 = .ok (.getfield 34, 3) := by decide +kernel
theorem dX10_decree_180 : decode cX10_decree 180 = .ok (.iload 10, 2) := by decide +kernel
theorem dX10_decree_182 : decode cX10_decree 182 = .ok (.iaload, 1) := by decide +kernel
theorem dX10_decree_183 : decode cX10_decree 183 = .ok (.goto 4, 3) := by decide +kernel
theorem dX10_decree_186 : decode cX10_decree 186 = .ok (.iconst 0, 1) := by decide +kernel
theorem dX10_decree_187 : decode cX10_decree 187 = .ok (.iadd, 1) := by decide +kernel
theorem dX10_decree_188 : decode cX10_decree 188 = .ok (.istore 9, 2) := by decide +kernel
theorem dX10_decree_190 : decode cX10_decree 190 = .ok (.iinc 10 1, 3) := by decide +kernel
theorem dX10_decree_193 : decode cX10_decree 193 = .ok (.goto (-41), 3) := by decide +kernel
theorem dX10_decree_196 : decode cX10_decree 196 = .ok (.iload 6, 2) := by decide +kernel
theorem dX10_decree_198 : decode cX10_decree 198 = .ok (.iconst (-1), 1) := by decide +kernel
theorem dX10_decree_199 : decode cX10_decree 199 = .ok (.if_icmp .eq 13, 3) := by decide +kernel
theorem dX10_decree_202 : decode cX10_decree 202 = .ok (.iload 9, 2) := by decide +kernel
theorem dX10_decree_204 : decode cX10_decree 204 = .ok (.iload 7, 2) := by decide +kernel
theorem dX10_decree_206 : decode cX10_decree 206 = .ok (.if_icmp .lt 6, 3) := by decide +kernel
theorem dX10_decree_209 : decode cX10_decree 209 = .ok (.goto 11, 3) := by decide +kernel
theorem dX10_decree_212 : decode cX10_decree 212 = .ok (.iload 8, 2) := by decide +kernel
theorem dX10_decree_214 : decode cX10_decree 214 = .ok (.istore 6, 2) := by decide +kernel
theorem dX10_decree_216 : decode cX10_decree 216 = .ok (.iload 9, 2) := by decide +kernel
theorem dX10_decree_218 : decode cX10_decree 218 = .ok (.istore 7, 2) := by decide +kernel
theorem dX10_decree_220 : decode cX10_decree 220 = .ok (.iinc 8 1, 3) := by decide +kernel
theorem dX10_decree_223 : decode cX10_decree 223 = .ok (.goto (-110), 3) := by decide +kernel
theorem dX10_decree_226 : decode cX10_decree 226 = .ok (.iload 6, 2) := by decide +kernel
theorem dX10_decree_228 : decode cX10_decree 228 = .ok (.iconst (-1), 1) := by decide +kernel
theorem dX10_decree_229 : decode cX10_decree 229 = .ok (.if_icmp .ne 8, 3) := by decide +kernel
theorem dX10_decree_232 : decode cX10_decree 232 = .ok (.bipush (-2), 2) := by decide +kernel
theorem dX10_decree_234 : decode cX10_decree 234 = .ok (.goto 14, 3) := by decide +kernel
theorem dX10_decree_237 : decode cX10_decree 237 = .ok (.iload_n 3, 1) := by decide +kernel
theorem dX10_decree_238 : decode cX10_decree 238 = .ok (.ifCond .ne 8, 3) := by decide +kernel
theorem dX10_decree_241 : decode cX10_decree 241 = .ok (.iload 7, 2) := by decide +kernel
theorem dX10_decree_243 : decode cX10_decree 243 = .ok (.goto 5, 3) := by decide +kernel
theorem dX10_decree_246 : decode cX10_decree 246 = .ok (.iload 6, 2) := by decide +kernel
theorem dX10_decree_248 : decode cX10_decree 248 = .ok (.ireturn, 1) := by decide +kernel
theorem dX10_coup_0 : decode cX10_coup 0 = .ok (.aload_n 0, 1) := by decide +kernel
theorem dX10_coup_1 : decode cX10_coup 1 = .ok (.iconst 0, 1) := by decide +kernel
theorem dX10_coup_2 : decode cX10_coup 2 = .ok (.putfield 154, 3) := by decide +kernel
theorem dX10_coup_5 : decode cX10_coup 5 = .ok (.aload_n 0, 1) := by decide +kernel
theorem dX10_coup_6 : decode cX10_coup 6 = .ok (.getfield 81, 3) := by decide +kernel
theorem dX10_coup_9 : decode cX10_coup 9 = .ok (.iconst 0, 1) := by decide +kernel
theorem dX10_coup_10 : decode cX10_coup 10 = .ok (.iaload, 1) := by decide +kernel
theorem dX10_coup_11 : decode cX10_coup 11 = .ok (.ifCond .ne 5, 3) := by decide +kernel
theorem dX10_coup_14 : decode cX10_coup 14 = .ok (.iconst (-1), 1) := by decide +kernel
theorem dX10_coup_15 : decode cX10_coup 15 = .ok (.ireturn, 1) := by decide +kernel
theorem dX10_coup_16 : decode cX10_coup 16 = .ok (.aload_n 0, 1) := by decide +kernel
theorem dX10_coup_17 : decode cX10_coup 17 = .ok (.iconst 0, 1) := by decide +kernel
theorem dX10_coup_18 : decode cX10_coup 18 = .ok (.aload_n 0, 1) := by decide +kernel
theorem dX10_coup_19 : decode cX10_coup 19 = .ok (.getfield 69, 3) := by decide +kernel
theorem dX10_coup_22 : decode cX10_coup 22 = .ok (.iconst 0, 1) := by decide +kernel
theorem dX10_coup_23 : decode cX10_coup 23 = .ok (.iaload, 1) := by decide +kernel
theorem dX10_coup_24 : decode cX10_coup 24 = .ok (.invokevirtual 371, 3) := by decide +kernel
theorem dX10_coup_27 : decode cX10_coup 27 = .ok (.istore_n 1, 1) := by decide +kernel
theorem dX10_coup_28 : decode cX10_coup 28 = .ok (.aload_n 0, 1) := by decide +kernel
theorem dX10_coup_29 : decode cX10_coup 29 = .ok (.iconst 0, 1) := by decide +kernel
theorem dX10_coup_30 : decode cX10_coup 30 = .ok (.invokevirtual 374, 3) := by decide +kernel
theorem dX10_coup_33 : decode cX10_coup 33 = .ok (.ifCond .ne 25, 3) := by decide +kernel
theorem dX10_coup_36 : decode cX10_coup 36 = .ok (.iload_n 1, 1) := by decide +kernel
theorem dX10_coup_37 : decode cX10_coup 37 = .ok (.aload_n 0, 1) := by decide +kernel
theorem dX10_coup_38 : decode cX10_coup 38 = .ok (.getfield 13, 3) := by decide +kernel
theorem dX10_coup_41 : decode cX10_coup 41 = .ok (.iconst 4, 1) := by decide +kernel
theorem dX10_coup_42 : decode cX10_coup 42 = .ok (.iaload, 1) := by decide +kernel
theorem dX10_coup_43 : decode cX10_coup 43 = .ok (.if_icmp .gt 15, 3) := by decide +kernel
theorem dX10_coup_46 : decode cX10_coup 46 = .ok (.iload_n 1, 1) := by decide +kernel
theorem dX10_coup_47 : decode cX10_coup 47 = .ok (.aload_n 0, 1) := by decide +kernel
theorem dX10_coup_48 : decode cX10_coup 48 = .ok (.getfield 81, 3) := by decide +kernel
theorem dX10_coup_51 : decode cX10_coup 51 = .ok (.iconst 0, 1) := by decide +kernel
theorem dX10_coup_52 : decode cX10_coup 52 = .ok (.iaload, 1) := by decide +kernel
theorem dX10_coup_53 : decode cX10_coup 53 = .ok (.iconst 1, 1) := by decide +kernel
theorem dX10_coup_54 : decode cX10_coup 54 = .ok (.isub, 1) := by decide +kernel
theorem dX10_coup_55 : decode cX10_coup 55 = .ok (.if_icmp .le 6, 3) := by decide +kernel
theorem dX10_coup_58 : decode cX10_coup 58 = .ok (.bipush (-2), 2) := by decide +kernel
theorem dX10_coup_60 : decode cX10_coup 60 = .ok (.ireturn, 1) := by decide +kernel
theorem dX10_coup_61 : decode cX10_coup 61 = .ok (.iconst 0, 1) := by decide +kernel
theorem dX10_coup_62 : decode cX10_coup 62 = .ok (.istore_n 2, 1) := by decide +kernel
theorem dX10_coup_63 : decode cX10_coup 63 = .ok (.iconst 1, 1) := by decide +kernel
theorem dX10_coup_64 : decode cX10_coup 64 = .ok (.istore_n 3, 1) := by decide +kernel
theorem dX10_coup_65 : decode cX10_coup 65 = .ok (.iload_n 3, 1) := by decide +kernel
theorem dX10_coup_66 : decode cX10_coup 66 = .ok (.iload_n 1, 1) := by decide +kernel
theorem dX10_coup_67 : decode cX10_coup 67 = .ok (.if_icmp .gt 20, 3) := by decide +kernel
theorem dX10_coup_70 : decode cX10_coup 70 = .ok (.iload_n 2, 1) := by decide +kernel
theorem dX10_coup_71 : decode cX10_coup 71 = .ok (.iconst 1, 1) := by decide +kernel
theorem dX10_coup_72 : decode cX10_coup 72 = .ok (.aload_n 0, 1) := by decide +kernel
theorem dX10_coup_73 : decode cX10_coup 73 = .ok (.getfield 84, 3) := by decide +kernel
theorem dX10_coup_76 : decode cX10_coup 76 = .ok (.iload_n 3, 1) := by decide +kernel
theorem dX10_coup_77 : decode cX10_coup 77 = .ok (.iaload, 1) := by decide +kernel
theorem dX10_coup_78 : decode cX10_coup 78 = .ok (.ishl, 1) := by decide +kernel
theorem dX10_coup_79 : decode cX10_coup 79 = .ok (.ior, 1) := by decide +kernel
theorem dX10_coup_80 : decode cX10_coup 80 = .ok (.istore_n 2, 1) := by decide +kernel
theorem dX10_coup_81 : decode cX10_coup 81 = .ok (.iinc 3 1, 3) := by decide +kernel
theorem dX10_coup_84 : decode cX10_coup 84 = .ok (.goto (-19), 3) := by decide +kernel
theorem dX10_coup_87 : decode cX10_coup 87 = .ok (.iload_n 2, 1) := by decide +kernel
theorem dX10_coup_88 : decode cX10_coup 88 = .ok (.ireturn, 1) := by decide +kernel
theorem dX10_endOf_0 : decode cX10_endOf 0 = .ok (.bipush 8, 2) := by decide +kernel
theorem dX10_endOf_2 : decode cX10_endOf 2 = .ok (.iload_n 1, 1) := by decide +kernel
theorem dX10_endOf_3 : decode cX10_endOf 3 = .ok (.iadd, 1) := by decide +kernel
theorem dX10_endOf_4 : decode cX10_endOf 4 = .ok (.istore_n 3, 1) := by decide +kernel
theorem dX10_endOf_5 : decode cX10_endOf 5 = .ok (.aload_n 0, 1) := by decide +kernel
theorem dX10_endOf_6 : decode cX10_endOf 6 = .ok (.getfield 87, 3) := by decide +kernel
theorem dX10_endOf_9 : decode cX10_endOf 9 = .ok (.iload_n 3, 1) := by decide +kernel
theorem dX10_endOf_10 : decode cX10_endOf 10 = .ok (.iaload, 1) := by decide +kernel
theorem dX10_endOf_11 : decode cX10_endOf 11 = .ok (.iconst 2, 1) := by decide +kernel
theorem dX10_endOf_12 : decode cX10_endOf 12 = .ok (.if_icmp .ne 31, 3) := by decide +kernel
theorem dX10_endOf_15 : decode cX10_endOf 15 = .ok (.aload_n 0, 1) := by decide +kernel
theorem dX10_endOf_16 : decode cX10_endOf 16 = .ok (.getfield 111, 3) := by decide +kernel
theorem dX10_endOf_19 : decode cX10_endOf 19 = .ok (.iload_n 3, 1) := by decide +kernel
theorem dX10_endOf_20 : decode cX10_endOf 20 = .ok (.iaload, 1) := by decide +kernel
theorem dX10_endOf_21 : decode cX10_endOf 21 = .ok (.aload_n 0, 1) := by decide +kernel
theorem dX10_endOf_22 : decode cX10_endOf 22 = .ok (.getfield 69, 3) := by decide +kernel
theorem dX10_endOf_25 : decode cX10_endOf 25 = .ok (.iconst 0, 1) := by decide +kernel
theorem dX10_endOf_26 : decode cX10_endOf 26 = .ok (.iaload, 1) := by decide +kernel
theorem dX10_endOf_27 : decode cX10_endOf 27 = .ok (.iload_n 2, 1) := by decide +kernel
theorem dX10_endOf_28 : decode cX10_endOf 28 = .ok (.iadd, 1) := by decide +kernel
theorem dX10_endOf_29 : decode cX10_endOf 29 = .ok (.if_icmp .ge 14, 3) := by decide +kernel
theorem dX10_endOf_32 : decode cX10_endOf 32 = .ok (.sipush 1000, 3) := by decide +kernel
theorem dX10_endOf_35 : decode cX10_endOf 35 = .ok (.aload_n 0, 1) := by decide +kernel
theorem dX10_endOf_36 : decode cX10_endOf 36 = .ok (.getfield 111, 3) := by decide +kernel
theorem dX10_endOf_39 : decode cX10_endOf 39 = .ok (.iload_n 3, 1) := by decide +kernel
theorem dX10_endOf_40 : decode cX10_endOf 40 = .ok (.iaload, 1) := by decide +kernel
theorem dX10_endOf_41 : decode cX10_endOf 41 = .ok (.isub, 1) := by decide +kernel
theorem dX10_endOf_42 : decode cX10_endOf 42 = .ok (.ireturn, 1) := by decide +kernel
theorem dX10_endOf_43 : decode cX10_endOf 43 = .ok (.aload_n 0, 1) := by decide +kernel
theorem dX10_endOf_44 : decode cX10_endOf 44 = .ok (.iconst 1, 1) := by decide +kernel
theorem dX10_endOf_45 : decode cX10_endOf 45 = .ok (.iload_n 1, 1) := by decide +kernel
theorem dX10_endOf_46 : decode cX10_endOf 46 = .ok (.invokevirtual 411, 3) := by decide +kernel
theorem dX10_endOf_49 : decode cX10_endOf 49 = .ok (.istore 4, 2) := by decide +kernel
theorem dX10_endOf_51 : decode cX10_endOf 51 = .ok (.iload 4, 2) := by decide +kernel
theorem dX10_endOf_53 : decode cX10_endOf 53 = .ok (.iconst (-1), 1) := by decide +kernel
theorem dX10_endOf_54 : decode cX10_endOf 54 = .ok (.if_icmp .ne 7, 3) := by decide +kernel
theorem dX10_endOf_57 : decode cX10_endOf 57 = .ok (.iconst 0, 1) := by decide +kernel
theorem dX10_endOf_58 : decode cX10_endOf 58 = .ok (.goto 8, 3) := by decide +kernel
theorem dX10_endOf_61 : decode cX10_endOf 61 = .ok (.bipush 100, 2) := by decide +kernel
theorem dX10_endOf_63 : decode cX10_endOf 63 = .ok (.iload 4, 2) := by decide +kernel
theorem dX10_endOf_65 : decode cX10_endOf 65 = .ok (.isub, 1) := by decide +kernel
theorem dX10_endOf_66 : decode cX10_endOf 66 = .ok (.ireturn, 1) := by decide +kernel
theorem dX10_layGame_0 : decode cX10_layGame 0 = .ok (.aload_n 0, 1) := by decide +kernel
theorem dX10_layGame_1 : decode cX10_layGame 1 = .ok (.iconst 4, 1) := by decide +kernel
theorem dX10_layGame_2 : decode cX10_layGame 2 = .ok (.bipush 60, 2) := by decide +kernel
theorem dX10_layGame_4 : decode cX10_layGame 4 = .ok (.aload_n 0, 1) := by decide +kernel
theorem dX10_layGame_5 : decode cX10_layGame 5 = .ok (.getfield 69, 3) := by decide +kernel
theorem dX10_layGame_8 : decode cX10_layGame 8 = .ok (.iconst 0, 1) := by decide +kernel
theorem dX10_layGame_9 : decode cX10_layGame 9 = .ok (.iaload, 1) := by decide +kernel
theorem dX10_layGame_10 : decode cX10_layGame 10 = .ok (.isub, 1) := by decide +kernel
theorem dX10_layGame_11 : decode cX10_layGame 11 = .ok (.invokestatic 380, 3) := by decide +kernel
theorem dX10_layGame_14 : decode cX10_layGame 14 = .ok (.putfield 451, 3) := by decide +kernel
theorem dX10_layGame_17 : decode cX10_layGame 17 = .ok (.iconst 0, 1) := by decide +kernel
theorem dX10_layGame_18 : decode cX10_layGame 18 = .ok (.istore 4, 2) := by decide +kernel
theorem dX10_layGame_20 : decode cX10_layGame 20 = .ok (.iload 4, 2) := by decide +kernel
theorem dX10_layGame_22 : decode cX10_layGame 22 = .ok (.aload_n 0, 1) := by decide +kernel
theorem dX10_layGame_23 : decode cX10_layGame 23 = .ok (.getfield 451, 3) := by decide +kernel
theorem dX10_layGame_26 : decode cX10_layGame 26 = .ok (.if_icmp .ge 108, 3) := by decide +kernel
theorem dX10_layGame_29 : decode cX10_layGame 29 = .ok (.iconst 0, 1) := by decide +kernel
theorem dX10_layGame_30 : decode cX10_layGame 30 = .ok (.istore 5, 2) := by decide +kernel
theorem dX10_layGame_32 : decode cX10_layGame 32 = .ok (.iload 5, 2) := by decide +kernel
theorem dX10_layGame_34 : decode cX10_layGame 34 = .ok (.aload_n 0, 1) := by decide +kernel
theorem dX10_layGame_35 : decode cX10_layGame 35 = .ok (.getfield 451, 3) := by decide +kernel
theorem dX10_layGame_38 : decode cX10_layGame 38 = .ok (.if_icmp .ge 90, 3) := by decide +kernel
theorem dX10_layGame_41 : decode cX10_layGame 41 = .ok (.aload_n 0, 1) := by decide +kernel
theorem dX10_layGame_42 : decode cX10_layGame 42 = .ok (.invokevirtual 442, 3) := by decide +kernel
theorem dX10_layGame_45 : decode cX10_layGame 45 = .ok (.aload_n 0, 1) := by decide +kernel
theorem dX10_layGame_46 : decode cX10_layGame 46 = .ok (.getfield 99, 3) := by decide +kernel
theorem dX10_layGame_49 : decode cX10_layGame 49 = .ok (.bipush 8, 2) := by decide +kernel
theorem dX10_layGame_51 : decode cX10_layGame 51 = .ok (.iload_n 1, 1) := by decide +kernel
theorem dX10_layGame_52 : decode cX10_layGame 52 = .ok (.iadd, 1) := by decide +kernel
theorem dX10_layGame_53 : decode cX10_layGame 53 = .ok (.aload_n 0, 1) := by decide +kernel
theorem dX10_layGame_54 : decode cX10_layGame 54 = .ok (.getfield 69, 3) := by decide +kernel
theorem dX10_layGame_57 : decode cX10_layGame 57 = .ok (.iconst 0, 1) := by decide +kernel
theorem dX10_layGame_58 : decode cX10_layGame 58 = .ok (.iaload, 1) := by decide +kernel
theorem dX10_layGame_59 : decode cX10_layGame 59 = .ok (.iload 4, 2) := by decide +kernel
theorem dX10_layGame_61 : decode cX10_layGame 61 = .ok (.iadd, 1) := by decide +kernel
theorem dX10_layGame_62 : decode cX10_layGame 62 = .ok (.iastore, 1) := by decide +kernel
theorem dX10_layGame_63 : decode cX10_layGame 63 = .ok (.aload_n 0, 1) := by decide +kernel
theorem dX10_layGame_64 : decode cX10_layGame 64 = .ok (.getfield 99, 3) := by decide +kernel
theorem dX10_layGame_67 : decode cX10_layGame 67 = .ok (.bipush 8, 2) := by decide +kernel
theorem dX10_layGame_69 : decode cX10_layGame 69 = .ok (.iload_n 2, 1) := by decide +kernel
theorem dX10_layGame_70 : decode cX10_layGame 70 = .ok (.iadd, 1) := by decide +kernel
theorem dX10_layGame_71 : decode cX10_layGame 71 = .ok (.aload_n 0, 1) := by decide +kernel
theorem dX10_layGame_72 : decode cX10_layGame 72 = .ok (.getfield 69, 3) := by decide +kernel
theorem dX10_layGame_75 : decode cX10_layGame 75 = .ok (.iconst 0, 1) := by decide +kernel
theorem dX10_layGame_76 : decode cX10_layGame 76 = .ok (.iaload, 1) := by decide +kernel
theorem dX10_layGame_77 : decode cX10_layGame 77 = .ok (.iload 5, 2) := by decide +kernel
theorem dX10_layGame_79 : decode cX10_layGame 79 = .ok (.iadd, 1) := by decide +kernel
theorem dX10_layGame_80 : decode cX10_layGame 80 = .ok (.iastore, 1) := by decide +kernel
theorem dX10_layGame_81 : decode cX10_layGame 81 = .ok (.aload_n 0, 1) := by decide +kernel
theorem dX10_layGame_82 : decode cX10_layGame 82 = .ok (.iload_n 3, 1) := by decide +kernel
theorem dX10_layGame_83 : decode cX10_layGame 83 = .ok (.invokevirtual 445, 3) := by decide +kernel
theorem dX10_layGame_86 : decode cX10_layGame 86 = .ok (.aload_n 0, 1) := by decide +kernel
theorem dX10_layGame_87 : decode cX10_layGame 87 = .ok (.getfield 123, 3) := by decide +kernel
theorem dX10_layGame_90 : decode cX10_layGame 90 = .ok (.iconst 4, 1) := by decide +kernel
theorem dX10_layGame_91 : decode cX10_layGame 91 = .ok (.iload 4, 2) := by decide +kernel
theorem dX10_layGame_93 : decode cX10_layGame 93 = .ok (.imul, 1) := by decide +kernel
theorem dX10_layGame_94 : decode cX10_layGame 94 = .ok (.iload 5, 2) := by decide +kernel
theorem dX10_layGame_96 : decode cX10_layGame 96 = .ok (.iadd, 1) := by decide +kernel
theorem dX10_layGame_97 : decode cX10_layGame 97 = .ok (.aload_n 0, 1) := by decide +kernel
theorem dX10_layGame_98 : decode cX10_layGame 98 = .ok (.iload_n 1, 1) := by decide +kernel
theorem dX10_layGame_99 : decode cX10_layGame 99 = .ok (.iload_n 3, 1) := by decide +kernel
theorem dX10_layGame_100 : decode cX10_layGame 100 = .ok (.invokevirtual 454, 3) := by decide +kernel
theorem dX10_layGame_103 : decode cX10_layGame 103 = .ok (.iastore, 1) := by decide +kernel
theorem dX10_layGame_104 : decode cX10_layGame 104 = .ok (.aload_n 0, 1) := by decide +kernel
theorem dX10_layGame_105 : decode cX10_layGame 105 = .ok (.getfield 126, 3) := by decide +kernel
theorem dX10_layGame_108 : decode cX10_layGame 108 = .ok (.iconst 4, 1) := by decide +kernel
theorem dX10_layGame_109 : decode cX10_layGame 109 = .ok (.iload 4, 2) := by decide +kernel
theorem dX10_layGame_111 : decode cX10_layGame 111 = .ok (.imul, 1) := by decide +kernel
theorem dX10_layGame_112 : decode cX10_layGame 112 = .ok (.iload 5, 2) := by decide +kernel
theorem dX10_layGame_114 : decode cX10_layGame 114 = .ok (.iadd, 1) := by decide +kernel
theorem dX10_layGame_115 : decode cX10_layGame 115 = .ok (.aload_n 0, 1) := by decide +kernel
theorem dX10_layGame_116 : decode cX10_layGame 116 = .ok (.iload_n 2, 1) := by decide +kernel
theorem dX10_layGame_117 : decode cX10_layGame 117 = .ok (.iload_n 3, 1) := by decide +kernel
theorem dX10_layGame_118 : decode cX10_layGame 118 = .ok (.invokevirtual 454, 3) := by decide +kernel
theorem dX10_layGame_121 : decode cX10_layGame 121 = .ok (.iastore, 1) := by decide +kernel
theorem dX10_layGame_122 : decode cX10_layGame 122 = .ok (.iinc 5 1, 3) := by decide +kernel
theorem dX10_layGame_125 : decode cX10_layGame 125 = .ok (.goto (-93), 3) := by decide +kernel
theorem dX10_layGame_128 : decode cX10_layGame 128 = .ok (.iinc 4 1, 3) := by decide +kernel
theorem dX10_layGame_131 : decode cX10_layGame 131 = .ok (.goto (-111), 3) := by decide +kernel
theorem dX10_layGame_134 : decode cX10_layGame 134 = .ok (.return_, 1) := by decide +kernel
theorem dX10_isRest_0 : decode cX10_isRest 0 = .ok (.iconst 0, 1) := by decide +kernel
theorem dX10_isRest_1 : decode cX10_isRest 1 = .ok (.istore_n 3, 1) := by decide +kernel
theorem dX10_isRest_2 : decode cX10_isRest 2 = .ok (.iload_n 3, 1) := by decide +kernel
theorem dX10_isRest_3 : decode cX10_isRest 3 = .ok (.aload_n 0, 1) := by decide +kernel
theorem dX10_isRest_4 : decode cX10_isRest 4 = .ok (.getfield 451, 3) := by decide +kernel
theorem dX10_isRest_7 : decode cX10_isRest 7 = .ok (.if_icmp .ge 57, 3) := by decide +kernel
theorem dX10_isRest_10 : decode cX10_isRest 10 = .ok (.aload_n 0, 1) := by decide +kernel
theorem dX10_isRest_11 : decode cX10_isRest 11 = .ok (.getfield 123, 3) := by decide +kernel
theorem dX10_isRest_14 : decode cX10_isRest 14 = .ok (.iconst 4, 1) := by decide +kernel
theorem dX10_isRest_15 : decode cX10_isRest 15 = .ok (.iload_n 3, 1) := by decide +kernel
theorem dX10_isRest_16 : decode cX10_isRest 16 = .ok (.imul, 1) := by decide +kernel
theorem dX10_isRest_17 : decode cX10_isRest 17 = .ok (.iload_n 2, 1) := by decide +kernel
theorem dX10_isRest_18 : decode cX10_isRest 18 = .ok (.iadd, 1) := by decide +kernel
theorem dX10_isRest_19 : decode cX10_isRest 19 = .ok (.iaload, 1) := by decide +kernel
theorem dX10_isRest_20 : decode cX10_isRest 20 = .ok (.aload_n 0, 1) := by decide +kernel
theorem dX10_isRest_21 : decode cX10_isRest 21 = .ok (.getfield 123, 3) := by decide +kernel
theorem dX10_isRest_24 : decode cX10_isRest 24 = .ok (.iconst 4, 1) := by decide +kernel
theorem dX10_isRest_25 : decode cX10_isRest 25 = .ok (.iload_n 1, 1) := by decide +kernel
theorem dX10_isRest_26 : decode cX10_isRest 26 = .ok (.imul, 1) := by decide +kernel
theorem dX10_isRest_27 : decode cX10_isRest 27 = .ok (.iload_n 2, 1) := by decide +kernel
theorem dX10_isRest_28 : decode cX10_isRest 28 = .ok (.iadd, 1) := by decide +kernel
theorem dX10_isRest_29 : decode cX10_isRest 29 = .ok (.iaload, 1) := by decide +kernel
theorem dX10_isRest_30 : decode cX10_isRest 30 = .ok (.if_icmp .gt 26, 3) := by decide +kernel
theorem dX10_isRest_33 : decode cX10_isRest 33 = .ok (.aload_n 0, 1) := by decide +kernel
theorem dX10_isRest_34 : decode cX10_isRest 34 = .ok (.getfield 126, 3) := by decide +kernel
theorem dX10_isRest_37 : decode cX10_isRest 37 = .ok (.iconst 4, 1) := by decide +kernel
theorem dX10_isRest_38 : decode cX10_isRest 38 = .ok (.iload_n 1, 1) := by decide +kernel
theorem dX10_isRest_39 : decode cX10_isRest 39 = .ok (.imul, 1) := by decide +kernel
theorem dX10_isRest_40 : decode cX10_isRest 40 = .ok (.iload_n 3, 1) := by decide +kernel
theorem dX10_isRest_41 : decode cX10_isRest 41 = .ok (.iadd, 1) := by decide +kernel
theorem dX10_isRest_42 : decode cX10_isRest 42 = .ok (.iaload, 1) := by decide +kernel
theorem dX10_isRest_43 : decode cX10_isRest 43 = .ok (.aload_n 0, 1) := by decide +kernel
theorem dX10_isRest_44 : decode cX10_isRest 44 = .ok (.getfield 126, 3) := by decide +kernel
theorem dX10_isRest_47 : decode cX10_isRest 47 = .ok (.iconst 4, 1) := by decide +kernel
theorem dX10_isRest_48 : decode cX10_isRest 48 = .ok (.iload_n 1, 1) := by decide +kernel
theorem dX10_isRest_49 : decode cX10_isRest 49 = .ok (.imul, 1) := by decide +kernel
theorem dX10_isRest_50 : decode cX10_isRest 50 = .ok (.iload_n 2, 1) := by decide +kernel
theorem dX10_isRest_51 : decode cX10_isRest 51 = .ok (.iadd, 1) := by decide +kernel
theorem dX10_isRest_52 : decode cX10_isRest 52 = .ok (.iaload, 1) := by decide +kernel
theorem dX10_isRest_53 : decode cX10_isRest 53 = .ok (.if_icmp .le 5, 3) := by decide +kernel
theorem dX10_isRest_56 : decode cX10_isRest 56 = .ok (.iconst 0, 1) := by decide +kernel
theorem dX10_isRest_57 : decode cX10_isRest 57 = .ok (.ireturn, 1) := by decide +kernel
theorem dX10_isRest_58 : decode cX10_isRest 58 = .ok (.iinc 3 1, 3) := by decide +kernel
theorem dX10_isRest_61 : decode cX10_isRest 61 = .ok (.goto (-59), 3) := by decide +kernel
theorem dX10_isRest_64 : decode cX10_isRest 64 = .ok (.iconst 1, 1) := by decide +kernel
theorem dX10_isRest_65 : decode cX10_isRest 65 = .ok (.ireturn, 1) := by decide +kernel
theorem dX10_restOf_0 : decode cX10_restOf 0 = .ok (.iconst 0, 1) := by decide +kernel
theorem dX10_restOf_1 : decode cX10_restOf 1 = .ok (.istore_n 2, 1) := by decide +kernel
theorem dX10_restOf_2 : decode cX10_restOf 2 = .ok (.iconst 0, 1) := by decide +kernel
theorem dX10_restOf_3 : decode cX10_restOf 3 = .ok (.istore_n 3, 1) := by decide +kernel
theorem dX10_restOf_4 : decode cX10_restOf 4 = .ok (.iload_n 3, 1) := by decide +kernel
theorem dX10_restOf_5 : decode cX10_restOf 5 = .ok (.aload_n 0, 1) := by decide +kernel
theorem dX10_restOf_6 : decode cX10_restOf 6 = .ok (.getfield 451, 3) := by decide +kernel
theorem dX10_restOf_9 : decode cX10_restOf 9 = .ok (.if_icmp .ge 70, 3) := by decide +kernel
theorem dX10_restOf_12 : decode cX10_restOf 12 = .ok (.iconst 0, 1) := by decide +kernel
theorem dX10_restOf_13 : decode cX10_restOf 13 = .ok (.istore 4, 2) := by decide +kernel
theorem dX10_restOf_15 : decode cX10_restOf 15 = .ok (.iload 4, 2) := by decide +kernel
theorem dX10_restOf_17 : decode cX10_restOf 17 = .ok (.aload_n 0, 1) := by decide +kernel
theorem dX10_restOf_18 : decode cX10_restOf 18 = .ok (.getfield 451, 3) := by decide +kernel
theorem dX10_restOf_21 : decode cX10_restOf 21 = .ok (.if_icmp .ge 52, 3) := by decide +kernel
theorem dX10_restOf_24 : decode cX10_restOf 24 = .ok (.aload_n 0, 1) := by decide +kernel
theorem dX10_restOf_25 : decode cX10_restOf 25 = .ok (.iload_n 3, 1) := by decide +kernel
theorem dX10_restOf_26 : decode cX10_restOf 26 = .ok (.iload 4, 2) := by decide +kernel
theorem dX10_restOf_28 : decode cX10_restOf 28 = .ok (.invokevirtual 457, 3) := by decide +kernel
theorem dX10_restOf_31 : decode cX10_restOf 31 = .ok (.ifCond .ne 6, 3) := by decide +kernel
theorem dX10_restOf_34 : decode cX10_restOf 34 = .ok (.goto 33, 3) := by decide +kernel
theorem dX10_restOf_37 : decode cX10_restOf 37 = .ok (.iload_n 2, 1) := by decide +kernel
theorem dX10_restOf_38 : decode cX10_restOf 38 = .ok (.iload_n 1, 1) := by decide +kernel
theorem dX10_restOf_39 : decode cX10_restOf 39 = .ok (.if_icmp .ne 25, 3) := by decide +kernel
theorem dX10_restOf_42 : decode cX10_restOf 42 = .ok (.bipush 100, 2) := by decide +kernel
theorem dX10_restOf_44 : decode cX10_restOf 44 = .ok (.aload_n 0, 1) := by decide +kernel
theorem dX10_restOf_45 : decode cX10_restOf 45 = .ok (.getfield 69, 3) := by decide +kernel
theorem dX10_restOf_48 : decode cX10_restOf 48 = .ok (.iconst 0, 1) := by decide +kernel
theorem dX10_restOf_49 : decode cX10_restOf 49 = .ok (.iaload, 1) := by decide +kernel
theorem dX10_restOf_50 : decode cX10_restOf 50 = .ok (.iload_n 3, 1) := by decide +kernel
theorem dX10_restOf_51 : decode cX10_restOf 51 = .ok (.iadd, 1) := by decide +kernel
theorem dX10_restOf_52 : decode cX10_restOf 52 = .ok (.imul, 1) := by decide +kernel
theorem dX10_restOf_53 : decode cX10_restOf 53 = .ok (.aload_n 0, 1) := by decide +kernel
theorem dX10_restOf_54 : decode cX10_restOf 54 = .ok (.getfield 69, 3) := by decide +kernel
theorem dX10_restOf_57 : decode cX10_restOf 57 = .ok (.iconst 0, 1) := by decide +kernel
theorem dX10_restOf_58 : decode cX10_restOf 58 = .ok (.iaload, 1) := by decide +kernel
theorem dX10_restOf_59 : decode cX10_restOf 59 = .ok (.iadd, 1) := by decide +kernel
theorem dX10_restOf_60 : decode cX10_restOf 60 = .ok (.iload 4, 2) := by decide +kernel
theorem dX10_restOf_62 : decode cX10_restOf 62 = .ok (.iadd, 1) := by decide +kernel
theorem dX10_restOf_63 : decode cX10_restOf 63 = .ok (.ireturn, 1) := by decide +kernel
theorem dX10_restOf_64 : decode cX10_restOf 64 = .ok (.iinc 2 1, 3) := by decide +kernel
theorem dX10_restOf_67 : decode cX10_restOf 67 = .ok (.iinc 4 1, 3) := by decide +kernel
theorem dX10_restOf_70 : decode cX10_restOf 70 = .ok (.goto (-55), 3) := by decide +kernel
theorem dX10_restOf_73 : decode cX10_restOf 73 = .ok (.iinc 3 1, 3) := by decide +kernel
theorem dX10_restOf_76 : decode cX10_restOf 76 = .ok (.goto (-72), 3) := by decide +kernel
theorem dX10_restOf_79 : decode cX10_restOf 79 = .ok (.iload_n 1, 1) := by decide +kernel
theorem dX10_restOf_80 : decode cX10_restOf 80 = .ok (.iconst (-1), 1) := by decide +kernel
theorem dX10_restOf_81 : decode cX10_restOf 81 = .ok (.if_icmp .ne 7, 3) := by decide +kernel
theorem dX10_restOf_84 : decode cX10_restOf 84 = .ok (.iload_n 2, 1) := by decide +kernel
theorem dX10_restOf_85 : decode cX10_restOf 85 = .ok (.goto 5, 3) := by decide +kernel
theorem dX10_restOf_88 : decode cX10_restOf 88 = .ok (.bipush (-2), 2) := by decide +kernel
theorem dX10_restOf_90 : decode cX10_restOf 90 = .ok (.ireturn, 1) := by decide +kernel
theorem dX10_isLong_0 : decode cX10_isLong 0 = .ok (.iload_n 1, 1) := by decide +kernel
theorem dX10_isLong_1 : decode cX10_isLong 1 = .ok (.iconst 1, 1) := by decide +kernel
theorem dX10_isLong_2 : decode cX10_isLong 2 = .ok (.if_icmp .lt 21, 3) := by decide +kernel
theorem dX10_isLong_5 : decode cX10_isLong 5 = .ok (.iload_n 1, 1) := by decide +kernel
theorem dX10_isLong_6 : decode cX10_isLong 6 = .ok (.bipush 60, 2) := by decide +kernel
theorem dX10_isLong_8 : decode cX10_isLong 8 = .ok (.if_icmp .gt 15, 3) := by decide +kernel
theorem dX10_isLong_11 : decode cX10_isLong 11 = .ok (.iload_n 1, 1) := by decide +kernel
theorem dX10_isLong_12 : decode cX10_isLong 12 = .ok (.aload_n 0, 1) := by decide +kernel
theorem dX10_isLong_13 : decode cX10_isLong 13 = .ok (.invokevirtual 430, 3) := by decide +kernel
theorem dX10_isLong_16 : decode cX10_isLong 16 = .ok (.if_icmp .gt 7, 3) := by decide +kernel
theorem dX10_isLong_19 : decode cX10_isLong 19 = .ok (.iconst 1, 1) := by decide +kernel
theorem dX10_isLong_20 : decode cX10_isLong 20 = .ok (.goto 4, 3) := by decide +kernel
theorem dX10_isLong_23 : decode cX10_isLong 23 = .ok (.iconst 0, 1) := by decide +kernel
theorem dX10_isLong_24 : decode cX10_isLong 24 = .ok (.ireturn, 1) := by decide +kernel
theorem dX10_isGame_0 : decode cX10_isGame 0 = .ok (.aload_n 0, 1) := by decide +kernel
theorem dX10_isGame_1 : decode cX10_isGame 1 = .ok (.iload_n 1, 1) := by decide +kernel
theorem dX10_isGame_2 : decode cX10_isGame 2 = .ok (.invokevirtual 433, 3) := by decide +kernel
theorem dX10_isGame_5 : decode cX10_isGame 5 = .ok (.ifCond .eq 39, 3) := by decide +kernel
theorem dX10_isGame_8 : decode cX10_isGame 8 = .ok (.aload_n 0, 1) := by decide +kernel
theorem dX10_isGame_9 : decode cX10_isGame 9 = .ok (.iload_n 2, 1) := by decide +kernel
theorem dX10_isGame_10 : decode cX10_isGame 10 = .ok (.invokevirtual 433, 3) := by decide +kernel
theorem dX10_isGame_13 : decode cX10_isGame 13 = .ok (.ifCond .eq 31, 3) := by decide +kernel
theorem dX10_isGame_16 : decode cX10_isGame 16 = .ok (.iload_n 1, 1) := by decide +kernel
theorem dX10_isGame_17 : decode cX10_isGame 17 = .ok (.iload_n 2, 1) := by decide +kernel
theorem dX10_isGame_18 : decode cX10_isGame 18 = .ok (.if_icmp .eq 26, 3) := by decide +kernel
theorem dX10_isGame_21 : decode cX10_isGame 21 = .ok (.aload_n 0, 1) := by decide +kernel
theorem dX10_isGame_22 : decode cX10_isGame 22 = .ok (.getfield 69, 3) := by decide +kernel
theorem dX10_isGame_25 : decode cX10_isGame 25 = .ok (.iconst 0, 1) := by decide +kernel
theorem dX10_isGame_26 : decode cX10_isGame 26 = .ok (.iaload, 1) := by decide +kernel
theorem dX10_isGame_27 : decode cX10_isGame 27 = .ok (.bipush 59, 2) := by decide +kernel
theorem dX10_isGame_29 : decode cX10_isGame 29 = .ok (.if_icmp .gt 15, 3) := by decide +kernel
theorem dX10_isGame_32 : decode cX10_isGame 32 = .ok (.aload_n 0, 1) := by decide +kernel
theorem dX10_isGame_33 : decode cX10_isGame 33 = .ok (.iload_n 3, 1) := by decide +kernel
theorem dX10_isGame_34 : decode cX10_isGame 34 = .ok (.invokevirtual 461, 3) := by decide +kernel
theorem dX10_isGame_37 : decode cX10_isGame 37 = .ok (.ifCond .eq 7, 3) := by decide +kernel
theorem dX10_isGame_40 : decode cX10_isGame 40 = .ok (.iconst 1, 1) := by decide +kernel
theorem dX10_isGame_41 : decode cX10_isGame 41 = .ok (.goto 4, 3) := by decide +kernel
theorem dX10_isGame_44 : decode cX10_isGame 44 = .ok (.iconst 0, 1) := by decide +kernel
theorem dX10_isGame_45 : decode cX10_isGame 45 = .ok (.ireturn, 1) := by decide +kernel
theorem dX10_rests_0 : decode cX10_rests 0 = .ok (.aload_n 0, 1) := by decide +kernel
theorem dX10_rests_1 : decode cX10_rests 1 = .ok (.iconst 0, 1) := by decide +kernel
theorem dX10_rests_2 : decode cX10_rests 2 = .ok (.putfield 154, 3) := by decide +kernel
theorem dX10_rests_5 : decode cX10_rests 5 = .ok (.aload_n 0, 1) := by decide +kernel
theorem dX10_rests_6 : decode cX10_rests 6 = .ok (.iload_n 1, 1) := by decide +kernel
theorem dX10_rests_7 : decode cX10_rests 7 = .ok (.iload_n 2, 1) := by decide +kernel
theorem dX10_rests_8 : decode cX10_rests 8 = .ok (.iload_n 3, 1) := by decide +kernel
theorem dX10_rests_9 : decode cX10_rests 9 = .ok (.invokevirtual 464, 3) := by decide +kernel
theorem dX10_rests_12 : decode cX10_rests 12 = .ok (.ifCond .ne 5, 3) := by decide +kernel
theorem dX10_rests_15 : decode cX10_rests 15 = .ok (.iconst (-1), 1) := by decide +kernel
theorem dX10_rests_16 : decode cX10_rests 16 = .ok (.ireturn, 1) := by decide +kernel
theorem dX10_rests_17 : decode cX10_rests 17 = .ok (.aload_n 0, 1) := by decide +kernel
theorem dX10_rests_18 : decode cX10_rests 18 = .ok (.iload_n 1, 1) := by decide +kernel
theorem dX10_rests_19 : decode cX10_rests 19 = .ok (.iload_n 2, 1) := by decide +kernel
theorem dX10_rests_20 : decode cX10_rests 20 = .ok (.iload_n 3, 1) := by decide +kernel
theorem dX10_rests_21 : decode cX10_rests 21 = .ok (.invokevirtual 468, 3) := by decide +kernel
theorem dX10_rests_24 : decode cX10_rests 24 = .ok (.aload_n 0, 1) := by decide +kernel
theorem dX10_rests_25 : decode cX10_rests 25 = .ok (.iconst (-1), 1) := by decide +kernel
theorem dX10_rests_26 : decode cX10_rests 26 = .ok (.invokevirtual 471, 3) := by decide +kernel
theorem dX10_rests_29 : decode cX10_rests 29 = .ok (.ireturn, 1) := by decide +kernel
theorem dX10_rest_0 : decode cX10_rest 0 = .ok (.aload_n 0, 1) := by decide +kernel
theorem dX10_rest_1 : decode cX10_rest 1 = .ok (.iconst 0, 1) := by decide +kernel
theorem dX10_rest_2 : decode cX10_rest 2 = .ok (.putfield 154, 3) := by decide +kernel
theorem dX10_rest_5 : decode cX10_rest 5 = .ok (.aload_n 0, 1) := by decide +kernel
theorem dX10_rest_6 : decode cX10_rest 6 = .ok (.iload_n 1, 1) := by decide +kernel
theorem dX10_rest_7 : decode cX10_rest 7 = .ok (.iload_n 2, 1) := by decide +kernel
theorem dX10_rest_8 : decode cX10_rest 8 = .ok (.iload_n 3, 1) := by decide +kernel
theorem dX10_rest_9 : decode cX10_rest 9 = .ok (.invokevirtual 464, 3) := by decide +kernel
theorem dX10_rest_12 : decode cX10_rest 12 = .ok (.ifCond .eq 8, 3) := by decide +kernel
theorem dX10_rest_15 : decode cX10_rest 15 = .ok (.iload 4, 2) := by decide +kernel
theorem dX10_rest_17 : decode cX10_rest 17 = .ok (.ifCond .ge 5, 3) := by decide +kernel
theorem dX10_rest_20 : decode cX10_rest 20 = .ok (.iconst (-1), 1) := by decide +kernel
theorem dX10_rest_21 : decode cX10_rest 21 = .ok (.ireturn, 1) := by decide +kernel
theorem dX10_rest_22 : decode cX10_rest 22 = .ok (.aload_n 0, 1) := by decide +kernel
theorem dX10_rest_23 : decode cX10_rest 23 = .ok (.iload_n 1, 1) := by decide +kernel
theorem dX10_rest_24 : decode cX10_rest 24 = .ok (.iload_n 2, 1) := by decide +kernel
theorem dX10_rest_25 : decode cX10_rest 25 = .ok (.iload_n 3, 1) := by decide +kernel
theorem dX10_rest_26 : decode cX10_rest 26 = .ok (.invokevirtual 468, 3) := by decide +kernel
theorem dX10_rest_29 : decode cX10_rest 29 = .ok (.aload_n 0, 1) := by decide +kernel
theorem dX10_rest_30 : decode cX10_rest 30 = .ok (.iload 4, 2) := by decide +kernel
theorem dX10_rest_32 : decode cX10_rest 32 = .ok (.invokevirtual 471, 3) := by decide +kernel
theorem dX10_rest_35 : decode cX10_rest 35 = .ok (.ireturn, 1) := by decide +kernel
theorem dX10_best_0 : decode cX10_best 0 = .ok (.aload_n 0, 1) := by decide +kernel
theorem dX10_best_1 : decode cX10_best 1 = .ok (.iconst 0, 1) := by decide +kernel
theorem dX10_best_2 : decode cX10_best 2 = .ok (.putfield 154, 3) := by decide +kernel
theorem dX10_best_5 : decode cX10_best 5 = .ok (.iload_n 1, 1) := by decide +kernel
theorem dX10_best_6 : decode cX10_best 6 = .ok (.invokestatic 420, 3) := by decide +kernel
theorem dX10_best_9 : decode cX10_best 9 = .ok (.ifCond .eq 30, 3) := by decide +kernel
theorem dX10_best_12 : decode cX10_best 12 = .ok (.aload_n 0, 1) := by decide +kernel
theorem dX10_best_13 : decode cX10_best 13 = .ok (.iload_n 2, 1) := by decide +kernel
theorem dX10_best_14 : decode cX10_best 14 = .ok (.invokevirtual 356, 3) := by decide +kernel
theorem dX10_best_17 : decode cX10_best 17 = .ok (.ifCond .eq 22, 3) := by decide +kernel
theorem dX10_best_20 : decode cX10_best 20 = .ok (.aload_n 0, 1) := by decide +kernel
theorem dX10_best_21 : decode cX10_best 21 = .ok (.iload_n 3, 1) := by decide +kernel
theorem dX10_best_22 : decode cX10_best 22 = .ok (.invokevirtual 461, 3) := by decide +kernel
theorem dX10_best_25 : decode cX10_best 25 = .ok (.ifCond .eq 14, 3) := by decide +kernel
theorem dX10_best_28 : decode cX10_best 28 = .ok (.iload 4, 2) := by decide +kernel
theorem dX10_best_30 : decode cX10_best 30 = .ok (.ifCond .lt 9, 3) := by decide +kernel
theorem dX10_best_33 : decode cX10_best 33 = .ok (.iload 4, 2) := by decide +kernel
theorem dX10_best_35 : decode cX10_best 35 = .ok (.iconst 1, 1) := by decide +kernel
theorem dX10_best_36 : decode cX10_best 36 = .ok (.if_icmp .le 5, 3) := by decide +kernel
theorem dX10_best_39 : decode cX10_best 39 = .ok (.iconst (-1), 1) := by decide +kernel
theorem dX10_best_40 : decode cX10_best 40 = .ok (.ireturn, 1) := by decide +kernel
theorem dX10_best_41 : decode cX10_best 41 = .ok (.iconst (-1), 1) := by decide +kernel
theorem dX10_best_42 : decode cX10_best 42 = .ok (.istore 5, 2) := by decide +kernel
theorem dX10_best_44 : decode cX10_best 44 = .ok (.iconst 0, 1) := by decide +kernel
theorem dX10_best_45 : decode cX10_best 45 = .ok (.istore 6, 2) := by decide +kernel
theorem dX10_best_47 : decode cX10_best 47 = .ok (.iconst 0, 1) := by decide +kernel
theorem dX10_best_48 : decode cX10_best 48 = .ok (.istore 7, 2) := by decide +kernel
theorem dX10_best_50 : decode cX10_best 50 = .ok (.iload 7, 2) := by decide +kernel
theorem dX10_best_52 : decode cX10_best 52 = .ok (.bipush 8, 2) := by decide +kernel
theorem dX10_best_54 : decode cX10_best 54 = .ok (.if_icmp .ge 92, 3) := by decide +kernel
theorem dX10_best_57 : decode cX10_best 57 = .ok (.aload_n 0, 1) := by decide +kernel
theorem dX10_best_58 : decode cX10_best 58 = .ok (.invokevirtual 442, 3) := by decide +kernel
theorem dX10_best_61 : decode cX10_best 61 = .ok (.aload_n 0, 1) := by decide +kernel
theorem dX10_best_62 : decode cX10_best 62 = .ok (.getfield 114, 3) := by decide +kernel
theorem dX10_best_65 : decode cX10_best 65 = .ok (.iconst 3, 1) := by decide +kernel
theorem dX10_best_66 : decode cX10_best 66 = .ok (.iload_n 1, 1) := by decide +kernel
theorem dX10_best_67 : decode cX10_best 67 = .ok (.iadd, 1) := by decide +kernel
theorem dX10_best_68 : decode cX10_best 68 = .ok (.iload 7, 2) := by decide +kernel
theorem dX10_best_70 : decode cX10_best 70 = .ok (.iastore, 1) := by decide +kernel
theorem dX10_best_71 : decode cX10_best 71 = .ok (.iconst 0, 1) := by decide +kernel
theorem dX10_best_72 : decode cX10_best 72 = .ok (.istore 8, 2) := by decide +kernel
theorem dX10_best_74 : decode cX10_best 74 = .ok (.iconst 0, 1) := by decide +kernel
theorem dX10_best_75 : decode cX10_best 75 = .ok (.istore 9, 2) := by decide +kernel
theorem dX10_best_77 : decode cX10_best 77 = .ok (.iload 9, 2) := by decide +kernel
theorem dX10_best_79 : decode cX10_best 79 = .ok (.iload_n 3, 1) := by decide +kernel
theorem dX10_best_80 : decode cX10_best 80 = .ok (.if_icmp .ge 36, 3) := by decide +kernel
theorem dX10_best_83 : decode cX10_best 83 = .ok (.aload_n 0, 1) := by decide +kernel
theorem dX10_best_84 : decode cX10_best 84 = .ok (.iconst 1, 1) := by decide +kernel
theorem dX10_best_85 : decode cX10_best 85 = .ok (.iconst 0, 1) := by decide +kernel
theorem dX10_best_86 : decode cX10_best 86 = .ok (.invokevirtual 407, 3) := by decide +kernel
theorem dX10_best_89 : decode cX10_best 89 = .ok (.iload 8, 2) := by decide +kernel
theorem dX10_best_91 : decode cX10_best 91 = .ok (.aload_n 0, 1) := by decide +kernel
theorem dX10_best_92 : decode cX10_best 92 = .ok (.iconst 1, 1) := by decide +kernel
theorem dX10_best_93 : decode cX10_best 93 = .ok (.iload 7, 2) := by decide +kernel
theorem dX10_best_95 : decode cX10_best 95 = .ok (.invokevirtual 417, 3) := by decide +kernel
theorem dX10_best_98 : decode cX10_best 98 = .ok (.iload_n 2, 1) := by decide +kernel
theorem dX10_best_99 : decode cX10_best 99 = .ok (.if_icmp .ne 7, 3) := by decide +kernel
theorem dX10_best_102 : decode cX10_best 102 = .ok (.iconst 1, 1) := by decide +kernel
theorem dX10_best_103 : decode cX10_best 103 = .ok (.goto 4, 3) := by decide +kernel
theorem dX10_best_106 : decode cX10_best 106 = .ok (.iconst 0, 1) := by decide +kernel
theorem dX10_best_107 : decode cX10_best 107 = .ok (.iadd, 1) := by decide +kernel
theorem dX10_best_108 : decode cX10_best 108 = .ok (.istore 8, 2) := by decide +kernel
theorem dX10_best_110 : decode cX10_best 110 = .ok (.iinc 9 1, 3) := by decide +kernel
theorem dX10_best_113 : decode cX10_best 113 = .ok (.goto (-36), 3) := by decide +kernel
theorem dX10_best_116 : decode cX10_best 116 = .ok (.iload 5, 2) := by decide +kernel
theorem dX10_best_118 : decode cX10_best 118 = .ok (.iconst (-1), 1) := by decide +kernel
theorem dX10_best_119 : decode cX10_best 119 = .ok (.if_icmp .eq 13, 3) := by decide +kernel
theorem dX10_best_122 : decode cX10_best 122 = .ok (.iload 8, 2) := by decide +kernel
theorem dX10_best_124 : decode cX10_best 124 = .ok (.iload 6, 2) := by decide +kernel
theorem dX10_best_126 : decode cX10_best 126 = .ok (.if_icmp .gt 6, 3) := by decide +kernel
theorem dX10_best_129 : decode cX10_best 129 = .ok (.goto 11, 3) := by decide +kernel
theorem dX10_best_132 : decode cX10_best 132 = .ok (.iload 7, 2) := by decide +kernel
theorem dX10_best_134 : decode cX10_best 134 = .ok (.istore 5, 2) := by decide +kernel
theorem dX10_best_136 : decode cX10_best 136 = .ok (.iload 8, 2) := by decide +kernel
theorem dX10_best_138 : decode cX10_best 138 = .ok (.istore 6, 2) := by decide +kernel
theorem dX10_best_140 : decode cX10_best 140 = .ok (.iinc 7 1, 3) := by decide +kernel
theorem dX10_best_143 : decode cX10_best 143 = .ok (.goto (-93), 3) := by decide +kernel
theorem dX10_best_146 : decode cX10_best 146 = .ok (.iload 4, 2) := by decide +kernel
theorem dX10_best_148 : decode cX10_best 148 = .ok (.ifCond .ne 8, 3) := by decide +kernel
theorem dX10_best_151 : decode cX10_best 151 = .ok (.iload 5, 2) := by decide +kernel
theorem dX10_best_153 : decode cX10_best 153 = .ok (.goto 5, 3) := by decide +kernel
theorem dX10_best_156 : decode cX10_best 156 = .ok (.iload 6, 2) := by decide +kernel
theorem dX10_best_158 : decode cX10_best 158 = .ok (.ireturn, 1) := by decide +kernel
theorem dX10_fairest_0 : decode cX10_fairest 0 = .ok (.aload_n 0, 1) := by decide +kernel
theorem dX10_fairest_1 : decode cX10_fairest 1 = .ok (.iconst 0, 1) := by decide +kernel
theorem dX10_fairest_2 : decode cX10_fairest 2 = .ok (.putfield 154, 3) := by decide +kernel
theorem dX10_fairest_5 : decode cX10_fairest 5 = .ok (.iload_n 1, 1) := by decide +kernel
theorem dX10_fairest_6 : decode cX10_fairest 6 = .ok (.invokestatic 420, 3) := by decide +kernel
theorem dX10_fairest_9 : decode cX10_fairest 9 = .ok (.ifCond .eq 20, 3) := by decide +kernel
theorem dX10_fairest_12 : decode cX10_fairest 12 = .ok (.aload_n 0, 1) := by decide +kernel
theorem dX10_fairest_13 : decode cX10_fairest 13 = .ok (.iload_n 2, 1) := by decide +kernel
theorem dX10_fairest_14 : decode cX10_fairest 14 = .ok (.invokevirtual 461, 3) := by decide +kernel
theorem dX10_fairest_17 : decode cX10_fairest 17 = .ok (.ifCond .eq 12, 3) := by decide +kernel
theorem dX10_fairest_20 : decode cX10_fairest 20 = .ok (.iload_n 3, 1) := by decide +kernel
theorem dX10_fairest_21 : decode cX10_fairest 21 = .ok (.ifCond .lt 8, 3) := by decide +kernel
theorem dX10_fairest_24 : decode cX10_fairest 24 = .ok (.iload_n 3, 1) := by decide +kernel
theorem dX10_fairest_25 : decode cX10_fairest 25 = .ok (.iconst 1, 1) := by decide +kernel
theorem dX10_fairest_26 : decode cX10_fairest 26 = .ok (.if_icmp .le 5, 3) := by decide +kernel
theorem dX10_fairest_29 : decode cX10_fairest 29 = .ok (.iconst (-1), 1) := by decide +kernel
theorem dX10_fairest_30 : decode cX10_fairest 30 = .ok (.ireturn, 1) := by decide +kernel
theorem dX10_fairest_31 : decode cX10_fairest 31 = .ok (.iconst (-1), 1) := by decide +kernel
theorem dX10_fairest_32 : decode cX10_fairest 32 = .ok (.istore 4, 2) := by decide +kernel
theorem dX10_fairest_34 : decode cX10_fairest 34 = .ok (.iconst 0, 1) := by decide +kernel
theorem dX10_fairest_35 : decode cX10_fairest 35 = .ok (.istore 5, 2) := by decide +kernel
theorem dX10_fairest_37 : decode cX10_fairest 37 = .ok (.iconst 0, 1) := by decide +kernel
theorem dX10_fairest_38 : decode cX10_fairest 38 = .ok (.istore 6, 2) := by decide +kernel
theorem dX10_fairest_40 : decode cX10_fairest 40 = .ok (.iload 6, 2) := by decide +kernel
theorem dX10_fairest_42 : decode cX10_fairest 42 = .ok (.bipush 8, 2) := by decide +kernel
theorem dX10_fairest_44 : decode cX10_fairest 44 = .ok (.if_icmp .ge 101, 3) := by decide +kernel
theorem dX10_fairest_47 : decode cX10_fairest 47 = .ok (.aload_n 0, 1) := by decide +kernel
theorem dX10_fairest_48 : decode cX10_fairest 48 = .ok (.invokevirtual 442, 3) := by decide +kernel
theorem dX10_fairest_51 : decode cX10_fairest 51 = .ok (.aload_n 0, 1) := by decide +kernel
theorem dX10_fairest_52 : decode cX10_fairest 52 = .ok (.getfield 114, 3) := by decide +kernel
theorem dX10_fairest_55 : decode cX10_fairest 55 = .ok (.iconst 3, 1) := by decide +kernel
theorem dX10_fairest_56 : decode cX10_fairest 56 = .ok (.iload_n 1, 1) := by decide +kernel
theorem dX10_fairest_57 : decode cX10_fairest 57 = .ok (.iadd, 1) := by decide +kernel
theorem dX10_fairest_58 : decode cX10_fairest 58 = .ok (.iload 6, 2) := by decide +kernel
theorem dX10_fairest_60 : decode cX10_fairest 60 = .ok (.iastore, 1) := by decide +kernel
theorem dX10_fairest_61 : decode cX10_fairest 61 = .ok (.iconst 0, 1) := by decide +kernel
theorem dX10_fairest_62 : decode cX10_fairest 62 = .ok (.istore 7, 2) := by decide +kernel
theorem dX10_fairest_64 : decode cX10_fairest 64 = .ok (.iconst 0, 1) := by decide +kernel
theorem dX10_fairest_65 : decode cX10_fairest 65 = .ok (.istore 8, 2) := by decide +kernel
theorem dX10_fairest_67 : decode cX10_fairest 67 = .ok (.iload 8, 2) := by decide +kernel
theorem dX10_fairest_69 : decode cX10_fairest 69 = .ok (.iload_n 2, 1) := by decide +kernel
theorem dX10_fairest_70 : decode cX10_fairest 70 = .ok (.if_icmp .ge 39, 3) := by decide +kernel
theorem dX10_fairest_73 : decode cX10_fairest 73 = .ok (.aload_n 0, 1) := by decide +kernel
theorem dX10_fairest_74 : decode cX10_fairest 74 = .ok (.iconst 1, 1) := by decide +kernel
theorem dX10_fairest_75 : decode cX10_fairest 75 = .ok (.iconst 0, 1) := by decide +kernel
theorem dX10_fairest_76 : decode cX10_fairest 76 = .ok (.invokevirtual 407, 3) := by decide +kernel
theorem dX10_fairest_79 : decode cX10_fairest 79 = .ok (.aload_n 0, 1) := by decide +kernel
theorem dX10_fairest_80 : decode cX10_fairest 80 = .ok (.iconst 1, 1) := by decide +kernel
theorem dX10_fairest_81 : decode cX10_fairest 81 = .ok (.iload 6, 2) := by decide +kernel
theorem dX10_fairest_83 : decode cX10_fairest 83 = .ok (.invokevirtual 417, 3) := by decide +kernel
theorem dX10_fairest_86 : decode cX10_fairest 86 = .ok (.ifCond .lt 17, 3) := by decide +kernel
theorem dX10_fairest_89 : decode cX10_fairest 89 = .ok (.iload 7, 2) := by decide +kernel
theorem dX10_fairest_91 : decode cX10_fairest 91 = .ok (.iconst 1, 1) := by decide +kernel
theorem dX10_fairest_92 : decode cX10_fairest 92 = .ok (.aload_n 0, 1) := by decide +kernel
theorem dX10_fairest_93 : decode cX10_fairest 93 = .ok (.iconst 1, 1) := by decide +kernel
theorem dX10_fairest_94 : decode cX10_fairest 94 = .ok (.iload 6, 2) := by decide +kernel
theorem dX10_fairest_96 : decode cX10_fairest 96 = .ok (.invokevirtual 417, 3) := by decide +kernel
theorem dX10_fairest_99 : decode cX10_fairest 99 = .ok (.ishl, 1) := by decide +kernel
theorem dX10_fairest_100 : decode cX10_fairest 100 = .ok (.ior, 1) := by decide +kernel
theorem dX10_fairest_101 : decode cX10_fairest 101 = .ok (.istore 7, 2) := by decide +kernel
theorem dX10_fairest_103 : decode cX10_fairest 103 = .ok (.iinc 8 1, 3) := by decide +kernel
theorem dX10_fairest_106 : decode cX10_fairest 106 = .ok (.goto (-39), 3) := by decide +kernel
theorem dX10_fairest_109 : decode cX10_fairest 109 = .ok (.iload 4, 2) := by decide +kernel
theorem dX10_fairest_111 : decode cX10_fairest 111 = .ok (.iconst (-1), 1) := by decide +kernel
theorem dX10_fairest_112 : decode cX10_fairest 112 = .ok (.if_icmp .eq 16, 3) := by decide +kernel
theorem dX10_fairest_115 : decode cX10_fairest 115 = .ok (.iload 7, 2) := by decide +kernel
theorem dX10_fairest_117 : decode cX10_fairest 117 = .ok (.invokestatic 448, 3) := by decide +kernel
theorem dX10_fairest_120 : decode cX10_fairest 120 = .ok (.iload 5, 2) := by decide +kernel
theorem dX10_fairest_122 : decode cX10_fairest 122 = .ok (.if_icmp .gt 6, 3) := by decide +kernel
theorem dX10_fairest_125 : decode cX10_fairest 125 = .ok (.goto 14, 3) := by decide +kernel
theorem dX10_fairest_128 : decode cX10_fairest 128 = .ok (.iload 6, 2) := by decide +kernel
theorem dX10_fairest_130 : decode cX10_fairest 130 = .ok (.istore 4, 2) := by decide +kernel
theorem dX10_fairest_132 : decode cX10_fairest 132 = .ok (.iload 7, 2) := by decide +kernel
theorem dX10_fairest_134 : decode cX10_fairest 134 = .ok (.invokestatic 448, 3) := by decide +kernel
theorem dX10_fairest_137 : decode cX10_fairest 137 = .ok (.istore 5, 2) := by decide +kernel
theorem dX10_fairest_139 : decode cX10_fairest 139 = .ok (.iinc 6 1, 3) := by decide +kernel
theorem dX10_fairest_142 : decode cX10_fairest 142 = .ok (.goto (-102), 3) := by decide +kernel
theorem dX10_fairest_145 : decode cX10_fairest 145 = .ok (.iload_n 3, 1) := by decide +kernel
theorem dX10_fairest_146 : decode cX10_fairest 146 = .ok (.ifCond .ne 8, 3) := by decide +kernel
theorem dX10_fairest_149 : decode cX10_fairest 149 = .ok (.iload 4, 2) := by decide +kernel
theorem dX10_fairest_151 : decode cX10_fairest 151 = .ok (.goto 5, 3) := by decide +kernel
theorem dX10_fairest_154 : decode cX10_fairest 154 = .ok (.iload 5, 2) := by decide +kernel
theorem dX10_fairest_156 : decode cX10_fairest 156 = .ok (.ireturn, 1) := by decide +kernel
theorem dX10_gain_0 : decode cX10_gain 0 = .ok (.aload_n 0, 1) := by decide +kernel
theorem dX10_gain_1 : decode cX10_gain 1 = .ok (.iconst 0, 1) := by decide +kernel
theorem dX10_gain_2 : decode cX10_gain 2 = .ok (.putfield 154, 3) := by decide +kernel
theorem dX10_gain_5 : decode cX10_gain 5 = .ok (.iload_n 1, 1) := by decide +kernel
theorem dX10_gain_6 : decode cX10_gain 6 = .ok (.invokestatic 414, 3) := by decide +kernel
theorem dX10_gain_9 : decode cX10_gain 9 = .ok (.ifCond .eq 21, 3) := by decide +kernel
theorem dX10_gain_12 : decode cX10_gain 12 = .ok (.iload_n 1, 1) := by decide +kernel
theorem dX10_gain_13 : decode cX10_gain 13 = .ok (.aload_n 0, 1) := by decide +kernel
theorem dX10_gain_14 : decode cX10_gain 14 = .ok (.getfield 81, 3) := by decide +kernel
theorem dX10_gain_17 : decode cX10_gain 17 = .ok (.iconst 0, 1) := by decide +kernel
theorem dX10_gain_18 : decode cX10_gain 18 = .ok (.iaload, 1) := by decide +kernel
theorem dX10_gain_19 : decode cX10_gain 19 = .ok (.if_icmp .ge 11, 3) := by decide +kernel
theorem dX10_gain_22 : decode cX10_gain 22 = .ok (.aload_n 0, 1) := by decide +kernel
theorem dX10_gain_23 : decode cX10_gain 23 = .ok (.iload_n 2, 1) := by decide +kernel
theorem dX10_gain_24 : decode cX10_gain 24 = .ok (.invokevirtual 461, 3) := by decide +kernel
theorem dX10_gain_27 : decode cX10_gain 27 = .ok (.ifCond .ne 5, 3) := by decide +kernel
theorem dX10_gain_30 : decode cX10_gain 30 = .ok (.iconst (-1), 1) := by decide +kernel
theorem dX10_gain_31 : decode cX10_gain 31 = .ok (.ireturn, 1) := by decide +kernel
theorem dX10_gain_32 : decode cX10_gain 32 = .ok (.aload_n 0, 1) := by decide +kernel
theorem dX10_gain_33 : decode cX10_gain 33 = .ok (.invokevirtual 442, 3) := by decide +kernel
theorem dX10_gain_36 : decode cX10_gain 36 = .ok (.aload_n 0, 1) := by decide +kernel
theorem dX10_gain_37 : decode cX10_gain 37 = .ok (.iload_n 2, 1) := by decide +kernel
theorem dX10_gain_38 : decode cX10_gain 38 = .ok (.invokevirtual 445, 3) := by decide +kernel
theorem dX10_gain_41 : decode cX10_gain 41 = .ok (.iconst 0, 1) := by decide +kernel
theorem dX10_gain_42 : decode cX10_gain 42 = .ok (.istore_n 3, 1) := by decide +kernel
theorem dX10_gain_43 : decode cX10_gain 43 = .ok (.iload_n 3, 1) := by decide +kernel
theorem dX10_gain_44 : decode cX10_gain 44 = .ok (.bipush 8, 2) := by decide +kernel
theorem dX10_gain_46 : decode cX10_gain 46 = .ok (.if_icmp .ge 52, 3) := by decide +kernel
theorem dX10_gain_49 : decode cX10_gain 49 = .ok (.aload_n 0, 1) := by decide +kernel
theorem dX10_gain_50 : decode cX10_gain 50 = .ok (.getfield 129, 3) := by decide +kernel
theorem dX10_gain_53 : decode cX10_gain 53 = .ok (.iload_n 3, 1) := by decide +kernel
theorem dX10_gain_54 : decode cX10_gain 54 = .ok (.iload_n 3, 1) := by decide +kernel
theorem dX10_gain_55 : decode cX10_gain 55 = .ok (.aload_n 0, 1) := by decide +kernel
theorem dX10_gain_56 : decode cX10_gain 56 = .ok (.getfield 13, 3) := by decide +kernel
theorem dX10_gain_59 : decode cX10_gain 59 = .ok (.iconst 0, 1) := by decide +kernel
theorem dX10_gain_60 : decode cX10_gain 60 = .ok (.iaload, 1) := by decide +kernel
theorem dX10_gain_61 : decode cX10_gain 61 = .ok (.if_icmp .ge 28, 3) := by decide +kernel
theorem dX10_gain_64 : decode cX10_gain 64 = .ok (.aload_n 0, 1) := by decide +kernel
theorem dX10_gain_65 : decode cX10_gain 65 = .ok (.getfield 87, 3) := by decide +kernel
theorem dX10_gain_68 : decode cX10_gain 68 = .ok (.bipush 8, 2) := by decide +kernel
theorem dX10_gain_70 : decode cX10_gain 70 = .ok (.iload_n 3, 1) := by decide +kernel
theorem dX10_gain_71 : decode cX10_gain 71 = .ok (.iadd, 1) := by decide +kernel
theorem dX10_gain_72 : decode cX10_gain 72 = .ok (.iaload, 1) := by decide +kernel
theorem dX10_gain_73 : decode cX10_gain 73 = .ok (.iconst 2, 1) := by decide +kernel
theorem dX10_gain_74 : decode cX10_gain 74 = .ok (.if_icmp .ne 15, 3) := by decide +kernel
theorem dX10_gain_77 : decode cX10_gain 77 = .ok (.aload_n 0, 1) := by decide +kernel
theorem dX10_gain_78 : decode cX10_gain 78 = .ok (.getfield 111, 3) := by decide +kernel
theorem dX10_gain_81 : decode cX10_gain 81 = .ok (.bipush 8, 2) := by decide +kernel
theorem dX10_gain_83 : decode cX10_gain 83 = .ok (.iload_n 3, 1) := by decide +kernel
theorem dX10_gain_84 : decode cX10_gain 84 = .ok (.iadd, 1) := by decide +kernel
theorem dX10_gain_85 : decode cX10_gain 85 = .ok (.iaload, 1) := by decide +kernel
theorem dX10_gain_86 : decode cX10_gain 86 = .ok (.goto 5, 3) := by decide +kernel
theorem dX10_gain_89 : decode cX10_gain 89 = .ok (.bipush 120, 2) := by decide +kernel
theorem dX10_gain_91 : decode cX10_gain 91 = .ok (.iastore, 1) := by decide +kernel
theorem dX10_gain_92 : decode cX10_gain 92 = .ok (.iinc 3 1, 3) := by decide +kernel
theorem dX10_gain_95 : decode cX10_gain 95 = .ok (.goto (-52), 3) := by decide +kernel
theorem dX10_gain_98 : decode cX10_gain 98 = .ok (.aload_n 0, 1) := by decide +kernel
theorem dX10_gain_99 : decode cX10_gain 99 = .ok (.invokevirtual 442, 3) := by decide +kernel
theorem dX10_gain_102 : decode cX10_gain 102 = .ok (.iload_n 1, 1) := by decide +kernel
theorem dX10_gain_103 : decode cX10_gain 103 = .ok (.istore_n 3, 1) := by decide +kernel
theorem dX10_gain_104 : decode cX10_gain 104 = .ok (.iload_n 3, 1) := by decide +kernel
theorem dX10_gain_105 : decode cX10_gain 105 = .ok (.aload_n 0, 1) := by decide +kernel
theorem dX10_gain_106 : decode cX10_gain 106 = .ok (.getfield 81, 3) := by decide +kernel
theorem dX10_gain_109 : decode cX10_gain 109 = .ok (.iconst 0, 1) := by decide +kernel
theorem dX10_gain_110 : decode cX10_gain 110 = .ok (.iaload, 1) := by decide +kernel
theorem dX10_gain_111 : decode cX10_gain 111 = .ok (.if_icmp .ge 26, 3) := by decide +kernel
theorem dX10_gain_114 : decode cX10_gain 114 = .ok (.aload_n 0, 1) := by decide +kernel
theorem dX10_gain_115 : decode cX10_gain 115 = .ok (.getfield 84, 3) := by decide +kernel
theorem dX10_gain_118 : decode cX10_gain 118 = .ok (.bipush 8, 2) := by decide +kernel
theorem dX10_gain_120 : decode cX10_gain 120 = .ok (.iload_n 3, 1) := by decide +kernel
theorem dX10_gain_121 : decode cX10_gain 121 = .ok (.iadd, 1) := by decide +kernel
theorem dX10_gain_122 : decode cX10_gain 122 = .ok (.iload_n 1, 1) := by decide +kernel
theorem dX10_gain_123 : decode cX10_gain 123 = .ok (.isub, 1) := by decide +kernel
theorem dX10_gain_124 : decode cX10_gain 124 = .ok (.aload_n 0, 1) := by decide +kernel
theorem dX10_gain_125 : decode cX10_gain 125 = .ok (.getfield 84, 3) := by decide +kernel
theorem dX10_gain_128 : decode cX10_gain 128 = .ok (.iload_n 3, 1) := by decide +kernel
theorem dX10_gain_129 : decode cX10_gain 129 = .ok (.iaload, 1) := by decide +kernel
theorem dX10_gain_130 : decode cX10_gain 130 = .ok (.iastore, 1) := by decide +kernel
theorem dX10_gain_131 : decode cX10_gain 131 = .ok (.iinc 3 1, 3) := by decide +kernel
theorem dX10_gain_134 : decode cX10_gain 134 = .ok (.goto (-30), 3) := by decide +kernel
theorem dX10_gain_137 : decode cX10_gain 137 = .ok (.aload_n 0, 1) := by decide +kernel
theorem dX10_gain_138 : decode cX10_gain 138 = .ok (.getfield 81, 3) := by decide +kernel
theorem dX10_gain_141 : decode cX10_gain 141 = .ok (.iconst 1, 1) := by decide +kernel
theorem dX10_gain_142 : decode cX10_gain 142 = .ok (.aload_n 0, 1) := by decide +kernel
theorem dX10_gain_143 : decode cX10_gain 143 = .ok (.getfield 81, 3) := by decide +kernel
theorem dX10_gain_146 : decode cX10_gain 146 = .ok (.iconst 0, 1) := by decide +kernel
theorem dX10_gain_147 : decode cX10_gain 147 = .ok (.iaload, 1) := by decide +kernel
theorem dX10_gain_148 : decode cX10_gain 148 = .ok (.iload_n 1, 1) := by decide +kernel
theorem dX10_gain_149 : decode cX10_gain 149 = .ok (.isub, 1) := by decide +kernel
theorem dX10_gain_150 : decode cX10_gain 150 = .ok (.iastore, 1) := by decide +kernel
theorem dX10_gain_151 : decode cX10_gain 151 = .ok (.iconst 0, 1) := by decide +kernel
theorem dX10_gain_152 : decode cX10_gain 152 = .ok (.istore_n 3, 1) := by decide +kernel
theorem dX10_gain_153 : decode cX10_gain 153 = .ok (.iload_n 3, 1) := by decide +kernel
theorem dX10_gain_154 : decode cX10_gain 154 = .ok (.aload_n 0, 1) := by decide +kernel
theorem dX10_gain_155 : decode cX10_gain 155 = .ok (.getfield 13, 3) := by decide +kernel
theorem dX10_gain_158 : decode cX10_gain 158 = .ok (.iconst 0, 1) := by decide +kernel
theorem dX10_gain_159 : decode cX10_gain 159 = .ok (.iaload, 1) := by decide +kernel
theorem dX10_gain_160 : decode cX10_gain 160 = .ok (.if_icmp .ge 54, 3) := by decide +kernel
theorem dX10_gain_163 : decode cX10_gain 163 = .ok (.bipush 8, 2) := by decide +kernel
theorem dX10_gain_165 : decode cX10_gain 165 = .ok (.iload_n 3, 1) := by decide +kernel
theorem dX10_gain_166 : decode cX10_gain 166 = .ok (.iadd, 1) := by decide +kernel
theorem dX10_gain_167 : decode cX10_gain 167 = .ok (.istore 4, 2) := by decide +kernel
theorem dX10_gain_169 : decode cX10_gain 169 = .ok (.aload_n 0, 1) := by decide +kernel
theorem dX10_gain_170 : decode cX10_gain 170 = .ok (.getfield 87, 3) := by decide +kernel
theorem dX10_gain_173 : decode cX10_gain 173 = .ok (.iload 4, 2) := by decide +kernel
theorem dX10_gain_175 : decode cX10_gain 175 = .ok (.iaload, 1) := by decide +kernel
theorem dX10_gain_176 : decode cX10_gain 176 = .ok (.ifCond .eq 24, 3) := by decide +kernel
theorem dX10_gain_179 : decode cX10_gain 179 = .ok (.aload_n 0, 1) := by decide +kernel
theorem dX10_gain_180 : decode cX10_gain 180 = .ok (.getfield 87, 3) := by decide +kernel
theorem dX10_gain_183 : decode cX10_gain 183 = .ok (.iload 4, 2) := by decide +kernel
theorem dX10_gain_185 : decode cX10_gain 185 = .ok (.iaload, 1) := by decide +kernel
theorem dX10_gain_186 : decode cX10_gain 186 = .ok (.iconst 1, 1) := by decide +kernel
theorem dX10_gain_187 : decode cX10_gain 187 = .ok (.if_icmp .ne 21, 3) := by decide +kernel
theorem dX10_gain_190 : decode cX10_gain 190 = .ok (.aload_n 0, 1) := by decide +kernel
theorem dX10_gain_191 : decode cX10_gain 191 = .ok (.iconst 1, 1) := by decide +kernel
theorem dX10_gain_192 : decode cX10_gain 192 = .ok (.iload_n 3, 1) := by decide +kernel
theorem dX10_gain_193 : decode cX10_gain 193 = .ok (.invokevirtual 411, 3) := by decide +kernel
theorem dX10_gain_196 : decode cX10_gain 196 = .ok (.iconst (-1), 1) := by decide +kernel
theorem dX10_gain_197 : decode cX10_gain 197 = .ok (.if_icmp .ne 11, 3) := by decide +kernel
theorem dX10_gain_200 : decode cX10_gain 200 = .ok (.aload_n 0, 1) := by decide +kernel
theorem dX10_gain_201 : decode cX10_gain 201 = .ok (.getfield 87, 3) := by decide +kernel
theorem dX10_gain_204 : decode cX10_gain 204 = .ok (.iload 4, 2) := by decide +kernel
theorem dX10_gain_206 : decode cX10_gain 206 = .ok (.iconst 3, 1) := by decide +kernel
theorem dX10_gain_207 : decode cX10_gain 207 = .ok (.iastore, 1) := by decide +kernel
theorem dX10_gain_208 : decode cX10_gain 208 = .ok (.iinc 3 1, 3) := by decide +kernel
theorem dX10_gain_211 : decode cX10_gain 211 = .ok (.goto (-58), 3) := by decide +kernel
theorem dX10_gain_214 : decode cX10_gain 214 = .ok (.aload_n 0, 1) := by decide +kernel
theorem dX10_gain_215 : decode cX10_gain 215 = .ok (.iload_n 2, 1) := by decide +kernel
theorem dX10_gain_216 : decode cX10_gain 216 = .ok (.invokevirtual 445, 3) := by decide +kernel
theorem dX10_gain_219 : decode cX10_gain 219 = .ok (.iconst 0, 1) := by decide +kernel
theorem dX10_gain_220 : decode cX10_gain 220 = .ok (.istore_n 3, 1) := by decide +kernel
theorem dX10_gain_221 : decode cX10_gain 221 = .ok (.iload_n 1, 1) := by decide +kernel
theorem dX10_gain_222 : decode cX10_gain 222 = .ok (.istore 4, 2) := by decide +kernel
theorem dX10_gain_224 : decode cX10_gain 224 = .ok (.iload 4, 2) := by decide +kernel
theorem dX10_gain_226 : decode cX10_gain 226 = .ok (.aload_n 0, 1) := by decide +kernel
theorem dX10_gain_227 : decode cX10_gain 227 = .ok (.getfield 81, 3) := by decide +kernel
theorem dX10_gain_230 : decode cX10_gain 230 = .ok (.iconst 0, 1) := by decide +kernel
theorem dX10_gain_231 : decode cX10_gain 231 = .ok (.iaload, 1) := by decide +kernel
theorem dX10_gain_232 : decode cX10_gain 232 = .ok (.if_icmp .ge 66, 3) := by decide +kernel
theorem dX10_gain_235 : decode cX10_gain 235 = .ok (.bipush 8, 2) := by decide +kernel
theorem dX10_gain_237 : decode cX10_gain 237 = .ok (.aload_n 0, 1) := by decide +kernel
theorem dX10_gain_238 : decode cX10_gain 238 = .ok (.getfield 84, 3) := by decide +kernel
theorem dX10_gain_241 : decode cX10_gain 241 = .ok (.iload 4, 2) := by decide +kernel
theorem dX10_gain_243 : decode cX10_gain 243 = .ok (.iaload, 1) := by decide +kernel
theorem dX10_gain_244 : decode cX10_gain 244 = .ok (.iadd, 1) := by decide +kernel
theorem dX10_gain_245 : decode cX10_gain 245 = .ok (.istore 5, 2) := by decide +kernel
theorem dX10_gain_247 : decode cX10_gain 247 = .ok (.aload_n 0, 1) := by decide +kernel
theorem dX10_gain_248 : decode cX10_gain 248 = .ok (.getfield 87, 3) := by decide +kernel
theorem dX10_gain_251 : decode cX10_gain 251 = .ok (.iload 5, 2) := by decide +kernel
theorem dX10_gain_253 : decode cX10_gain 253 = .ok (.iaload, 1) := by decide +kernel
theorem dX10_gain_254 : decode cX10_gain 254 = .ok (.iconst 2, 1) := by decide +kernel
theorem dX10_gain_255 : decode cX10_gain 255 = .ok (.if_icmp .ne 37, 3) := by decide +kernel
theorem dX10_gain_258 : decode cX10_gain 258 = .ok (.aload_n 0, 1) := by decide +kernel
theorem dX10_gain_259 : decode cX10_gain 259 = .ok (.getfield 111, 3) := by decide +kernel
theorem dX10_gain_262 : decode cX10_gain 262 = .ok (.iload 5, 2) := by decide +kernel
theorem dX10_gain_264 : decode cX10_gain 264 = .ok (.iaload, 1) := by decide +kernel
theorem dX10_gain_265 : decode cX10_gain 265 = .ok (.aload_n 0, 1) := by decide +kernel
theorem dX10_gain_266 : decode cX10_gain 266 = .ok (.getfield 129, 3) := by decide +kernel
theorem dX10_gain_269 : decode cX10_gain 269 = .ok (.aload_n 0, 1) := by decide +kernel
theorem dX10_gain_270 : decode cX10_gain 270 = .ok (.getfield 84, 3) := by decide +kernel
theorem dX10_gain_273 : decode cX10_gain 273 = .ok (.iload 4, 2) := by decide +kernel
theorem dX10_gain_275 : decode cX10_gain 275 = .ok (.iaload, 1) := by decide +kernel
theorem dX10_gain_276 : decode cX10_gain 276 = .ok (.iaload, 1) := by decide +kernel
theorem dX10_gain_277 : decode cX10_gain 277 = .ok (.if_icmp .ge 15, 3) := by decide +kernel
theorem dX10_gain_280 : decode cX10_gain 280 = .ok (.iload_n 3, 1) := by decide +kernel
theorem dX10_gain_281 : decode cX10_gain 281 = .ok (.iconst 1, 1) := by decide +kernel
theorem dX10_gain_282 : decode cX10_gain 282 = .ok (.aload_n 0, 1) := by decide +kernel
theorem dX10_gain_283 : decode cX10_gain 283 = .ok (.getfield 84, 3) := by decide +kernel
theorem dX10_gain_286 : decode cX10_gain 286 = .ok (.iload 4, 2) := by decide +kernel
theorem dX10_gain_288 : decode cX10_gain 288 = .ok (.iaload, 1) := by decide +kernel
theorem dX10_gain_289 : decode cX10_gain 289 = .ok (.ishl, 1) := by decide +kernel
theorem dX10_gain_290 : decode cX10_gain 290 = .ok (.ior, 1) := by decide +kernel
theorem dX10_gain_291 : decode cX10_gain 291 = .ok (.istore_n 3, 1) := by decide +kernel
theorem dX10_gain_292 : decode cX10_gain 292 = .ok (.iinc 4 1, 3) := by decide +kernel
theorem dX10_gain_295 : decode cX10_gain 295 = .ok (.goto (-71), 3) := by decide +kernel
theorem dX10_gain_298 : decode cX10_gain 298 = .ok (.iload_n 3, 1) := by decide +kernel
theorem dX10_gain_299 : decode cX10_gain 299 = .ok (.ireturn, 1) := by decide +kernel
theorem dX10_stone_0 : decode cX10_stone 0 = .ok (.aload_n 0, 1) := by decide +kernel
theorem dX10_stone_1 : decode cX10_stone 1 = .ok (.iconst 0, 1) := by decide +kernel
theorem dX10_stone_2 : decode cX10_stone 2 = .ok (.putfield 154, 3) := by decide +kernel
theorem dX10_stone_5 : decode cX10_stone 5 = .ok (.iload_n 1, 1) := by decide +kernel
theorem dX10_stone_6 : decode cX10_stone 6 = .ok (.ifCond .lt 38, 3) := by decide +kernel
theorem dX10_stone_9 : decode cX10_stone 9 = .ok (.iload_n 1, 1) := by decide +kernel
theorem dX10_stone_10 : decode cX10_stone 10 = .ok (.bipush 59, 2) := by decide +kernel
theorem dX10_stone_12 : decode cX10_stone 12 = .ok (.if_icmp .gt 32, 3) := by decide +kernel
theorem dX10_stone_15 : decode cX10_stone 15 = .ok (.iload_n 2, 1) := by decide +kernel
theorem dX10_stone_16 : decode cX10_stone 16 = .ok (.invokestatic 414, 3) := by decide +kernel
theorem dX10_stone_19 : decode cX10_stone 19 = .ok (.ifCond .eq 25, 3) := by decide +kernel
theorem dX10_stone_22 : decode cX10_stone 22 = .ok (.iload_n 3, 1) := by decide +kernel
theorem dX10_stone_23 : decode cX10_stone 23 = .ok (.iconst (-1), 1) := by decide +kernel
theorem dX10_stone_24 : decode cX10_stone 24 = .ok (.if_icmp .eq 11, 3) := by decide +kernel
theorem dX10_stone_27 : decode cX10_stone 27 = .ok (.aload_n 0, 1) := by decide +kernel
theorem dX10_stone_28 : decode cX10_stone 28 = .ok (.iload_n 3, 1) := by decide +kernel
theorem dX10_stone_29 : decode cX10_stone 29 = .ok (.invokevirtual 356, 3) := by decide +kernel
theorem dX10_stone_32 : decode cX10_stone 32 = .ok (.ifCond .eq 12, 3) := by decide +kernel
theorem dX10_stone_35 : decode cX10_stone 35 = .ok (.aload_n 0, 1) := by decide +kernel
theorem dX10_stone_36 : decode cX10_stone 36 = .ok (.getfield 310, 3) := by decide +kernel
theorem dX10_stone_39 : decode cX10_stone 39 = .ok (.bipush 24, 2) := by decide +kernel
theorem dX10_stone_41 : decode cX10_stone 41 = .ok (.if_icmp .ne 5, 3) := by decide +kernel
theorem dX10_stone_44 : decode cX10_stone 44 = .ok (.iconst (-1), 1) := by decide +kernel
theorem dX10_stone_45 : decode cX10_stone 45 = .ok (.ireturn, 1) := by decide +kernel
theorem dX10_stone_46 : decode cX10_stone 46 = .ok (.aload_n 0, 1) := by decide +kernel
theorem dX10_stone_47 : decode cX10_stone 47 = .ok (.getfield 135, 3) := by decide +kernel
theorem dX10_stone_50 : decode cX10_stone 50 = .ok (.aload_n 0, 1) := by decide +kernel
theorem dX10_stone_51 : decode cX10_stone 51 = .ok (.getfield 310, 3) := by decide +kernel
theorem dX10_stone_54 : decode cX10_stone 54 = .ok (.iload_n 1, 1) := by decide +kernel
theorem dX10_stone_55 : decode cX10_stone 55 = .ok (.iastore, 1) := by decide +kernel
theorem dX10_stone_56 : decode cX10_stone 56 = .ok (.aload_n 0, 1) := by decide +kernel
theorem dX10_stone_57 : decode cX10_stone 57 = .ok (.getfield 138, 3) := by decide +kernel
theorem dX10_stone_60 : decode cX10_stone 60 = .ok (.aload_n 0, 1) := by decide +kernel
theorem dX10_stone_61 : decode cX10_stone 61 = .ok (.getfield 310, 3) := by decide +kernel
theorem dX10_stone_64 : decode cX10_stone 64 = .ok (.iload_n 2, 1) := by decide +kernel
theorem dX10_stone_65 : decode cX10_stone 65 = .ok (.iastore, 1) := by decide +kernel
theorem dX10_stone_66 : decode cX10_stone 66 = .ok (.aload_n 0, 1) := by decide +kernel
theorem dX10_stone_67 : decode cX10_stone 67 = .ok (.getfield 141, 3) := by decide +kernel
theorem dX10_stone_70 : decode cX10_stone 70 = .ok (.aload_n 0, 1) := by decide +kernel
theorem dX10_stone_71 : decode cX10_stone 71 = .ok (.getfield 310, 3) := by decide +kernel
theorem dX10_stone_74 : decode cX10_stone 74 = .ok (.iload_n 3, 1) := by decide +kernel
theorem dX10_stone_75 : decode cX10_stone 75 = .ok (.iastore, 1) := by decide +kernel
theorem dX10_stone_76 : decode cX10_stone 76 = .ok (.aload_n 0, 1) := by decide +kernel
theorem dX10_stone_77 : decode cX10_stone 77 = .ok (.getfield 144, 3) := by decide +kernel
theorem dX10_stone_80 : decode cX10_stone 80 = .ok (.aload_n 0, 1) := by decide +kernel
theorem dX10_stone_81 : decode cX10_stone 81 = .ok (.getfield 310, 3) := by decide +kernel
theorem dX10_stone_84 : decode cX10_stone 84 = .ok (.iconst (-1), 1) := by decide +kernel
theorem dX10_stone_85 : decode cX10_stone 85 = .ok (.iastore, 1) := by decide +kernel
theorem dX10_stone_86 : decode cX10_stone 86 = .ok (.aload_n 0, 1) := by decide +kernel
theorem dX10_stone_87 : decode cX10_stone 87 = .ok (.dup, 1) := by decide +kernel
theorem dX10_stone_88 : decode cX10_stone 88 = .ok (.getfield 310, 3) := by decide +kernel
theorem dX10_stone_91 : decode cX10_stone 91 = .ok (.iconst 1, 1) := by decide +kernel
theorem dX10_stone_92 : decode cX10_stone 92 = .ok (.iadd, 1) := by decide +kernel
theorem dX10_stone_93 : decode cX10_stone 93 = .ok (.putfield 310, 3) := by decide +kernel
theorem dX10_stone_96 : decode cX10_stone 96 = .ok (.aload_n 0, 1) := by decide +kernel
theorem dX10_stone_97 : decode cX10_stone 97 = .ok (.getfield 310, 3) := by decide +kernel
theorem dX10_stone_100 : decode cX10_stone 100 = .ok (.iconst 1, 1) := by decide +kernel
theorem dX10_stone_101 : decode cX10_stone 101 = .ok (.isub, 1) := by decide +kernel
theorem dX10_stone_102 : decode cX10_stone 102 = .ok (.ireturn, 1) := by decide +kernel
theorem dX10_strike_0 : decode cX10_strike 0 = .ok (.aload_n 0, 1) := by decide +kernel
theorem dX10_strike_1 : decode cX10_strike 1 = .ok (.iconst 0, 1) := by decide +kernel
theorem dX10_strike_2 : decode cX10_strike 2 = .ok (.putfield 154, 3) := by decide +kernel
theorem dX10_strike_5 : decode cX10_strike 5 = .ok (.iload_n 1, 1) := by decide +kernel
theorem dX10_strike_6 : decode cX10_strike 6 = .ok (.ifCond .lt 20, 3) := by decide +kernel
theorem dX10_strike_9 : decode cX10_strike 9 = .ok (.iload_n 1, 1) := by decide +kernel
theorem dX10_strike_10 : decode cX10_strike 10 = .ok (.aload_n 0, 1) := by decide +kernel
theorem dX10_strike_11 : decode cX10_strike 11 = .ok (.getfield 310, 3) := by decide +kernel
theorem dX10_strike_14 : decode cX10_strike 14 = .ok (.if_icmp .ge 12, 3) := by decide +kernel
theorem dX10_strike_17 : decode cX10_strike 17 = .ok (.aload_n 0, 1) := by decide +kernel
theorem dX10_strike_18 : decode cX10_strike 18 = .ok (.getfield 310, 3) := by decide +kernel
theorem dX10_strike_21 : decode cX10_strike 21 = .ok (.bipush 24, 2) := by decide +kernel
theorem dX10_strike_23 : decode cX10_strike 23 = .ok (.if_icmp .ne 5, 3) := by decide +kernel
theorem dX10_strike_26 : decode cX10_strike 26 = .ok (.iconst (-1), 1) := by decide +kernel
theorem dX10_strike_27 : decode cX10_strike 27 = .ok (.ireturn, 1) := by decide +kernel
theorem dX10_strike_28 : decode cX10_strike 28 = .ok (.aload_n 0, 1) := by decide +kernel
theorem dX10_strike_29 : decode cX10_strike 29 = .ok (.getfield 144, 3) := by decide +kernel
theorem dX10_strike_32 : decode cX10_strike 32 = .ok (.aload_n 0, 1) := by decide +kernel
theorem dX10_strike_33 : decode cX10_strike 33 = .ok (.getfield 310, 3) := by decide +kernel
theorem dX10_strike_36 : decode cX10_strike 36 = .ok (.iload_n 1, 1) := by decide +kernel
theorem dX10_strike_37 : decode cX10_strike 37 = .ok (.iastore, 1) := by decide +kernel
theorem dX10_strike_38 : decode cX10_strike 38 = .ok (.aload_n 0, 1) := by decide +kernel
theorem dX10_strike_39 : decode cX10_strike 39 = .ok (.dup, 1) := by decide +kernel
theorem dX10_strike_40 : decode cX10_strike 40 = .ok (.getfield 310, 3) := by decide +kernel
theorem dX10_strike_43 : decode cX10_strike 43 = .ok (.iconst 1, 1) := by decide +kernel
theorem dX10_strike_44 : decode cX10_strike 44 = .ok (.iadd, 1) := by decide +kernel
theorem dX10_strike_45 : decode cX10_strike 45 = .ok (.putfield 310, 3) := by decide +kernel
theorem dX10_strike_48 : decode cX10_strike 48 = .ok (.aload_n 0, 1) := by decide +kernel
theorem dX10_strike_49 : decode cX10_strike 49 = .ok (.getfield 310, 3) := by decide +kernel
theorem dX10_strike_52 : decode cX10_strike 52 = .ok (.iconst 1, 1) := by decide +kernel
theorem dX10_strike_53 : decode cX10_strike 53 = .ok (.isub, 1) := by decide +kernel
theorem dX10_strike_54 : decode cX10_strike 54 = .ok (.ireturn, 1) := by decide +kernel
theorem dX10_known_0 : decode cX10_known 0 = .ok (.aload_n 0, 1) := by decide +kernel
theorem dX10_known_1 : decode cX10_known 1 = .ok (.iconst 0, 1) := by decide +kernel
theorem dX10_known_2 : decode cX10_known 2 = .ok (.putfield 154, 3) := by decide +kernel
theorem dX10_known_5 : decode cX10_known 5 = .ok (.iload_n 1, 1) := by decide +kernel
theorem dX10_known_6 : decode cX10_known 6 = .ok (.iconst (-1), 1) := by decide +kernel
theorem dX10_known_7 : decode cX10_known 7 = .ok (.if_icmp .lt 11, 3) := by decide +kernel
theorem dX10_known_10 : decode cX10_known 10 = .ok (.iload_n 1, 1) := by decide +kernel
theorem dX10_known_11 : decode cX10_known 11 = .ok (.aload_n 0, 1) := by decide +kernel
theorem dX10_known_12 : decode cX10_known 12 = .ok (.getfield 310, 3) := by decide +kernel
theorem dX10_known_15 : decode cX10_known 15 = .ok (.if_icmp .le 5, 3) := by decide +kernel
theorem dX10_known_18 : decode cX10_known 18 = .ok (.iconst 0, 1) := by decide +kernel
theorem dX10_known_19 : decode cX10_known 19 = .ok (.ireturn, 1) := by decide +kernel
theorem dX10_known_20 : decode cX10_known 20 = .ok (.aload_n 0, 1) := by decide +kernel
theorem dX10_known_21 : decode cX10_known 21 = .ok (.iload_n 1, 1) := by decide +kernel
theorem dX10_known_22 : decode cX10_known 22 = .ok (.putfield 132, 3) := by decide +kernel
theorem dX10_known_25 : decode cX10_known 25 = .ok (.iconst 1, 1) := by decide +kernel
theorem dX10_known_26 : decode cX10_known 26 = .ok (.ireturn, 1) := by decide +kernel
theorem dX10_knownMany_0 : decode cX10_knownMany 0 = .ok (.aload_n 0, 1) := by decide +kernel
theorem dX10_knownMany_1 : decode cX10_knownMany 1 = .ok (.getfield 132, 3) := by decide +kernel
theorem dX10_knownMany_4 : decode cX10_knownMany 4 = .ok (.iconst (-1), 1) := by decide +kernel
theorem dX10_knownMany_5 : decode cX10_knownMany 5 = .ok (.if_icmp .ne 10, 3) := by decide +kernel
theorem dX10_knownMany_8 : decode cX10_knownMany 8 = .ok (.aload_n 0, 1) := by decide +kernel
theorem dX10_knownMany_9 : decode cX10_knownMany 9 = .ok (.getfield 310, 3) := by decide +kernel
theorem dX10_knownMany_12 : decode cX10_knownMany 12 = .ok (.goto 7, 3) := by decide +kernel
theorem dX10_knownMany_15 : decode cX10_knownMany 15 = .ok (.aload_n 0, 1) := by decide +kernel
theorem dX10_knownMany_16 : decode cX10_knownMany 16 = .ok (.getfield 132, 3) := by decide +kernel
theorem dX10_knownMany_19 : decode cX10_knownMany 19 = .ok (.ireturn, 1) := by decide +kernel
theorem dX10_isWay_0 : decode cX10_isWay 0 = .ok (.iconst (-1), 1) := by decide +kernel
theorem dX10_isWay_1 : decode cX10_isWay 1 = .ok (.istore_n 3, 1) := by decide +kernel
theorem dX10_isWay_2 : decode cX10_isWay 2 = .ok (.iconst 0, 1) := by decide +kernel
theorem dX10_isWay_3 : decode cX10_isWay 3 = .ok (.istore 4, 2) := by decide +kernel
theorem dX10_isWay_5 : decode cX10_isWay 5 = .ok (.iload 4, 2) := by decide +kernel
theorem dX10_isWay_7 : decode cX10_isWay 7 = .ok (.aload_n 0, 1) := by decide +kernel
theorem dX10_isWay_8 : decode cX10_isWay 8 = .ok (.invokevirtual 474, 3) := by decide +kernel
theorem dX10_isWay_11 : decode cX10_isWay 11 = .ok (.if_icmp .ge 42, 3) := by decide +kernel
theorem dX10_isWay_14 : decode cX10_isWay 14 = .ok (.aload_n 0, 1) := by decide +kernel
theorem dX10_isWay_15 : decode cX10_isWay 15 = .ok (.getfield 147, 3) := by decide +kernel
theorem dX10_isWay_18 : decode cX10_isWay 18 = .ok (.iload 4, 2) := by decide +kernel
theorem dX10_isWay_20 : decode cX10_isWay 20 = .ok (.baload, 1) := by decide +kernel
theorem dX10_isWay_21 : decode cX10_isWay 21 = .ok (.ifCond .ne 26, 3) := by decide +kernel
theorem dX10_isWay_24 : decode cX10_isWay 24 = .ok (.aload_n 0, 1) := by decide +kernel
theorem dX10_isWay_25 : decode cX10_isWay 25 = .ok (.getfield 144, 3) := by decide +kernel
theorem dX10_isWay_28 : decode cX10_isWay 28 = .ok (.iload 4, 2) := by decide +kernel
theorem dX10_isWay_30 : decode cX10_isWay 30 = .ok (.iaload, 1) := by decide +kernel
theorem dX10_isWay_31 : decode cX10_isWay 31 = .ok (.iconst (-1), 1) := by decide +kernel
theorem dX10_isWay_32 : decode cX10_isWay 32 = .ok (.if_icmp .ne 15, 3) := by decide +kernel
theorem dX10_isWay_35 : decode cX10_isWay 35 = .ok (.iload_n 3, 1) := by decide +kernel
theorem dX10_isWay_36 : decode cX10_isWay 36 = .ok (.aload_n 0, 1) := by decide +kernel
theorem dX10_isWay_37 : decode cX10_isWay 37 = .ok (.getfield 135, 3) := by decide +kernel
theorem dX10_isWay_40 : decode cX10_isWay 40 = .ok (.iload 4, 2) := by decide +kernel
theorem dX10_isWay_42 : decode cX10_isWay 42 = .ok (.iaload, 1) := by decide +kernel
theorem dX10_isWay_43 : decode cX10_isWay 43 = .ok (.invokestatic 477, 3) := by decide +kernel
theorem dX10_isWay_46 : decode cX10_isWay 46 = .ok (.istore_n 3, 1) := by decide +kernel
theorem dX10_isWay_47 : decode cX10_isWay 47 = .ok (.iinc 4 1, 3) := by decide +kernel
theorem dX10_isWay_50 : decode cX10_isWay 50 = .ok (.goto (-45), 3) := by decide +kernel
theorem dX10_isWay_53 : decode cX10_isWay 53 = .ok (.aload_n 0, 1) := by decide +kernel
theorem dX10_isWay_54 : decode cX10_isWay 54 = .ok (.iconst 1, 1) := by decide +kernel
theorem dX10_isWay_55 : decode cX10_isWay 55 = .ok (.invokevirtual 353, 3) := by decide +kernel
theorem dX10_isWay_58 : decode cX10_isWay 58 = .ok (.aload_n 0, 1) := by decide +kernel
theorem dX10_isWay_59 : decode cX10_isWay 59 = .ok (.getfield 99, 3) := by decide +kernel
theorem dX10_isWay_62 : decode cX10_isWay 62 = .ok (.bipush 8, 2) := by decide +kernel
theorem dX10_isWay_64 : decode cX10_isWay 64 = .ok (.iload_n 1, 1) := by decide +kernel
theorem dX10_isWay_65 : decode cX10_isWay 65 = .ok (.iadd, 1) := by decide +kernel
theorem dX10_isWay_66 : decode cX10_isWay 66 = .ok (.iload_n 2, 1) := by decide +kernel
theorem dX10_isWay_67 : decode cX10_isWay 67 = .ok (.iastore, 1) := by decide +kernel
theorem dX10_isWay_68 : decode cX10_isWay 68 = .ok (.iconst 0, 1) := by decide +kernel
theorem dX10_isWay_69 : decode cX10_isWay 69 = .ok (.istore 4, 2) := by decide +kernel
theorem dX10_isWay_71 : decode cX10_isWay 71 = .ok (.iload 4, 2) := by decide +kernel
theorem dX10_isWay_73 : decode cX10_isWay 73 = .ok (.iload_n 3, 1) := by decide +kernel
theorem dX10_isWay_74 : decode cX10_isWay 74 = .ok (.if_icmp .gt 108, 3) := by decide +kernel
theorem dX10_isWay_77 : decode cX10_isWay 77 = .ok (.aload_n 0, 1) := by decide +kernel
theorem dX10_isWay_78 : decode cX10_isWay 78 = .ok (.iconst 1, 1) := by decide +kernel
theorem dX10_isWay_79 : decode cX10_isWay 79 = .ok (.iconst 0, 1) := by decide +kernel
theorem dX10_isWay_80 : decode cX10_isWay 80 = .ok (.invokevirtual 407, 3) := by decide +kernel
theorem dX10_isWay_83 : decode cX10_isWay 83 = .ok (.iconst 0, 1) := by decide +kernel
theorem dX10_isWay_84 : decode cX10_isWay 84 = .ok (.istore 5, 2) := by decide +kernel
theorem dX10_isWay_86 : decode cX10_isWay 86 = .ok (.iload 5, 2) := by decide +kernel
theorem dX10_isWay_88 : decode cX10_isWay 88 = .ok (.aload_n 0, 1) := by decide +kernel
theorem dX10_isWay_89 : decode cX10_isWay 89 = .ok (.invokevirtual 474, 3) := by decide +kernel
theorem dX10_isWay_92 : decode cX10_isWay 92 = .ok (.if_icmp .ge 84, 3) := by decide +kernel
theorem dX10_isWay_95 : decode cX10_isWay 95 = .ok (.aload_n 0, 1) := by decide +kernel
theorem dX10_isWay_96 : decode cX10_isWay 96 = .ok (.getfield 147, 3) := by decide +kernel
theorem dX10_isWay_99 : decode cX10_isWay 99 = .ok (.iload 5, 2) := by decide +kernel
theorem dX10_isWay_101 : decode cX10_isWay 101 = .ok (.baload, 1) := by decide +kernel
theorem dX10_isWay_102 : decode cX10_isWay 102 = .ok (.ifCond .ne 68, 3) := by decide +kernel
theorem dX10_isWay_105 : decode cX10_isWay 105 = .ok (.aload_n 0, 1) := by decide +kernel
theorem dX10_isWay_106 : decode cX10_isWay 106 = .ok (.getfield 144, 3) := by decide +kernel
theorem dX10_isWay_109 : decode cX10_isWay 109 = .ok (.iload 5, 2) := by decide +kernel
theorem dX10_isWay_111 : decode cX10_isWay 111 = .ok (.iaload, 1) := by decide +kernel
theorem dX10_isWay_112 : decode cX10_isWay 112 = .ok (.iconst (-1), 1) := by decide +kernel
theorem dX10_isWay_113 : decode cX10_isWay 113 = .ok (.if_icmp .ne 57, 3) := by decide +kernel
theorem dX10_isWay_116 : decode cX10_isWay 116 = .ok (.aload_n 0, 1) := by decide +kernel
theorem dX10_isWay_117 : decode cX10_isWay 117 = .ok (.getfield 135, 3) := by decide +kernel
theorem dX10_isWay_120 : decode cX10_isWay 120 = .ok (.iload 5, 2) := by decide +kernel
theorem dX10_isWay_122 : decode cX10_isWay 122 = .ok (.iaload, 1) := by decide +kernel
theorem dX10_isWay_123 : decode cX10_isWay 123 = .ok (.iload 4, 2) := by decide +kernel
theorem dX10_isWay_125 : decode cX10_isWay 125 = .ok (.if_icmp .eq 6, 3) := by decide +kernel
theorem dX10_isWay_128 : decode cX10_isWay 128 = .ok (.goto 42, 3) := by decide +kernel
theorem dX10_isWay_131 : decode cX10_isWay 131 = .ok (.aload_n 0, 1) := by decide +kernel
theorem dX10_isWay_132 : decode cX10_isWay 132 = .ok (.iconst 1, 1) := by decide +kernel
theorem dX10_isWay_133 : decode cX10_isWay 133 = .ok (.aload_n 0, 1) := by decide +kernel
theorem dX10_isWay_134 : decode cX10_isWay 134 = .ok (.getfield 138, 3) := by decide +kernel
theorem dX10_isWay_137 : decode cX10_isWay 137 = .ok (.iload 5, 2) := by decide +kernel
theorem dX10_isWay_139 : decode cX10_isWay 139 = .ok (.iaload, 1) := by decide +kernel
theorem dX10_isWay_140 : decode cX10_isWay 140 = .ok (.invokevirtual 417, 3) := by decide +kernel
theorem dX10_isWay_143 : decode cX10_isWay 143 = .ok (.istore 6, 2) := by decide +kernel
theorem dX10_isWay_145 : decode cX10_isWay 145 = .ok (.iload 6, 2) := by decide +kernel
theorem dX10_isWay_147 : decode cX10_isWay 147 = .ok (.bipush (-2), 2) := by decide +kernel
theorem dX10_isWay_149 : decode cX10_isWay 149 = .ok (.if_icmp .ne 7, 3) := by decide +kernel
theorem dX10_isWay_152 : decode cX10_isWay 152 = .ok (.iconst (-1), 1) := by decide +kernel
theorem dX10_isWay_153 : decode cX10_isWay 153 = .ok (.goto 5, 3) := by decide +kernel
theorem dX10_isWay_156 : decode cX10_isWay 156 = .ok (.iload 6, 2) := by decide +kernel
theorem dX10_isWay_158 : decode cX10_isWay 158 = .ok (.aload_n 0, 1) := by decide +kernel
theorem dX10_isWay_159 : decode cX10_isWay 159 = .ok (.getfield 141, 3) := by decide +kernel
theorem dX10_isWay_162 : decode cX10_isWay 162 = .ok (.iload 5, 2) := by decide +kernel
theorem dX10_isWay_164 : decode cX10_isWay 164 = .ok (.iaload, 1) := by decide +kernel
theorem dX10_isWay_165 : decode cX10_isWay 165 = .ok (.if_icmp .eq 5, 3) := by decide +kernel
theorem dX10_isWay_168 : decode cX10_isWay 168 = .ok (.iconst 0, 1) := by decide +kernel
theorem dX10_isWay_169 : decode cX10_isWay 169 = .ok (.ireturn, 1) := by decide +kernel
theorem dX10_isWay_170 : decode cX10_isWay 170 = .ok (.iinc 5 1, 3) := by decide +kernel
theorem dX10_isWay_173 : decode cX10_isWay 173 = .ok (.goto (-87), 3) := by decide +kernel
theorem dX10_isWay_176 : decode cX10_isWay 176 = .ok (.iinc 4 1, 3) := by decide +kernel
theorem dX10_isWay_179 : decode cX10_isWay 179 = .ok (.goto (-108), 3) := by decide +kernel
theorem dX10_isWay_182 : decode cX10_isWay 182 = .ok (.iconst 1, 1) := by decide +kernel
theorem dX10_isWay_183 : decode cX10_isWay 183 = .ok (.ireturn, 1) := by decide +kernel
theorem dX10_layCame_0 : decode cX10_layCame 0 = .ok (.iconst 0, 1) := by decide +kernel
theorem dX10_layCame_1 : decode cX10_layCame 1 = .ok (.istore_n 2, 1) := by decide +kernel
theorem dX10_layCame_2 : decode cX10_layCame 2 = .ok (.iload_n 2, 1) := by decide +kernel
theorem dX10_layCame_3 : decode cX10_layCame 3 = .ok (.aload_n 0, 1) := by decide +kernel
theorem dX10_layCame_4 : decode cX10_layCame 4 = .ok (.invokevirtual 474, 3) := by decide +kernel
theorem dX10_layCame_7 : decode cX10_layCame 7 = .ok (.if_icmp .ge 16, 3) := by decide +kernel
theorem dX10_layCame_10 : decode cX10_layCame 10 = .ok (.aload_n 0, 1) := by decide +kernel
theorem dX10_layCame_11 : decode cX10_layCame 11 = .ok (.getfield 147, 3) := by decide +kernel
theorem dX10_layCame_14 : decode cX10_layCame 14 = .ok (.iload_n 2, 1) := by decide +kernel
theorem dX10_layCame_15 : decode cX10_layCame 15 = .ok (.iconst 0, 1) := by decide +kernel
theorem dX10_layCame_16 : decode cX10_layCame 16 = .ok (.bastore, 1) := by decide +kernel
theorem dX10_layCame_17 : decode cX10_layCame 17 = .ok (.iinc 2 1, 3) := by decide +kernel
theorem dX10_layCame_20 : decode cX10_layCame 20 = .ok (.goto (-18), 3) := by decide +kernel
theorem dX10_layCame_23 : decode cX10_layCame 23 = .ok (.aload_n 0, 1) := by decide +kernel
theorem dX10_layCame_24 : decode cX10_layCame 24 = .ok (.invokevirtual 474, 3) := by decide +kernel
theorem dX10_layCame_27 : decode cX10_layCame 27 = .ok (.iconst 1, 1) := by decide +kernel
theorem dX10_layCame_28 : decode cX10_layCame 28 = .ok (.isub, 1) := by decide +kernel
theorem dX10_layCame_29 : decode cX10_layCame 29 = .ok (.istore_n 2, 1) := by decide +kernel
theorem dX10_layCame_30 : decode cX10_layCame 30 = .ok (.iload_n 2, 1) := by decide +kernel
theorem dX10_layCame_31 : decode cX10_layCame 31 = .ok (.ifCond .lt 40, 3) := by decide +kernel
theorem dX10_layCame_34 : decode cX10_layCame 34 = .ok (.aload_n 0, 1) := by decide +kernel
theorem dX10_layCame_35 : decode cX10_layCame 35 = .ok (.getfield 147, 3) := by decide +kernel
theorem dX10_layCame_38 : decode cX10_layCame 38 = .ok (.iload_n 2, 1) := by decide +kernel
theorem dX10_layCame_39 : decode cX10_layCame 39 = .ok (.baload, 1) := by decide +kernel
theorem dX10_layCame_40 : decode cX10_layCame 40 = .ok (.ifCond .ne 25, 3) := by decide +kernel
theorem dX10_layCame_43 : decode cX10_layCame 43 = .ok (.aload_n 0, 1) := by decide +kernel
theorem dX10_layCame_44 : decode cX10_layCame 44 = .ok (.getfield 144, 3) := by decide +kernel
theorem dX10_layCame_47 : decode cX10_layCame 47 = .ok (.iload_n 2, 1) := by decide +kernel
theorem dX10_layCame_48 : decode cX10_layCame 48 = .ok (.iaload, 1) := by decide +kernel
theorem dX10_layCame_49 : decode cX10_layCame 49 = .ok (.iconst (-1), 1) := by decide +kernel
theorem dX10_layCame_50 : decode cX10_layCame 50 = .ok (.if_icmp .eq 15, 3) := by decide +kernel
theorem dX10_layCame_53 : decode cX10_layCame 53 = .ok (.aload_n 0, 1) := by decide +kernel
theorem dX10_layCame_54 : decode cX10_layCame 54 = .ok (.getfield 147, 3) := by decide +kernel
theorem dX10_layCame_57 : decode cX10_layCame 57 = .ok (.aload_n 0, 1) := by decide +kernel
theorem dX10_layCame_58 : decode cX10_layCame 58 = .ok (.getfield 144, 3) := by decide +kernel
theorem dX10_layCame_61 : decode cX10_layCame 61 = .ok (.iload_n 2, 1) := by decide +kernel
theorem dX10_layCame_62 : decode cX10_layCame 62 = .ok (.iaload, 1) := by decide +kernel
theorem dX10_layCame_63 : decode cX10_layCame 63 = .ok (.iconst 1, 1) := by decide +kernel
theorem dX10_layCame_64 : decode cX10_layCame 64 = .ok (.bastore, 1) := by decide +kernel
theorem dX10_layCame_65 : decode cX10_layCame 65 = .ok (.iinc 2 (-1), 3) := by decide +kernel
theorem dX10_layCame_68 : decode cX10_layCame 68 = .ok (.goto (-38), 3) := by decide +kernel
theorem dX10_layCame_71 : decode cX10_layCame 71 = .ok (.iconst 0, 1) := by decide +kernel
theorem dX10_layCame_72 : decode cX10_layCame 72 = .ok (.istore_n 2, 1) := by decide +kernel
theorem dX10_layCame_73 : decode cX10_layCame 73 = .ok (.iconst 0, 1) := by decide +kernel
theorem dX10_layCame_74 : decode cX10_layCame 74 = .ok (.istore_n 3, 1) := by decide +kernel
theorem dX10_layCame_75 : decode cX10_layCame 75 = .ok (.iload_n 3, 1) := by decide +kernel
theorem dX10_layCame_76 : decode cX10_layCame 76 = .ok (.aload_n 0, 1) := by decide +kernel
theorem dX10_layCame_77 : decode cX10_layCame 77 = .ok (.getfield 13, 3) := by decide +kernel
theorem dX10_layCame_80 : decode cX10_layCame 80 = .ok (.iconst 0, 1) := by decide +kernel
theorem dX10_layCame_81 : decode cX10_layCame 81 = .ok (.iaload, 1) := by decide +kernel
theorem dX10_layCame_82 : decode cX10_layCame 82 = .ok (.if_icmp .ge 57, 3) := by decide +kernel
theorem dX10_layCame_85 : decode cX10_layCame 85 = .ok (.iconst 0, 1) := by decide +kernel
theorem dX10_layCame_86 : decode cX10_layCame 86 = .ok (.istore 4, 2) := by decide +kernel
theorem dX10_layCame_88 : decode cX10_layCame 88 = .ok (.iload 4, 2) := by decide +kernel
theorem dX10_layCame_90 : decode cX10_layCame 90 = .ok (.bipush 59, 2) := by decide +kernel
theorem dX10_layCame_92 : decode cX10_layCame 92 = .ok (.if_icmp .gt 41, 3) := by decide +kernel
theorem dX10_layCame_95 : decode cX10_layCame 95 = .ok (.aload_n 0, 1) := by decide +kernel
theorem dX10_layCame_96 : decode cX10_layCame 96 = .ok (.iload_n 3, 1) := by decide +kernel
theorem dX10_layCame_97 : decode cX10_layCame 97 = .ok (.iload 4, 2) := by decide +kernel
theorem dX10_layCame_99 : decode cX10_layCame 99 = .ok (.invokevirtual 479, 3) := by decide +kernel
theorem dX10_layCame_102 : decode cX10_layCame 102 = .ok (.ifCond .ne 6, 3) := by decide +kernel
theorem dX10_layCame_105 : decode cX10_layCame 105 = .ok (.goto 22, 3) := by decide +kernel
theorem dX10_layCame_108 : decode cX10_layCame 108 = .ok (.iload_n 2, 1) := by decide +kernel
theorem dX10_layCame_109 : decode cX10_layCame 109 = .ok (.iload_n 1, 1) := by decide +kernel
theorem dX10_layCame_110 : decode cX10_layCame 110 = .ok (.if_icmp .ne 14, 3) := by decide +kernel
theorem dX10_layCame_113 : decode cX10_layCame 113 = .ok (.aload_n 0, 1) := by decide +kernel
theorem dX10_layCame_114 : decode cX10_layCame 114 = .ok (.iload_n 3, 1) := by decide +kernel
theorem dX10_layCame_115 : decode cX10_layCame 115 = .ok (.putfield 482, 3) := by decide +kernel
theorem dX10_layCame_118 : decode cX10_layCame 118 = .ok (.aload_n 0, 1) := by decide +kernel
theorem dX10_layCame_119 : decode cX10_layCame 119 = .ok (.iload 4, 2) := by decide +kernel
theorem dX10_layCame_121 : decode cX10_layCame 121 = .ok (.putfield 485, 3) := by decide +kernel
theorem dX10_layCame_124 : decode cX10_layCame 124 = .ok (.iinc 2 1, 3) := by decide +kernel
theorem dX10_layCame_127 : decode cX10_layCame 127 = .ok (.iinc 4 1, 3) := by decide +kernel
theorem dX10_layCame_130 : decode cX10_layCame 130 = .ok (.goto (-42), 3) := by decide +kernel
theorem dX10_layCame_133 : decode cX10_layCame 133 = .ok (.iinc 3 1, 3) := by decide +kernel
theorem dX10_layCame_136 : decode cX10_layCame 136 = .ok (.goto (-61), 3) := by decide +kernel
theorem dX10_layCame_139 : decode cX10_layCame 139 = .ok (.iload_n 2, 1) := by decide +kernel
theorem dX10_layCame_140 : decode cX10_layCame 140 = .ok (.ireturn, 1) := by decide +kernel
theorem dX10_came_0 : decode cX10_came 0 = .ok (.aload_n 0, 1) := by decide +kernel
theorem dX10_came_1 : decode cX10_came 1 = .ok (.iconst 0, 1) := by decide +kernel
theorem dX10_came_2 : decode cX10_came 2 = .ok (.putfield 154, 3) := by decide +kernel
theorem dX10_came_5 : decode cX10_came 5 = .ok (.aload_n 0, 1) := by decide +kernel
theorem dX10_came_6 : decode cX10_came 6 = .ok (.iconst (-1), 1) := by decide +kernel
theorem dX10_came_7 : decode cX10_came 7 = .ok (.invokevirtual 488, 3) := by decide +kernel
theorem dX10_came_10 : decode cX10_came 10 = .ok (.ireturn, 1) := by decide +kernel
theorem dX10_one_0 : decode cX10_one 0 = .ok (.aload_n 0, 1) := by decide +kernel
theorem dX10_one_1 : decode cX10_one 1 = .ok (.iconst 0, 1) := by decide +kernel
theorem dX10_one_2 : decode cX10_one 2 = .ok (.putfield 154, 3) := by decide +kernel
theorem dX10_one_5 : decode cX10_one 5 = .ok (.iload_n 1, 1) := by decide +kernel
theorem dX10_one_6 : decode cX10_one 6 = .ok (.ifCond .lt 12, 3) := by decide +kernel
theorem dX10_one_9 : decode cX10_one 9 = .ok (.iload_n 2, 1) := by decide +kernel
theorem dX10_one_10 : decode cX10_one 10 = .ok (.ifCond .lt 8, 3) := by decide +kernel
theorem dX10_one_13 : decode cX10_one 13 = .ok (.iload_n 2, 1) := by decide +kernel
theorem dX10_one_14 : decode cX10_one 14 = .ok (.iconst 1, 1) := by decide +kernel
theorem dX10_one_15 : decode cX10_one 15 = .ok (.if_icmp .le 5, 3) := by decide +kernel
theorem dX10_one_18 : decode cX10_one 18 = .ok (.iconst (-1), 1) := by decide +kernel
theorem dX10_one_19 : decode cX10_one 19 = .ok (.ireturn, 1) := by decide +kernel
theorem dX10_one_20 : decode cX10_one 20 = .ok (.iload_n 1, 1) := by decide +kernel
theorem dX10_one_21 : decode cX10_one 21 = .ok (.aload_n 0, 1) := by decide +kernel
theorem dX10_one_22 : decode cX10_one 22 = .ok (.iload_n 1, 1) := by decide +kernel
theorem dX10_one_23 : decode cX10_one 23 = .ok (.invokevirtual 488, 3) := by decide +kernel
theorem dX10_one_26 : decode cX10_one 26 = .ok (.if_icmp .lt 6, 3) := by decide +kernel
theorem dX10_one_29 : decode cX10_one 29 = .ok (.bipush (-2), 2) := by decide +kernel
theorem dX10_one_31 : decode cX10_one 31 = .ok (.ireturn, 1) := by decide +kernel
theorem dX10_one_32 : decode cX10_one 32 = .ok (.iload_n 2, 1) := by decide +kernel
theorem dX10_one_33 : decode cX10_one 33 = .ok (.ifCond .ne 10, 3) := by decide +kernel
theorem dX10_one_36 : decode cX10_one 36 = .ok (.aload_n 0, 1) := by decide +kernel
theorem dX10_one_37 : decode cX10_one 37 = .ok (.getfield 482, 3) := by decide +kernel
theorem dX10_one_40 : decode cX10_one 40 = .ok (.goto 7, 3) := by decide +kernel
theorem dX10_one_43 : decode cX10_one 43 = .ok (.aload_n 0, 1) := by decide +kernel
theorem dX10_one_44 : decode cX10_one 44 = .ok (.getfield 485, 3) := by decide +kernel
theorem dX10_one_47 : decode cX10_one 47 = .ok (.ireturn, 1) := by decide +kernel
theorem dX10_empty_0 : decode cX10_empty 0 = .ok (.aload_n 0, 1) := by decide +kernel
theorem dX10_empty_1 : decode cX10_empty 1 = .ok (.iconst 0, 1) := by decide +kernel
theorem dX10_empty_2 : decode cX10_empty 2 = .ok (.putfield 154, 3) := by decide +kernel
theorem dX10_empty_5 : decode cX10_empty 5 = .ok (.aload_n 0, 1) := by decide +kernel
theorem dX10_empty_6 : decode cX10_empty 6 = .ok (.iload_n 1, 1) := by decide +kernel
theorem dX10_empty_7 : decode cX10_empty 7 = .ok (.invokevirtual 461, 3) := by decide +kernel
theorem dX10_empty_10 : decode cX10_empty 10 = .ok (.ifCond .eq 12, 3) := by decide +kernel
theorem dX10_empty_13 : decode cX10_empty 13 = .ok (.iload_n 2, 1) := by decide +kernel
theorem dX10_empty_14 : decode cX10_empty 14 = .ok (.ifCond .lt 8, 3) := by decide +kernel
theorem dX10_empty_17 : decode cX10_empty 17 = .ok (.iload_n 2, 1) := by decide +kernel
theorem dX10_empty_18 : decode cX10_empty 18 = .ok (.iconst 1, 1) := by decide +kernel
theorem dX10_empty_19 : decode cX10_empty 19 = .ok (.if_icmp .le 5, 3) := by decide +kernel
theorem dX10_empty_22 : decode cX10_empty 22 = .ok (.iconst (-1), 1) := by decide +kernel
theorem dX10_empty_23 : decode cX10_empty 23 = .ok (.ireturn, 1) := by decide +kernel
theorem dX10_empty_24 : decode cX10_empty 24 = .ok (.aload_n 0, 1) := by decide +kernel
theorem dX10_empty_25 : decode cX10_empty 25 = .ok (.invokevirtual 442, 3) := by decide +kernel
theorem dX10_empty_28 : decode cX10_empty 28 = .ok (.iconst 0, 1) := by decide +kernel
theorem dX10_empty_29 : decode cX10_empty 29 = .ok (.istore_n 3, 1) := by decide +kernel
theorem dX10_empty_30 : decode cX10_empty 30 = .ok (.bipush (-2), 2) := by decide +kernel
theorem dX10_empty_32 : decode cX10_empty 32 = .ok (.istore 4, 2) := by decide +kernel
theorem dX10_empty_34 : decode cX10_empty 34 = .ok (.iconst 0, 1) := by decide +kernel
theorem dX10_empty_35 : decode cX10_empty 35 = .ok (.istore 5, 2) := by decide +kernel
theorem dX10_empty_37 : decode cX10_empty 37 = .ok (.iload 5, 2) := by decide +kernel
theorem dX10_empty_39 : decode cX10_empty 39 = .ok (.iload_n 1, 1) := by decide +kernel
theorem dX10_empty_40 : decode cX10_empty 40 = .ok (.if_icmp .ge 47, 3) := by decide +kernel
theorem dX10_empty_43 : decode cX10_empty 43 = .ok (.aload_n 0, 1) := by decide +kernel
theorem dX10_empty_44 : decode cX10_empty 44 = .ok (.iconst 1, 1) := by decide +kernel
theorem dX10_empty_45 : decode cX10_empty 45 = .ok (.iconst 0, 1) := by decide +kernel
theorem dX10_empty_46 : decode cX10_empty 46 = .ok (.invokevirtual 407, 3) := by decide +kernel
theorem dX10_empty_49 : decode cX10_empty 49 = .ok (.aload_n 0, 1) := by decide +kernel
theorem dX10_empty_50 : decode cX10_empty 50 = .ok (.getfield 81, 3) := by decide +kernel
theorem dX10_empty_53 : decode cX10_empty 53 = .ok (.iconst 1, 1) := by decide +kernel
theorem dX10_empty_54 : decode cX10_empty 54 = .ok (.iaload, 1) := by decide +kernel
theorem dX10_empty_55 : decode cX10_empty 55 = .ok (.ifCond .le 6, 3) := by decide +kernel
theorem dX10_empty_58 : decode cX10_empty 58 = .ok (.goto 23, 3) := by decide +kernel
theorem dX10_empty_61 : decode cX10_empty 61 = .ok (.iinc 3 1, 3) := by decide +kernel
theorem dX10_empty_64 : decode cX10_empty 64 = .ok (.iload 4, 2) := by decide +kernel
theorem dX10_empty_66 : decode cX10_empty 66 = .ok (.bipush (-2), 2) := by decide +kernel
theorem dX10_empty_68 : decode cX10_empty 68 = .ok (.if_icmp .ne 13, 3) := by decide +kernel
theorem dX10_empty_71 : decode cX10_empty 71 = .ok (.aload_n 0, 1) := by decide +kernel
theorem dX10_empty_72 : decode cX10_empty 72 = .ok (.getfield 69, 3) := by decide +kernel
theorem dX10_empty_75 : decode cX10_empty 75 = .ok (.iconst 1, 1) := by decide +kernel
theorem dX10_empty_76 : decode cX10_empty 76 = .ok (.iaload, 1) := by decide +kernel
theorem dX10_empty_77 : decode cX10_empty 77 = .ok (.iconst 1, 1) := by decide +kernel
theorem dX10_empty_78 : decode cX10_empty 78 = .ok (.isub, 1) := by decide +kernel
theorem dX10_empty_79 : decode cX10_empty 79 = .ok (.istore 4, 2) := by decide +kernel
theorem dX10_empty_81 : decode cX10_empty 81 = .ok (.iinc 5 1, 3) := by decide +kernel
theorem dX10_empty_84 : decode cX10_empty 84 = .ok (.goto (-47), 3) := by decide +kernel
theorem dX10_empty_87 : decode cX10_empty 87 = .ok (.iload_n 2, 1) := by decide +kernel
theorem dX10_empty_88 : decode cX10_empty 88 = .ok (.ifCond .ne 7, 3) := by decide +kernel
theorem dX10_empty_91 : decode cX10_empty 91 = .ok (.iload_n 3, 1) := by decide +kernel
theorem dX10_empty_92 : decode cX10_empty 92 = .ok (.goto 5, 3) := by decide +kernel
theorem dX10_empty_95 : decode cX10_empty 95 = .ok (.iload 4, 2) := by decide +kernel
theorem dX10_empty_97 : decode cX10_empty 97 = .ok (.ireturn, 1) := by decide +kernel
theorem dX10_chance_0 : decode cX10_chance 0 = .ok (.aload_n 0, 1) := by decide +kernel
theorem dX10_chance_1 : decode cX10_chance 1 = .ok (.iconst 0, 1) := by decide +kernel
theorem dX10_chance_2 : decode cX10_chance 2 = .ok (.putfield 154, 3) := by decide +kernel
theorem dX10_chance_5 : decode cX10_chance 5 = .ok (.iload_n 1, 1) := by decide +kernel
theorem dX10_chance_6 : decode cX10_chance 6 = .ok (.ifCond .lt 19, 3) := by decide +kernel
theorem dX10_chance_9 : decode cX10_chance 9 = .ok (.aload_n 0, 1) := by decide +kernel
theorem dX10_chance_10 : decode cX10_chance 10 = .ok (.iload_n 2, 1) := by decide +kernel
theorem dX10_chance_11 : decode cX10_chance 11 = .ok (.invokevirtual 356, 3) := by decide +kernel
theorem dX10_chance_14 : decode cX10_chance 14 = .ok (.ifCond .eq 11, 3) := by decide +kernel
theorem dX10_chance_17 : decode cX10_chance 17 = .ok (.aload_n 0, 1) := by decide +kernel
theorem dX10_chance_18 : decode cX10_chance 18 = .ok (.iload_n 3, 1) := by decide +kernel
theorem dX10_chance_19 : decode cX10_chance 19 = .ok (.invokevirtual 461, 3) := by decide +kernel
theorem dX10_chance_22 : decode cX10_chance 22 = .ok (.ifCond .ne 5, 3) := by decide +kernel
theorem dX10_chance_25 : decode cX10_chance 25 = .ok (.iconst (-1), 1) := by decide +kernel
theorem dX10_chance_26 : decode cX10_chance 26 = .ok (.ireturn, 1) := by decide +kernel
theorem dX10_chance_27 : decode cX10_chance 27 = .ok (.iload_n 1, 1) := by decide +kernel
theorem dX10_chance_28 : decode cX10_chance 28 = .ok (.istore 4, 2) := by decide +kernel
theorem dX10_chance_30 : decode cX10_chance 30 = .ok (.iconst 0, 1) := by decide +kernel
theorem dX10_chance_31 : decode cX10_chance 31 = .ok (.istore 5, 2) := by decide +kernel
theorem dX10_chance_33 : decode cX10_chance 33 = .ok (.iconst 0, 1) := by decide +kernel
theorem dX10_chance_34 : decode cX10_chance 34 = .ok (.istore 6, 2) := by decide +kernel
theorem dX10_chance_36 : decode cX10_chance 36 = .ok (.iload 6, 2) := by decide +kernel
theorem dX10_chance_38 : decode cX10_chance 38 = .ok (.bipush 10, 2) := by decide +kernel
theorem dX10_chance_40 : decode cX10_chance 40 = .ok (.if_icmp .ge 73, 3) := by decide +kernel
theorem dX10_chance_43 : decode cX10_chance 43 = .ok (.aload_n 0, 1) := by decide +kernel
theorem dX10_chance_44 : decode cX10_chance 44 = .ok (.invokevirtual 442, 3) := by decide +kernel
theorem dX10_chance_47 : decode cX10_chance 47 = .ok (.aload_n 0, 1) := by decide +kernel
theorem dX10_chance_48 : decode cX10_chance 48 = .ok (.getfield 75, 3) := by decide +kernel
theorem dX10_chance_51 : decode cX10_chance 51 = .ok (.iconst 1, 1) := by decide +kernel
theorem dX10_chance_52 : decode cX10_chance 52 = .ok (.iload 4, 2) := by decide +kernel
theorem dX10_chance_54 : decode cX10_chance 54 = .ok (.iastore, 1) := by decide +kernel
theorem dX10_chance_55 : decode cX10_chance 55 = .ok (.iconst 0, 1) := by decide +kernel
theorem dX10_chance_56 : decode cX10_chance 56 = .ok (.istore 7, 2) := by decide +kernel
theorem dX10_chance_58 : decode cX10_chance 58 = .ok (.iload 7, 2) := by decide +kernel
theorem dX10_chance_60 : decode cX10_chance 60 = .ok (.iload_n 3, 1) := by decide +kernel
theorem dX10_chance_61 : decode cX10_chance 61 = .ok (.if_icmp .ge 15, 3) := by decide +kernel
theorem dX10_chance_64 : decode cX10_chance 64 = .ok (.aload_n 0, 1) := by decide +kernel
theorem dX10_chance_65 : decode cX10_chance 65 = .ok (.iconst 1, 1) := by decide +kernel
theorem dX10_chance_66 : decode cX10_chance 66 = .ok (.iconst 1, 1) := by decide +kernel
theorem dX10_chance_67 : decode cX10_chance 67 = .ok (.invokevirtual 407, 3) := by decide +kernel
theorem dX10_chance_70 : decode cX10_chance 70 = .ok (.iinc 7 1, 3) := by decide +kernel
theorem dX10_chance_73 : decode cX10_chance 73 = .ok (.goto (-15), 3) := by decide +kernel
theorem dX10_chance_76 : decode cX10_chance 76 = .ok (.aload_n 0, 1) := by decide +kernel
theorem dX10_chance_77 : decode cX10_chance 77 = .ok (.getfield 75, 3) := by decide +kernel
theorem dX10_chance_80 : decode cX10_chance 80 = .ok (.iconst 1, 1) := by decide +kernel
theorem dX10_chance_81 : decode cX10_chance 81 = .ok (.iaload, 1) := by decide +kernel
theorem dX10_chance_82 : decode cX10_chance 82 = .ok (.istore 4, 2) := by decide +kernel
theorem dX10_chance_84 : decode cX10_chance 84 = .ok (.iload 5, 2) := by decide +kernel
theorem dX10_chance_86 : decode cX10_chance 86 = .ok (.aload_n 0, 1) := by decide +kernel
theorem dX10_chance_87 : decode cX10_chance 87 = .ok (.getfield 87, 3) := by decide +kernel
theorem dX10_chance_90 : decode cX10_chance 90 = .ok (.bipush 8, 2) := by decide +kernel
theorem dX10_chance_92 : decode cX10_chance 92 = .ok (.iload_n 2, 1) := by decide +kernel
theorem dX10_chance_93 : decode cX10_chance 93 = .ok (.iadd, 1) := by decide +kernel
theorem dX10_chance_94 : decode cX10_chance 94 = .ok (.iaload, 1) := by decide +kernel
theorem dX10_chance_95 : decode cX10_chance 95 = .ok (.iconst 2, 1) := by decide +kernel
theorem dX10_chance_96 : decode cX10_chance 96 = .ok (.if_icmp .ne 7, 3) := by decide +kernel
theorem dX10_chance_99 : decode cX10_chance 99 = .ok (.iconst 1, 1) := by decide +kernel
theorem dX10_chance_100 : decode cX10_chance 100 = .ok (.goto 4, 3) := by decide +kernel
theorem dX10_chance_103 : decode cX10_chance 103 = .ok (.iconst 0, 1) := by decide +kernel
theorem dX10_chance_104 : decode cX10_chance 104 = .ok (.iadd, 1) := by decide +kernel
theorem dX10_chance_105 : decode cX10_chance 105 = .ok (.istore 5, 2) := by decide +kernel
theorem dX10_chance_107 : decode cX10_chance 107 = .ok (.iinc 6 1, 3) := by decide +kernel
theorem dX10_chance_110 : decode cX10_chance 110 = .ok (.goto (-74), 3) := by decide +kernel
theorem dX10_chance_113 : decode cX10_chance 113 = .ok (.iload 5, 2) := by decide +kernel
theorem dX10_chance_115 : decode cX10_chance 115 = .ok (.ireturn, 1) := by decide +kernel
theorem dX10_tried_0 : decode cX10_tried 0 = .ok (.aload_n 0, 1) := by decide +kernel
theorem dX10_tried_1 : decode cX10_tried 1 = .ok (.iconst 0, 1) := by decide +kernel
theorem dX10_tried_2 : decode cX10_tried 2 = .ok (.putfield 154, 3) := by decide +kernel
theorem dX10_tried_5 : decode cX10_tried 5 = .ok (.iload_n 1, 1) := by decide +kernel
theorem dX10_tried_6 : decode cX10_tried 6 = .ok (.iconst 2, 1) := by decide +kernel
theorem dX10_tried_7 : decode cX10_tried 7 = .ok (.if_icmp .ne 11, 3) := by decide +kernel
theorem dX10_tried_10 : decode cX10_tried 10 = .ok (.aload_n 0, 1) := by decide +kernel
theorem dX10_tried_11 : decode cX10_tried 11 = .ok (.iload_n 2, 1) := by decide +kernel
theorem dX10_tried_12 : decode cX10_tried 12 = .ok (.invokevirtual 356, 3) := by decide +kernel
theorem dX10_tried_15 : decode cX10_tried 15 = .ok (.goto 21, 3) := by decide +kernel
theorem dX10_tried_18 : decode cX10_tried 18 = .ok (.iload_n 1, 1) := by decide +kernel
theorem dX10_tried_19 : decode cX10_tried 19 = .ok (.ifCond .lt 16, 3) := by decide +kernel
theorem dX10_tried_22 : decode cX10_tried 22 = .ok (.iload_n 1, 1) := by decide +kernel
theorem dX10_tried_23 : decode cX10_tried 23 = .ok (.iconst 5, 1) := by decide +kernel
theorem dX10_tried_24 : decode cX10_tried 24 = .ok (.if_icmp .gt 11, 3) := by decide +kernel
theorem dX10_tried_27 : decode cX10_tried 27 = .ok (.iload_n 2, 1) := by decide +kernel
theorem dX10_tried_28 : decode cX10_tried 28 = .ok (.ifCond .ne 7, 3) := by decide +kernel
theorem dX10_tried_31 : decode cX10_tried 31 = .ok (.iconst 1, 1) := by decide +kernel
theorem dX10_tried_32 : decode cX10_tried 32 = .ok (.goto 4, 3) := by decide +kernel
theorem dX10_tried_35 : decode cX10_tried 35 = .ok (.iconst 0, 1) := by decide +kernel
theorem dX10_tried_36 : decode cX10_tried 36 = .ok (.istore 4, 2) := by decide +kernel
theorem dX10_tried_38 : decode cX10_tried 38 = .ok (.iload 4, 2) := by decide +kernel
theorem dX10_tried_40 : decode cX10_tried 40 = .ok (.ifCond .eq 21, 3) := by decide +kernel
theorem dX10_tried_43 : decode cX10_tried 43 = .ok (.iload_n 3, 1) := by decide +kernel
theorem dX10_tried_44 : decode cX10_tried 44 = .ok (.ifCond .lt 17, 3) := by decide +kernel
theorem dX10_tried_47 : decode cX10_tried 47 = .ok (.iload_n 3, 1) := by decide +kernel
theorem dX10_tried_48 : decode cX10_tried 48 = .ok (.bipush 60, 2) := by decide +kernel
theorem dX10_tried_50 : decode cX10_tried 50 = .ok (.if_icmp .gt 11, 3) := by decide +kernel
theorem dX10_tried_53 : decode cX10_tried 53 = .ok (.iload_n 3, 1) := by decide +kernel
theorem dX10_tried_54 : decode cX10_tried 54 = .ok (.aload_n 0, 1) := by decide +kernel
theorem dX10_tried_55 : decode cX10_tried 55 = .ok (.invokevirtual 430, 3) := by decide +kernel
theorem dX10_tried_58 : decode cX10_tried 58 = .ok (.if_icmp .le 5, 3) := by decide +kernel
theorem dX10_tried_61 : decode cX10_tried 61 = .ok (.iconst (-1), 1) := by decide +kernel
theorem dX10_tried_62 : decode cX10_tried 62 = .ok (.ireturn, 1) := by decide +kernel
theorem dX10_tried_63 : decode cX10_tried 63 = .ok (.aload_n 0, 1) := by decide +kernel
theorem dX10_tried_64 : decode cX10_tried 64 = .ok (.invokevirtual 442, 3) := by decide +kernel
theorem dX10_tried_67 : decode cX10_tried 67 = .ok (.iload_n 1, 1) := by decide +kernel
theorem dX10_tried_68 : decode cX10_tried 68 = .ok (.iconst 2, 1) := by decide +kernel
theorem dX10_tried_69 : decode cX10_tried 69 = .ok (.if_icmp .ne 50, 3) := by decide +kernel
theorem dX10_tried_72 : decode cX10_tried 72 = .ok (.aload_n 0, 1) := by decide +kernel
theorem dX10_tried_73 : decode cX10_tried 73 = .ok (.getfield 87, 3) := by decide +kernel
theorem dX10_tried_76 : decode cX10_tried 76 = .ok (.iload_n 2, 1) := by decide +kernel
theorem dX10_tried_77 : decode cX10_tried 77 = .ok (.iaload, 1) := by decide +kernel
theorem dX10_tried_78 : decode cX10_tried 78 = .ok (.iconst 1, 1) := by decide +kernel
theorem dX10_tried_79 : decode cX10_tried 79 = .ok (.if_icmp .ne 21, 3) := by decide +kernel
theorem dX10_tried_82 : decode cX10_tried 82 = .ok (.aload_n 0, 1) := by decide +kernel
theorem dX10_tried_83 : decode cX10_tried 83 = .ok (.iconst 1, 1) := by decide +kernel
theorem dX10_tried_84 : decode cX10_tried 84 = .ok (.aload_n 0, 1) := by decide +kernel
theorem dX10_tried_85 : decode cX10_tried 85 = .ok (.iconst 1, 1) := by decide +kernel
theorem dX10_tried_86 : decode cX10_tried 86 = .ok (.iload_n 2, 1) := by decide +kernel
theorem dX10_tried_87 : decode cX10_tried 87 = .ok (.invokevirtual 411, 3) := by decide +kernel
theorem dX10_tried_90 : decode cX10_tried 90 = .ok (.iconst 3, 1) := by decide +kernel
theorem dX10_tried_91 : decode cX10_tried 91 = .ok (.aload_n 0, 1) := by decide +kernel
theorem dX10_tried_92 : decode cX10_tried 92 = .ok (.getfield 69, 3) := by decide +kernel
theorem dX10_tried_95 : decode cX10_tried 95 = .ok (.iconst 0, 1) := by decide +kernel
theorem dX10_tried_96 : decode cX10_tried 96 = .ok (.iaload, 1) := by decide +kernel
theorem dX10_tried_97 : decode cX10_tried 97 = .ok (.invokevirtual 377, 3) := by decide +kernel
theorem dX10_tried_100 : decode cX10_tried 100 = .ok (.aload_n 0, 1) := by decide +kernel
theorem dX10_tried_101 : decode cX10_tried 101 = .ok (.getfield 87, 3) := by decide +kernel
theorem dX10_tried_104 : decode cX10_tried 104 = .ok (.iload_n 2, 1) := by decide +kernel
theorem dX10_tried_105 : decode cX10_tried 105 = .ok (.iaload, 1) := by decide +kernel
theorem dX10_tried_106 : decode cX10_tried 106 = .ok (.ifCond .ne 13, 3) := by decide +kernel
theorem dX10_tried_109 : decode cX10_tried 109 = .ok (.aload_n 0, 1) := by decide +kernel
theorem dX10_tried_110 : decode cX10_tried 110 = .ok (.getfield 87, 3) := by decide +kernel
theorem dX10_tried_113 : decode cX10_tried 113 = .ok (.bipush 8, 2) := by decide +kernel
theorem dX10_tried_115 : decode cX10_tried 115 = .ok (.iload_n 2, 1) := by decide +kernel
theorem dX10_tried_116 : decode cX10_tried 116 = .ok (.iadd, 1) := by decide +kernel
theorem dX10_tried_117 : decode cX10_tried 117 = .ok (.iconst 3, 1) := by decide +kernel
theorem dX10_tried_118 : decode cX10_tried 118 = .ok (.iastore, 1) := by decide +kernel
theorem dX10_tried_119 : decode cX10_tried 119 = .ok (.iconst 0, 1) := by decide +kernel
theorem dX10_tried_120 : decode cX10_tried 120 = .ok (.istore 5, 2) := by decide +kernel
theorem dX10_tried_122 : decode cX10_tried 122 = .ok (.iload 5, 2) := by decide +kernel
theorem dX10_tried_124 : decode cX10_tried 124 = .ok (.aload_n 0, 1) := by decide +kernel
theorem dX10_tried_125 : decode cX10_tried 125 = .ok (.getfield 13, 3) := by decide +kernel
theorem dX10_tried_128 : decode cX10_tried 128 = .ok (.iconst 0, 1) := by decide +kernel
theorem dX10_tried_129 : decode cX10_tried 129 = .ok (.iaload, 1) := by decide +kernel
theorem dX10_tried_130 : decode cX10_tried 130 = .ok (.if_icmp .ge 40, 3) := by decide +kernel
theorem dX10_tried_133 : decode cX10_tried 133 = .ok (.iload_n 1, 1) := by decide +kernel
theorem dX10_tried_134 : decode cX10_tried 134 = .ok (.iconst 5, 1) := by decide +kernel
theorem dX10_tried_135 : decode cX10_tried 135 = .ok (.if_icmp .ne 35, 3) := by decide +kernel
theorem dX10_tried_138 : decode cX10_tried 138 = .ok (.aload_n 0, 1) := by decide +kernel
theorem dX10_tried_139 : decode cX10_tried 139 = .ok (.getfield 87, 3) := by decide +kernel
theorem dX10_tried_142 : decode cX10_tried 142 = .ok (.iload 5, 2) := by decide +kernel
theorem dX10_tried_144 : decode cX10_tried 144 = .ok (.iaload, 1) := by decide +kernel
theorem dX10_tried_145 : decode cX10_tried 145 = .ok (.ifCond .ne 19, 3) := by decide +kernel
theorem dX10_tried_148 : decode cX10_tried 148 = .ok (.aload_n 0, 1) := by decide +kernel
theorem dX10_tried_149 : decode cX10_tried 149 = .ok (.getfield 99, 3) := by decide +kernel
theorem dX10_tried_152 : decode cX10_tried 152 = .ok (.bipush 8, 2) := by decide +kernel
theorem dX10_tried_154 : decode cX10_tried 154 = .ok (.iload 5, 2) := by decide +kernel
theorem dX10_tried_156 : decode cX10_tried 156 = .ok (.iadd, 1) := by decide +kernel
theorem dX10_tried_157 : decode cX10_tried 157 = .ok (.aload_n 0, 1) := by decide +kernel
theorem dX10_tried_158 : decode cX10_tried 158 = .ok (.getfield 69, 3) := by decide +kernel
theorem dX10_tried_161 : decode cX10_tried 161 = .ok (.iconst 0, 1) := by decide +kernel
theorem dX10_tried_162 : decode cX10_tried 162 = .ok (.iaload, 1) := by decide +kernel
theorem dX10_tried_163 : decode cX10_tried 163 = .ok (.iastore, 1) := by decide +kernel
theorem dX10_tried_164 : decode cX10_tried 164 = .ok (.iinc 5 1, 3) := by decide +kernel
theorem dX10_tried_167 : decode cX10_tried 167 = .ok (.goto (-45), 3) := by decide +kernel
theorem dX10_tried_170 : decode cX10_tried 170 = .ok (.aload_n 0, 1) := by decide +kernel
theorem dX10_tried_171 : decode cX10_tried 171 = .ok (.iload_n 1, 1) := by decide +kernel
theorem dX10_tried_172 : decode cX10_tried 172 = .ok (.putfield 120, 3) := by decide +kernel
theorem dX10_tried_175 : decode cX10_tried 175 = .ok (.aload_n 0, 1) := by decide +kernel
theorem dX10_tried_176 : decode cX10_tried 176 = .ok (.iload_n 3, 1) := by decide +kernel
theorem dX10_tried_177 : decode cX10_tried 177 = .ok (.invokevirtual 445, 3) := by decide +kernel
theorem dX10_tried_180 : decode cX10_tried 180 = .ok (.aload_n 0, 1) := by decide +kernel
theorem dX10_tried_181 : decode cX10_tried 181 = .ok (.iconst (-1), 1) := by decide +kernel
theorem dX10_tried_182 : decode cX10_tried 182 = .ok (.putfield 120, 3) := by decide +kernel
theorem dX10_tried_185 : decode cX10_tried 185 = .ok (.aload_n 0, 1) := by decide +kernel
theorem dX10_tried_186 : decode cX10_tried 186 = .ok (.iconst 1, 1) := by decide +kernel
theorem dX10_tried_187 : decode cX10_tried 187 = .ok (.invokevirtual 491, 3) := by decide +kernel
theorem dX10_tried_190 : decode cX10_tried 190 = .ok (.ireturn, 1) := by decide +kernel
theorem dX10_howMany_0 : decode cX10_howMany 0 = .ok (.iconst 0, 1) := by decide +kernel
theorem dX10_howMany_1 : decode cX10_howMany 1 = .ok (.istore_n 3, 1) := by decide +kernel
theorem dX10_howMany_2 : decode cX10_howMany 2 = .ok (.iconst 0, 1) := by decide +kernel
theorem dX10_howMany_3 : decode cX10_howMany 3 = .ok (.istore 4, 2) := by decide +kernel
theorem dX10_howMany_5 : decode cX10_howMany 5 = .ok (.iload 4, 2) := by decide +kernel
theorem dX10_howMany_7 : decode cX10_howMany 7 = .ok (.aload_n 0, 1) := by decide +kernel
theorem dX10_howMany_8 : decode cX10_howMany 8 = .ok (.getfield 13, 3) := by decide +kernel
theorem dX10_howMany_11 : decode cX10_howMany 11 = .ok (.iconst 0, 1) := by decide +kernel
theorem dX10_howMany_12 : decode cX10_howMany 12 = .ok (.iaload, 1) := by decide +kernel
theorem dX10_howMany_13 : decode cX10_howMany 13 = .ok (.if_icmp .ge 33, 3) := by decide +kernel
theorem dX10_howMany_16 : decode cX10_howMany 16 = .ok (.iload_n 3, 1) := by decide +kernel
theorem dX10_howMany_17 : decode cX10_howMany 17 = .ok (.aload_n 0, 1) := by decide +kernel
theorem dX10_howMany_18 : decode cX10_howMany 18 = .ok (.getfield 87, 3) := by decide +kernel
theorem dX10_howMany_21 : decode cX10_howMany 21 = .ok (.bipush 8, 2) := by decide +kernel
theorem dX10_howMany_23 : decode cX10_howMany 23 = .ok (.iload_n 1, 1) := by decide +kernel
theorem dX10_howMany_24 : decode cX10_howMany 24 = .ok (.imul, 1) := by decide +kernel
theorem dX10_howMany_25 : decode cX10_howMany 25 = .ok (.iload 4, 2) := by decide +kernel
theorem dX10_howMany_27 : decode cX10_howMany 27 = .ok (.iadd, 1) := by decide +kernel
theorem dX10_howMany_28 : decode cX10_howMany 28 = .ok (.iaload, 1) := by decide +kernel
theorem dX10_howMany_29 : decode cX10_howMany 29 = .ok (.iload_n 2, 1) := by decide +kernel
theorem dX10_howMany_30 : decode cX10_howMany 30 = .ok (.if_icmp .ne 7, 3) := by decide +kernel
theorem dX10_howMany_33 : decode cX10_howMany 33 = .ok (.iconst 1, 1) := by decide +kernel
theorem dX10_howMany_34 : decode cX10_howMany 34 = .ok (.goto 4, 3) := by decide +kernel
theorem dX10_howMany_37 : decode cX10_howMany 37 = .ok (.iconst 0, 1) := by decide +kernel
theorem dX10_howMany_38 : decode cX10_howMany 38 = .ok (.iadd, 1) := by decide +kernel
theorem dX10_howMany_39 : decode cX10_howMany 39 = .ok (.istore_n 3, 1) := by decide +kernel
theorem dX10_howMany_40 : decode cX10_howMany 40 = .ok (.iinc 4 1, 3) := by decide +kernel
theorem dX10_howMany_43 : decode cX10_howMany 43 = .ok (.goto (-38), 3) := by decide +kernel
theorem dX10_howMany_46 : decode cX10_howMany 46 = .ok (.iload_n 3, 1) := by decide +kernel
theorem dX10_howMany_47 : decode cX10_howMany 47 = .ok (.ireturn, 1) := by decide +kernel
theorem dX10_servedMany_0 : decode cX10_servedMany 0 = .ok (.aload_n 0, 1) := by decide +kernel
theorem dX10_servedMany_1 : decode cX10_servedMany 1 = .ok (.iload_n 1, 1) := by decide +kernel
theorem dX10_servedMany_2 : decode cX10_servedMany 2 = .ok (.iconst 2, 1) := by decide +kernel
theorem dX10_servedMany_3 : decode cX10_servedMany 3 = .ok (.invokevirtual 494, 3) := by decide +kernel
theorem dX10_servedMany_6 : decode cX10_servedMany 6 = .ok (.ireturn, 1) := by decide +kernel
theorem dX10_undo_0 : decode cX10_undo 0 = .ok (.aload_n 0, 1) := by decide +kernel
theorem dX10_undo_1 : decode cX10_undo 1 = .ok (.iconst 0, 1) := by decide +kernel
theorem dX10_undo_2 : decode cX10_undo 2 = .ok (.putfield 154, 3) := by decide +kernel
theorem dX10_undo_5 : decode cX10_undo 5 = .ok (.aload_n 0, 1) := by decide +kernel
theorem dX10_undo_6 : decode cX10_undo 6 = .ok (.getfield 317, 3) := by decide +kernel
theorem dX10_undo_9 : decode cX10_undo 9 = .ok (.ifCond .ne 5, 3) := by decide +kernel
theorem dX10_undo_12 : decode cX10_undo 12 = .ok (.iconst (-1), 1) := by decide +kernel
theorem dX10_undo_13 : decode cX10_undo 13 = .ok (.ireturn, 1) := by decide +kernel
theorem dX10_undo_14 : decode cX10_undo 14 = .ok (.aload_n 0, 1) := by decide +kernel
theorem dX10_undo_15 : decode cX10_undo 15 = .ok (.dup, 1) := by decide +kernel
theorem dX10_undo_16 : decode cX10_undo 16 = .ok (.getfield 317, 3) := by decide +kernel
theorem dX10_undo_19 : decode cX10_undo 19 = .ok (.iconst 1, 1) := by decide +kernel
theorem dX10_undo_20 : decode cX10_undo 20 = .ok (.isub, 1) := by decide +kernel
theorem dX10_undo_21 : decode cX10_undo 21 = .ok (.putfield 317, 3) := by decide +kernel
theorem dX10_undo_24 : decode cX10_undo 24 = .ok (.aload_n 0, 1) := by decide +kernel
theorem dX10_undo_25 : decode cX10_undo 25 = .ok (.iconst 0, 1) := by decide +kernel
theorem dX10_undo_26 : decode cX10_undo 26 = .ok (.iconst 3, 1) := by decide +kernel
theorem dX10_undo_27 : decode cX10_undo 27 = .ok (.aload_n 0, 1) := by decide +kernel
theorem dX10_undo_28 : decode cX10_undo 28 = .ok (.getfield 317, 3) := by decide +kernel
theorem dX10_undo_31 : decode cX10_undo 31 = .ok (.iadd, 1) := by decide +kernel
theorem dX10_undo_32 : decode cX10_undo 32 = .ok (.invokevirtual 404, 3) := by decide +kernel
theorem dX10_undo_35 : decode cX10_undo 35 = .ok (.aload_n 0, 1) := by decide +kernel
theorem dX10_undo_36 : decode cX10_undo 36 = .ok (.getfield 317, 3) := by decide +kernel
theorem dX10_undo_39 : decode cX10_undo 39 = .ok (.ireturn, 1) := by decide +kernel
theorem dX10_keep_0 : decode cX10_keep 0 = .ok (.aload_n 0, 1) := by decide +kernel
theorem dX10_keep_1 : decode cX10_keep 1 = .ok (.iconst 0, 1) := by decide +kernel
theorem dX10_keep_2 : decode cX10_keep 2 = .ok (.putfield 154, 3) := by decide +kernel
theorem dX10_keep_5 : decode cX10_keep 5 = .ok (.aload_n 0, 1) := by decide +kernel
theorem dX10_keep_6 : decode cX10_keep 6 = .ok (.iconst 2, 1) := by decide +kernel
theorem dX10_keep_7 : decode cX10_keep 7 = .ok (.iconst 0, 1) := by decide +kernel
theorem dX10_keep_8 : decode cX10_keep 8 = .ok (.invokevirtual 404, 3) := by decide +kernel
theorem dX10_keep_11 : decode cX10_keep 11 = .ok (.aload_n 0, 1) := by decide +kernel
theorem dX10_keep_12 : decode cX10_keep 12 = .ok (.iconst 1, 1) := by decide +kernel
theorem dX10_keep_13 : decode cX10_keep 13 = .ok (.iconst 0, 1) := by decide +kernel
theorem dX10_keep_14 : decode cX10_keep 14 = .ok (.invokevirtual 497, 3) := by decide +kernel
theorem dX10_keep_17 : decode cX10_keep 17 = .ok (.aload_n 0, 1) := by decide +kernel
theorem dX10_keep_18 : decode cX10_keep 18 = .ok (.iconst 1, 1) := by decide +kernel
theorem dX10_keep_19 : decode cX10_keep 19 = .ok (.putfield 313, 3) := by decide +kernel
theorem dX10_keep_22 : decode cX10_keep 22 = .ok (.aload_n 0, 1) := by decide +kernel
theorem dX10_keep_23 : decode cX10_keep 23 = .ok (.getfield 69, 3) := by decide +kernel
theorem dX10_keep_26 : decode cX10_keep 26 = .ok (.iconst 0, 1) := by decide +kernel
theorem dX10_keep_27 : decode cX10_keep 27 = .ok (.iaload, 1) := by decide +kernel
theorem dX10_keep_28 : decode cX10_keep 28 = .ok (.ireturn, 1) := by decide +kernel
theorem dX10_back_0 : decode cX10_back 0 = .ok (.aload_n 0, 1) := by decide +kernel
theorem dX10_back_1 : decode cX10_back 1 = .ok (.iconst 0, 1) := by decide +kernel
theorem dX10_back_2 : decode cX10_back 2 = .ok (.putfield 154, 3) := by decide +kernel
theorem dX10_back_5 : decode cX10_back 5 = .ok (.aload_n 0, 1) := by decide +kernel
theorem dX10_back_6 : decode cX10_back 6 = .ok (.getfield 313, 3) := by decide +kernel
theorem dX10_back_9 : decode cX10_back 9 = .ok (.ifCond .ne 5, 3) := by decide +kernel
theorem dX10_back_12 : decode cX10_back 12 = .ok (.iconst (-1), 1) := by decide +kernel
theorem dX10_back_13 : decode cX10_back 13 = .ok (.ireturn, 1) := by decide +kernel
theorem dX10_back_14 : decode cX10_back 14 = .ok (.aload_n 0, 1) := by decide +kernel
theorem dX10_back_15 : decode cX10_back 15 = .ok (.iconst 0, 1) := by decide +kernel
theorem dX10_back_16 : decode cX10_back 16 = .ok (.iconst 2, 1) := by decide +kernel
theorem dX10_back_17 : decode cX10_back 17 = .ok (.invokevirtual 404, 3) := by decide +kernel
theorem dX10_back_20 : decode cX10_back 20 = .ok (.aload_n 0, 1) := by decide +kernel
theorem dX10_back_21 : decode cX10_back 21 = .ok (.iconst 0, 1) := by decide +kernel
theorem dX10_back_22 : decode cX10_back 22 = .ok (.iconst 1, 1) := by decide +kernel
theorem dX10_back_23 : decode cX10_back 23 = .ok (.invokevirtual 497, 3) := by decide +kernel
theorem dX10_back_26 : decode cX10_back 26 = .ok (.aload_n 0, 1) := by decide +kernel
theorem dX10_back_27 : decode cX10_back 27 = .ok (.iconst 0, 1) := by decide +kernel
theorem dX10_back_28 : decode cX10_back 28 = .ok (.putfield 317, 3) := by decide +kernel
theorem dX10_back_31 : decode cX10_back 31 = .ok (.aload_n 0, 1) := by decide +kernel
theorem dX10_back_32 : decode cX10_back 32 = .ok (.getfield 69, 3) := by decide +kernel
theorem dX10_back_35 : decode cX10_back 35 = .ok (.iconst 0, 1) := by decide +kernel
theorem dX10_back_36 : decode cX10_back 36 = .ok (.iaload, 1) := by decide +kernel
theorem dX10_back_37 : decode cX10_back 37 = .ok (.ireturn, 1) := by decide +kernel
theorem dX10_count_0 : decode cX10_count 0 = .ok (.aload_n 0, 1) := by decide +kernel
theorem dX10_count_1 : decode cX10_count 1 = .ok (.iconst 0, 1) := by decide +kernel
theorem dX10_count_2 : decode cX10_count 2 = .ok (.putfield 154, 3) := by decide +kernel
theorem dX10_count_5 : decode cX10_count 5 = .ok (.iconst 0, 1) := by decide +kernel
theorem dX10_count_6 : decode cX10_count 6 = .ok (.istore_n 2, 1) := by decide +kernel
theorem dX10_count_7 : decode cX10_count 7 = .ok (.iload_n 1, 1) := by decide +kernel
theorem dX10_count_8 : decode cX10_count 8 = .ok (.tableswitch 200 0 14 #[76, 83, 91, 98, 105, 111, 118, 125, 154, 159, 164, 169, 176, 183, 190], 76) := by decide +kernel
theorem dX10_count_84 : decode cX10_count 84 = .ok (.aload_n 0, 1) := by decide +kernel
theorem dX10_count_85 : decode cX10_count 85 = .ok (.getfield 13, 3) := by decide +kernel
theorem dX10_count_88 : decode cX10_count 88 = .ok (.iconst 0, 1) := by decide +kernel
theorem dX10_count_89 : decode cX10_count 89 = .ok (.iaload, 1) := by decide +kernel
theorem dX10_count_90 : decode cX10_count 90 = .ok (.ireturn, 1) := by decide +kernel
theorem dX10_count_91 : decode cX10_count 91 = .ok (.aload_n 0, 1) := by decide +kernel
theorem dX10_count_92 : decode cX10_count 92 = .ok (.getfield 13, 3) := by decide +kernel
theorem dX10_count_95 : decode cX10_count 95 = .ok (.bipush 7, 2) := by decide +kernel
theorem dX10_count_97 : decode cX10_count 97 = .ok (.iaload, 1) := by decide +kernel
theorem dX10_count_98 : decode cX10_count 98 = .ok (.ireturn, 1) := by decide +kernel
theorem dX10_count_99 : decode cX10_count 99 = .ok (.aload_n 0, 1) := by decide +kernel
theorem dX10_count_100 : decode cX10_count 100 = .ok (.getfield 69, 3) := by decide +kernel
theorem dX10_count_103 : decode cX10_count 103 = .ok (.iconst 0, 1) := by decide +kernel
theorem dX10_count_104 : decode cX10_count 104 = .ok (.iaload, 1) := by decide +kernel
theorem dX10_count_105 : decode cX10_count 105 = .ok (.ireturn, 1) := by decide +kernel
theorem dX10_count_106 : decode cX10_count 106 = .ok (.aload_n 0, 1) := by decide +kernel
theorem dX10_count_107 : decode cX10_count 107 = .ok (.getfield 81, 3) := by decide +kernel
theorem dX10_count_110 : decode cX10_count 110 = .ok (.iconst 0, 1) := by decide +kernel
theorem dX10_count_111 : decode cX10_count 111 = .ok (.iaload, 1) := by decide +kernel
theorem dX10_count_112 : decode cX10_count 112 = .ok (.ireturn, 1) := by decide +kernel
theorem dX10_count_113 : decode cX10_count 113 = .ok (.aload_n 0, 1) := by decide +kernel
theorem dX10_count_114 : decode cX10_count 114 = .ok (.iconst 0, 1) := by decide +kernel
theorem dX10_count_115 : decode cX10_count 115 = .ok (.invokevirtual 491, 3) := by decide +kernel
theorem dX10_count_118 : decode cX10_count 118 = .ok (.ireturn, 1) := by decide +kernel
theorem dX10_count_119 : decode cX10_count 119 = .ok (.aload_n 0, 1) := by decide +kernel
theorem dX10_count_120 : decode cX10_count 120 = .ok (.iconst 0, 1) := by decide +kernel
theorem dX10_count_121 : decode cX10_count 121 = .ok (.iconst 3, 1) := by decide +kernel
theorem dX10_count_122 : decode cX10_count 122 = .ok (.invokevirtual 494, 3) := by decide +kernel
theorem dX10_count_125 : decode cX10_count 125 = .ok (.ireturn, 1) := by decide +kernel
theorem dX10_count_126 : decode cX10_count 126 = .ok (.aload_n 0, 1) := by decide +kernel
theorem dX10_count_127 : decode cX10_count 127 = .ok (.getfield 72, 3) := by decide +kernel
theorem dX10_count_130 : decode cX10_count 130 = .ok (.iconst 0, 1) := by decide +kernel
theorem dX10_count_131 : decode cX10_count 131 = .ok (.iaload, 1) := by decide +kernel
theorem dX10_count_132 : decode cX10_count 132 = .ok (.ireturn, 1) := by decide +kernel
theorem dX10_count_133 : decode cX10_count 133 = .ok (.iconst 0, 1) := by decide +kernel
theorem dX10_count_134 : decode cX10_count 134 = .ok (.istore_n 3, 1) := by decide +kernel
theorem dX10_count_135 : decode cX10_count 135 = .ok (.iload_n 3, 1) := by decide +kernel
theorem dX10_count_136 : decode cX10_count 136 = .ok (.aload_n 0, 1) := by decide +kernel
theorem dX10_count_137 : decode cX10_count 137 = .ok (.getfield 13, 3) := by decide +kernel
theorem dX10_count_140 : decode cX10_count 140 = .ok (.iconst 0, 1) := by decide +kernel
theorem dX10_count_141 : decode cX10_count 141 = .ok (.iaload, 1) := by decide +kernel
theorem dX10_count_142 : decode cX10_count 142 = .ok (.if_icmp .ge 18, 3) := by decide +kernel
theorem dX10_count_145 : decode cX10_count 145 = .ok (.iload_n 2, 1) := by decide +kernel
theorem dX10_count_146 : decode cX10_count 146 = .ok (.aload_n 0, 1) := by decide +kernel
theorem dX10_count_147 : decode cX10_count 147 = .ok (.getfield 96, 3) := by decide +kernel
theorem dX10_count_150 : decode cX10_count 150 = .ok (.iload_n 3, 1) := by decide +kernel
theorem dX10_count_151 : decode cX10_count 151 = .ok (.iaload, 1) := by decide +kernel
theorem dX10_count_152 : decode cX10_count 152 = .ok (.iadd, 1) := by decide +kernel
theorem dX10_count_153 : decode cX10_count 153 = .ok (.istore_n 2, 1) := by decide +kernel
theorem dX10_count_154 : decode cX10_count 154 = .ok (.iinc 3 1, 3) := by decide +kernel
theorem dX10_count_157 : decode cX10_count 157 = .ok (.goto (-22), 3) := by decide +kernel
theorem dX10_count_160 : decode cX10_count 160 = .ok (.iload_n 2, 1) := by decide +kernel
theorem dX10_count_161 : decode cX10_count 161 = .ok (.ireturn, 1) := by decide +kernel
theorem dX10_count_162 : decode cX10_count 162 = .ok (.aload_n 0, 1) := by decide +kernel
theorem dX10_count_163 : decode cX10_count 163 = .ok (.getfield 310, 3) := by decide +kernel
theorem dX10_count_166 : decode cX10_count 166 = .ok (.ireturn, 1) := by decide +kernel
theorem dX10_count_167 : decode cX10_count 167 = .ok (.aload_n 0, 1) := by decide +kernel
theorem dX10_count_168 : decode cX10_count 168 = .ok (.invokevirtual 474, 3) := by decide +kernel
theorem dX10_count_171 : decode cX10_count 171 = .ok (.ireturn, 1) := by decide +kernel
theorem dX10_count_172 : decode cX10_count 172 = .ok (.aload_n 0, 1) := by decide +kernel
theorem dX10_count_173 : decode cX10_count 173 = .ok (.getfield 317, 3) := by decide +kernel
theorem dX10_count_176 : decode cX10_count 176 = .ok (.ireturn, 1) := by decide +kernel
theorem dX10_count_177 : decode cX10_count 177 = .ok (.aload_n 0, 1) := by decide +kernel
theorem dX10_count_178 : decode cX10_count 178 = .ok (.getfield 114, 3) := by decide +kernel
theorem dX10_count_181 : decode cX10_count 181 = .ok (.iconst 0, 1) := by decide +kernel
theorem dX10_count_182 : decode cX10_count 182 = .ok (.iaload, 1) := by decide +kernel
theorem dX10_count_183 : decode cX10_count 183 = .ok (.ireturn, 1) := by decide +kernel
theorem dX10_count_184 : decode cX10_count 184 = .ok (.aload_n 0, 1) := by decide +kernel
theorem dX10_count_185 : decode cX10_count 185 = .ok (.getfield 114, 3) := by decide +kernel
theorem dX10_count_188 : decode cX10_count 188 = .ok (.iconst 1, 1) := by decide +kernel
theorem dX10_count_189 : decode cX10_count 189 = .ok (.iaload, 1) := by decide +kernel
theorem dX10_count_190 : decode cX10_count 190 = .ok (.ireturn, 1) := by decide +kernel
theorem dX10_count_191 : decode cX10_count 191 = .ok (.aload_n 0, 1) := by decide +kernel
theorem dX10_count_192 : decode cX10_count 192 = .ok (.getfield 114, 3) := by decide +kernel
theorem dX10_count_195 : decode cX10_count 195 = .ok (.iconst 2, 1) := by decide +kernel
theorem dX10_count_196 : decode cX10_count 196 = .ok (.iaload, 1) := by decide +kernel
theorem dX10_count_197 : decode cX10_count 197 = .ok (.ireturn, 1) := by decide +kernel
theorem dX10_count_198 : decode cX10_count 198 = .ok (.aload_n 0, 1) := by decide +kernel
theorem dX10_count_199 : decode cX10_count 199 = .ok (.getfield 78, 3) := by decide +kernel
theorem dX10_count_202 : decode cX10_count 202 = .ok (.iconst 0, 1) := by decide +kernel
theorem dX10_count_203 : decode cX10_count 203 = .ok (.iaload, 1) := by decide +kernel
theorem dX10_count_204 : decode cX10_count 204 = .ok (.invokestatic 448, 3) := by decide +kernel
theorem dX10_count_207 : decode cX10_count 207 = .ok (.ireturn, 1) := by decide +kernel
theorem dX10_count_208 : decode cX10_count 208 = .ok (.iconst (-1), 1) := by decide +kernel
theorem dX10_count_209 : decode cX10_count 209 = .ok (.ireturn, 1) := by decide +kernel
theorem dJ6_bitCount_0f7a4_0 : decode cJ6_bitCount_0f7a4 0 = .ok (.iload_n 0, 1) := by decide +kernel
theorem dJ6_bitCount_0f7a4_1 : decode cJ6_bitCount_0f7a4 1 = .ok (.iload_n 0, 1) := by decide +kernel
theorem dJ6_bitCount_0f7a4_2 : decode cJ6_bitCount_0f7a4 2 = .ok (.iconst 1, 1) := by decide +kernel
theorem dJ6_bitCount_0f7a4_3 : decode cJ6_bitCount_0f7a4 3 = .ok (.iushr, 1) := by decide +kernel
theorem dJ6_bitCount_0f7a4_4 : decode cJ6_bitCount_0f7a4 4 = .ok (.ldc_w 265, 3) := by decide +kernel
theorem dJ6_bitCount_0f7a4_7 : decode cJ6_bitCount_0f7a4 7 = .ok (.iand, 1) := by decide +kernel
theorem dJ6_bitCount_0f7a4_8 : decode cJ6_bitCount_0f7a4 8 = .ok (.isub, 1) := by decide +kernel
theorem dJ6_bitCount_0f7a4_9 : decode cJ6_bitCount_0f7a4 9 = .ok (.istore_n 0, 1) := by decide +kernel
theorem dJ6_bitCount_0f7a4_10 : decode cJ6_bitCount_0f7a4 10 = .ok (.iload_n 0, 1) := by decide +kernel
theorem dJ6_bitCount_0f7a4_11 : decode cJ6_bitCount_0f7a4 11 = .ok (.ldc_w 266, 3) := by decide +kernel
theorem dJ6_bitCount_0f7a4_14 : decode cJ6_bitCount_0f7a4 14 = .ok (.iand, 1) := by decide +kernel
theorem dJ6_bitCount_0f7a4_15 : decode cJ6_bitCount_0f7a4 15 = .ok (.iload_n 0, 1) := by decide +kernel
theorem dJ6_bitCount_0f7a4_16 : decode cJ6_bitCount_0f7a4 16 = .ok (.iconst 2, 1) := by decide +kernel
theorem dJ6_bitCount_0f7a4_17 : decode cJ6_bitCount_0f7a4 17 = .ok (.iushr, 1) := by decide +kernel
theorem dJ6_bitCount_0f7a4_18 : decode cJ6_bitCount_0f7a4 18 = .ok (.ldc_w 266, 3) := by decide +kernel
theorem dJ6_bitCount_0f7a4_21 : decode cJ6_bitCount_0f7a4 21 = .ok (.iand, 1) := by decide +kernel
theorem dJ6_bitCount_0f7a4_22 : decode cJ6_bitCount_0f7a4 22 = .ok (.iadd, 1) := by decide +kernel
theorem dJ6_bitCount_0f7a4_23 : decode cJ6_bitCount_0f7a4 23 = .ok (.istore_n 0, 1) := by decide +kernel
theorem dJ6_bitCount_0f7a4_24 : decode cJ6_bitCount_0f7a4 24 = .ok (.iload_n 0, 1) := by decide +kernel
theorem dJ6_bitCount_0f7a4_25 : decode cJ6_bitCount_0f7a4 25 = .ok (.iload_n 0, 1) := by decide +kernel
theorem dJ6_bitCount_0f7a4_26 : decode cJ6_bitCount_0f7a4 26 = .ok (.iconst 4, 1) := by decide +kernel
theorem dJ6_bitCount_0f7a4_27 : decode cJ6_bitCount_0f7a4 27 = .ok (.iushr, 1) := by decide +kernel
theorem dJ6_bitCount_0f7a4_28 : decode cJ6_bitCount_0f7a4 28 = .ok (.iadd, 1) := by decide +kernel
theorem dJ6_bitCount_0f7a4_29 : decode cJ6_bitCount_0f7a4 29 = .ok (.ldc_w 267, 3) := by decide +kernel
theorem dJ6_bitCount_0f7a4_32 : decode cJ6_bitCount_0f7a4 32 = .ok (.iand, 1) := by decide +kernel
theorem dJ6_bitCount_0f7a4_33 : decode cJ6_bitCount_0f7a4 33 = .ok (.istore_n 0, 1) := by decide +kernel
theorem dJ6_bitCount_0f7a4_34 : decode cJ6_bitCount_0f7a4 34 = .ok (.iload_n 0, 1) := by decide +kernel
theorem dJ6_bitCount_0f7a4_35 : decode cJ6_bitCount_0f7a4 35 = .ok (.iload_n 0, 1) := by decide +kernel
theorem dJ6_bitCount_0f7a4_36 : decode cJ6_bitCount_0f7a4 36 = .ok (.bipush 8, 2) := by decide +kernel
theorem dJ6_bitCount_0f7a4_38 : decode cJ6_bitCount_0f7a4 38 = .ok (.iushr, 1) := by decide +kernel
theorem dJ6_bitCount_0f7a4_39 : decode cJ6_bitCount_0f7a4 39 = .ok (.iadd, 1) := by decide +kernel
theorem dJ6_bitCount_0f7a4_40 : decode cJ6_bitCount_0f7a4 40 = .ok (.istore_n 0, 1) := by decide +kernel
theorem dJ6_bitCount_0f7a4_41 : decode cJ6_bitCount_0f7a4 41 = .ok (.iload_n 0, 1) := by decide +kernel
theorem dJ6_bitCount_0f7a4_42 : decode cJ6_bitCount_0f7a4 42 = .ok (.iload_n 0, 1) := by decide +kernel
theorem dJ6_bitCount_0f7a4_43 : decode cJ6_bitCount_0f7a4 43 = .ok (.bipush 16, 2) := by decide +kernel
theorem dJ6_bitCount_0f7a4_45 : decode cJ6_bitCount_0f7a4 45 = .ok (.iushr, 1) := by decide +kernel
theorem dJ6_bitCount_0f7a4_46 : decode cJ6_bitCount_0f7a4 46 = .ok (.iadd, 1) := by decide +kernel
theorem dJ6_bitCount_0f7a4_47 : decode cJ6_bitCount_0f7a4 47 = .ok (.istore_n 0, 1) := by decide +kernel
theorem dJ6_bitCount_0f7a4_48 : decode cJ6_bitCount_0f7a4 48 = .ok (.iload_n 0, 1) := by decide +kernel
theorem dJ6_bitCount_0f7a4_49 : decode cJ6_bitCount_0f7a4 49 = .ok (.bipush 63, 2) := by decide +kernel
theorem dJ6_bitCount_0f7a4_51 : decode cJ6_bitCount_0f7a4 51 = .ok (.iand, 1) := by decide +kernel
theorem dJ6_bitCount_0f7a4_52 : decode cJ6_bitCount_0f7a4 52 = .ok (.ireturn, 1) := by decide +kernel
theorem dJ9_abs_067f4_0 : decode cJ9_abs_067f4 0 = .ok (.lload_n 0, 1) := by decide +kernel
theorem dJ9_abs_067f4_1 : decode cJ9_abs_067f4 1 = .ok (.lconst 0, 1) := by decide +kernel
theorem dJ9_abs_067f4_2 : decode cJ9_abs_067f4 2 = .ok (.lcmp, 1) := by decide +kernel
theorem dJ9_abs_067f4_3 : decode cJ9_abs_067f4 3 = .ok (.ifCond .ge 8, 3) := by decide +kernel
theorem dJ9_abs_067f4_6 : decode cJ9_abs_067f4 6 = .ok (.lload_n 0, 1) := by decide +kernel
theorem dJ9_abs_067f4_7 : decode cJ9_abs_067f4 7 = .ok (.lneg, 1) := by decide +kernel
theorem dJ9_abs_067f4_8 : decode cJ9_abs_067f4 8 = .ok (.goto 4, 3) := by decide +kernel
theorem dJ9_abs_067f4_11 : decode cJ9_abs_067f4 11 = .ok (.lload_n 0, 1) := by decide +kernel
theorem dJ9_abs_067f4_12 : decode cJ9_abs_067f4 12 = .ok (.lreturn, 1) := by decide +kernel
theorem dJ9_max_7cf53_0 : decode cJ9_max_7cf53 0 = .ok (.iload_n 0, 1) := by decide +kernel
theorem dJ9_max_7cf53_1 : decode cJ9_max_7cf53 1 = .ok (.iload_n 1, 1) := by decide +kernel
theorem dJ9_max_7cf53_2 : decode cJ9_max_7cf53 2 = .ok (.if_icmp .lt 7, 3) := by decide +kernel
theorem dJ9_max_7cf53_5 : decode cJ9_max_7cf53 5 = .ok (.iload_n 0, 1) := by decide +kernel
theorem dJ9_max_7cf53_6 : decode cJ9_max_7cf53 6 = .ok (.goto 4, 3) := by decide +kernel
theorem dJ9_max_7cf53_9 : decode cJ9_max_7cf53 9 = .ok (.iload_n 1, 1) := by decide +kernel
theorem dJ9_max_7cf53_10 : decode cJ9_max_7cf53 10 = .ok (.ireturn, 1) := by decide +kernel
theorem dJ9_max_f86c9_0 : decode cJ9_max_f86c9 0 = .ok (.lload_n 0, 1) := by decide +kernel
theorem dJ9_max_f86c9_1 : decode cJ9_max_f86c9 1 = .ok (.lload_n 2, 1) := by decide +kernel
theorem dJ9_max_f86c9_2 : decode cJ9_max_f86c9 2 = .ok (.lcmp, 1) := by decide +kernel
theorem dJ9_max_f86c9_3 : decode cJ9_max_f86c9 3 = .ok (.ifCond .lt 7, 3) := by decide +kernel
theorem dJ9_max_f86c9_6 : decode cJ9_max_f86c9 6 = .ok (.lload_n 0, 1) := by decide +kernel
theorem dJ9_max_f86c9_7 : decode cJ9_max_f86c9 7 = .ok (.goto 4, 3) := by decide +kernel
theorem dJ9_max_f86c9_10 : decode cJ9_max_f86c9 10 = .ok (.lload_n 2, 1) := by decide +kernel
theorem dJ9_max_f86c9_11 : decode cJ9_max_f86c9 11 = .ok (.lreturn, 1) := by decide +kernel
theorem dJ9_min_7cf53_0 : decode cJ9_min_7cf53 0 = .ok (.iload_n 0, 1) := by decide +kernel
theorem dJ9_min_7cf53_1 : decode cJ9_min_7cf53 1 = .ok (.iload_n 1, 1) := by decide +kernel
theorem dJ9_min_7cf53_2 : decode cJ9_min_7cf53 2 = .ok (.if_icmp .gt 7, 3) := by decide +kernel
theorem dJ9_min_7cf53_5 : decode cJ9_min_7cf53 5 = .ok (.iload_n 0, 1) := by decide +kernel
theorem dJ9_min_7cf53_6 : decode cJ9_min_7cf53 6 = .ok (.goto 4, 3) := by decide +kernel
theorem dJ9_min_7cf53_9 : decode cJ9_min_7cf53 9 = .ok (.iload_n 1, 1) := by decide +kernel
theorem dJ9_min_7cf53_10 : decode cJ9_min_7cf53 10 = .ok (.ireturn, 1) := by decide +kernel
theorem dJ9_min_f86c9_0 : decode cJ9_min_f86c9 0 = .ok (.lload_n 0, 1) := by decide +kernel
theorem dJ9_min_f86c9_1 : decode cJ9_min_f86c9 1 = .ok (.lload_n 2, 1) := by decide +kernel
theorem dJ9_min_f86c9_2 : decode cJ9_min_f86c9 2 = .ok (.lcmp, 1) := by decide +kernel
theorem dJ9_min_f86c9_3 : decode cJ9_min_f86c9 3 = .ok (.ifCond .gt 7, 3) := by decide +kernel
theorem dJ9_min_f86c9_6 : decode cJ9_min_f86c9 6 = .ok (.lload_n 0, 1) := by decide +kernel
theorem dJ9_min_f86c9_7 : decode cJ9_min_f86c9 7 = .ok (.goto 4, 3) := by decide +kernel
theorem dJ9_min_f86c9_10 : decode cJ9_min_f86c9 10 = .ok (.lload_n 2, 1) := by decide +kernel
theorem dJ9_min_f86c9_11 : decode cJ9_min_f86c9 11 = .ok (.lreturn, 1) := by decide +kernel
theorem dJ0_length_8abf5_0 : decode cJ0_length_8abf5 0 = .ok (.aload_n 0, 1) := by decide +kernel
theorem dJ0_length_8abf5_1 : decode cJ0_length_8abf5 1 = .ok (.getfield 9, 3) := by decide +kernel
theorem dJ0_length_8abf5_4 : decode cJ0_length_8abf5 4 = .ok (.arraylength, 1) := by decide +kernel
theorem dJ0_length_8abf5_5 : decode cJ0_length_8abf5 5 = .ok (.aload_n 0, 1) := by decide +kernel
theorem dJ0_length_8abf5_6 : decode cJ0_length_8abf5 6 = .ok (.invokevirtual 335, 3) := by decide +kernel
theorem dJ0_length_8abf5_9 : decode cJ0_length_8abf5 9 = .ok (.ishr, 1) := by decide +kernel
theorem dJ0_length_8abf5_10 : decode cJ0_length_8abf5 10 = .ok (.ireturn, 1) := by decide +kernel
theorem dJ0_charAt_5068e_0 : decode cJ0_charAt_5068e 0 = .ok (.aload_n 0, 1) := by decide +kernel
theorem dJ0_charAt_5068e_1 : decode cJ0_charAt_5068e 1 = .ok (.invokevirtual 492, 3) := by decide +kernel
theorem dJ0_charAt_5068e_4 : decode cJ0_charAt_5068e 4 = .ok (.ifCond .eq 12, 3) := by decide +kernel
theorem dJ0_charAt_5068e_7 : decode cJ0_charAt_5068e 7 = .ok (.aload_n 0, 1) := by decide +kernel
theorem dJ0_charAt_5068e_8 : decode cJ0_charAt_5068e 8 = .ok (.getfield 9, 3) := by decide +kernel
theorem dJ0_charAt_5068e_11 : decode cJ0_charAt_5068e 11 = .ok (.iload_n 1, 1) := by decide +kernel
theorem dJ0_charAt_5068e_12 : decode cJ0_charAt_5068e 12 = .ok (.invokestatic 495, 3) := by decide +kernel
theorem dJ0_charAt_5068e_15 : decode cJ0_charAt_5068e 15 = .ok (.ireturn, 1) := by decide +kernel
theorem dJ0_charAt_5068e_16 : decode cJ0_charAt_5068e 16 = .ok (.aload_n 0, 1) := by decide +kernel
theorem dJ0_charAt_5068e_17 : decode cJ0_charAt_5068e 17 = .ok (.getfield 9, 3) := by decide +kernel
theorem dJ0_charAt_5068e_20 : decode cJ0_charAt_5068e 20 = .ok (.iload_n 1, 1) := by decide +kernel
theorem dJ0_charAt_5068e_21 : decode cJ0_charAt_5068e 21 = .ok (.invokestatic 498, 3) := by decide +kernel
theorem dJ0_charAt_5068e_24 : decode cJ0_charAt_5068e 24 = .ok (.ireturn, 1) := by decide +kernel
theorem dJ0_coder_7d493_0 : decode cJ0_coder_7d493 0 = .ok (.getstatic 38, 3) := by decide +kernel
theorem dJ0_coder_7d493_3 : decode cJ0_coder_7d493 3 = .ok (.ifCond .eq 10, 3) := by decide +kernel
theorem dJ0_coder_7d493_6 : decode cJ0_coder_7d493 6 = .ok (.aload_n 0, 1) := by decide +kernel
theorem dJ0_coder_7d493_7 : decode cJ0_coder_7d493 7 = .ok (.getfield 15, 3) := by decide +kernel
theorem dJ0_coder_7d493_10 : decode cJ0_coder_7d493 10 = .ok (.goto 4, 3) := by decide +kernel
theorem dJ0_coder_7d493_13 : decode cJ0_coder_7d493 13 = .ok (.iconst 1, 1) := by decide +kernel
theorem dJ0_coder_7d493_14 : decode cJ0_coder_7d493 14 = .ok (.ireturn, 1) := by decide +kernel
theorem dJ0_isLatin1_aae02_0 : decode cJ0_isLatin1_aae02 0 = .ok (.getstatic 38, 3) := by decide +kernel
theorem dJ0_isLatin1_aae02_3 : decode cJ0_isLatin1_aae02 3 = .ok (.ifCond .eq 14, 3) := by decide +kernel
theorem dJ0_isLatin1_aae02_6 : decode cJ0_isLatin1_aae02 6 = .ok (.aload_n 0, 1) := by decide +kernel
theorem dJ0_isLatin1_aae02_7 : decode cJ0_isLatin1_aae02 7 = .ok (.getfield 15, 3) := by decide +kernel
theorem dJ0_isLatin1_aae02_10 : decode cJ0_isLatin1_aae02 10 = .ok (.ifCond .ne 7, 3) := by decide +kernel
theorem dJ0_isLatin1_aae02_13 : decode cJ0_isLatin1_aae02 13 = .ok (.iconst 1, 1) := by decide +kernel
theorem dJ0_isLatin1_aae02_14 : decode cJ0_isLatin1_aae02 14 = .ok (.goto 4, 3) := by decide +kernel
theorem dJ0_isLatin1_aae02_17 : decode cJ0_isLatin1_aae02 17 = .ok (.iconst 0, 1) := by decide +kernel
theorem dJ0_isLatin1_aae02_18 : decode cJ0_isLatin1_aae02 18 = .ok (.ireturn, 1) := by decide +kernel
theorem dJ0_checkIndex_df160_0 : decode cJ0_checkIndex_df160 0 = .ok (.iload_n 0, 1) := by decide +kernel
theorem dJ0_checkIndex_df160_1 : decode cJ0_checkIndex_df160 1 = .ok (.iload_n 1, 1) := by decide +kernel
theorem dJ0_checkIndex_df160_2 : decode cJ0_checkIndex_df160 2 = .ok (.getstatic 1053, 3) := by decide +kernel
theorem dJ0_checkIndex_df160_5 : decode cJ0_checkIndex_df160 5 = .ok (.invokestatic 1059, 3) := by decide +kernel
theorem dJ0_checkIndex_df160_8 : decode cJ0_checkIndex_df160 8 = .ok (.pop, 1) := by decide +kernel
theorem dJ0_checkIndex_df160_9 : decode cJ0_checkIndex_df160 9 = .ok (.return_, 1) := by decide +kernel
theorem dJ1_charAt_3b067_0 : decode cJ1_charAt_3b067 0 = .ok (.iload_n 1, 1) := by decide +kernel
theorem dJ1_charAt_3b067_1 : decode cJ1_charAt_3b067 1 = .ok (.aload_n 0, 1) := by decide +kernel
theorem dJ1_charAt_3b067_2 : decode cJ1_charAt_3b067 2 = .ok (.arraylength, 1) := by decide +kernel
theorem dJ1_charAt_3b067_3 : decode cJ1_charAt_3b067 3 = .ok (.invokestatic 9, 3) := by decide +kernel
theorem dJ1_charAt_3b067_6 : decode cJ1_charAt_3b067 6 = .ok (.aload_n 0, 1) := by decide +kernel
theorem dJ1_charAt_3b067_7 : decode cJ1_charAt_3b067 7 = .ok (.iload_n 1, 1) := by decide +kernel
theorem dJ1_charAt_3b067_8 : decode cJ1_charAt_3b067 8 = .ok (.baload, 1) := by decide +kernel
theorem dJ1_charAt_3b067_9 : decode cJ1_charAt_3b067 9 = .ok (.sipush 255, 3) := by decide +kernel
theorem dJ1_charAt_3b067_12 : decode cJ1_charAt_3b067 12 = .ok (.iand, 1) := by decide +kernel
theorem dJ1_charAt_3b067_13 : decode cJ1_charAt_3b067 13 = .ok (.i2c, 1) := by decide +kernel
theorem dJ1_charAt_3b067_14 : decode cJ1_charAt_3b067 14 = .ok (.ireturn, 1) := by decide +kernel
theorem dJ2_getChar_3b067_0 : decode cJ2_getChar_3b067 0 = .ok (.getstatic 44, 3) := by decide +kernel
theorem dJ2_getChar_3b067_3 : decode cJ2_getChar_3b067 3 = .ok (.ifCond .ne 25, 3) := by decide +kernel
theorem dJ2_getChar_3b067_6 : decode cJ2_getChar_3b067 6 = .ok (.iload_n 1, 1) := by decide +kernel
theorem dJ2_getChar_3b067_7 : decode cJ2_getChar_3b067 7 = .ok (.ifCond .lt 11, 3) := by decide +kernel
theorem dJ2_getChar_3b067_10 : decode cJ2_getChar_3b067 10 = .ok (.iload_n 1, 1) := by decide +kernel
theorem dJ2_getChar_3b067_11 : decode cJ2_getChar_3b067 11 = .ok (.aload_n 0, 1) := by decide +kernel
theorem dJ2_getChar_3b067_12 : decode cJ2_getChar_3b067 12 = .ok (.invokestatic 48, 3) := by decide +kernel
theorem dJ2_getChar_3b067_15 : decode cJ2_getChar_3b067 15 = .ok (.if_icmp .lt 13, 3) := by decide +kernel
theorem dJ2_getChar_3b067_18 : decode cJ2_getChar_3b067 18 = .ok (.new 52, 3) := by decide +kernel
theorem dJ2_getChar_3b067_21 : decode cJ2_getChar_3b067 21 = .ok (.dup, 1) := by decide +kernel
theorem dJ2_getChar_3b067_22 : decode cJ2_getChar_3b067 22 = .ok (.ldc 54, 2) := by decide +kernel
theorem dJ2_getChar_3b067_24 : decode cJ2_getChar_3b067 24 = .ok (.invokespecial 56, 3) := by decide +kernel
theorem dJ2_getChar_3b067_27 : decode cJ2_getChar_3b067 27 = .ok (.athrow, 1) := by decide +kernel
theorem dJ2_getChar_3b067_28 : decode cJ2_getChar_3b067 28 = .ok (.iload_n 1, 1) := by decide +kernel
theorem dJ2_getChar_3b067_29 : decode cJ2_getChar_3b067 29 = .ok (.iconst 1, 1) := by decide +kernel
theorem dJ2_getChar_3b067_30 : decode cJ2_getChar_3b067 30 = .ok (.ishl, 1) := by decide +kernel
theorem dJ2_getChar_3b067_31 : decode cJ2_getChar_3b067 31 = .ok (.istore_n 1, 1) := by decide +kernel
theorem dJ2_getChar_3b067_32 : decode cJ2_getChar_3b067 32 = .ok (.aload_n 0, 1) := by decide +kernel
theorem dJ2_getChar_3b067_33 : decode cJ2_getChar_3b067 33 = .ok (.iload_n 1, 1) := by decide +kernel
theorem dJ2_getChar_3b067_34 : decode cJ2_getChar_3b067 34 = .ok (.iinc 1 1, 3) := by decide +kernel
theorem dJ2_getChar_3b067_37 : decode cJ2_getChar_3b067 37 = .ok (.baload, 1) := by decide +kernel
theorem dJ2_getChar_3b067_38 : decode cJ2_getChar_3b067 38 = .ok (.sipush 255, 3) := by decide +kernel
theorem dJ2_getChar_3b067_41 : decode cJ2_getChar_3b067 41 = .ok (.iand, 1) := by decide +kernel
theorem dJ2_getChar_3b067_42 : decode cJ2_getChar_3b067 42 = .ok (.getstatic 59, 3) := by decide +kernel
theorem dJ2_getChar_3b067_45 : decode cJ2_getChar_3b067 45 = .ok (.ishl, 1) := by decide +kernel
theorem dJ2_getChar_3b067_46 : decode cJ2_getChar_3b067 46 = .ok (.aload_n 0, 1) := by decide +kernel
theorem dJ2_getChar_3b067_47 : decode cJ2_getChar_3b067 47 = .ok (.iload_n 1, 1) := by decide +kernel
theorem dJ2_getChar_3b067_48 : decode cJ2_getChar_3b067 48 = .ok (.baload, 1) := by decide +kernel
theorem dJ2_getChar_3b067_49 : decode cJ2_getChar_3b067 49 = .ok (.sipush 255, 3) := by decide +kernel
theorem dJ2_getChar_3b067_52 : decode cJ2_getChar_3b067 52 = .ok (.iand, 1) := by decide +kernel
theorem dJ2_getChar_3b067_53 : decode cJ2_getChar_3b067 53 = .ok (.getstatic 63, 3) := by decide +kernel
theorem dJ2_getChar_3b067_56 : decode cJ2_getChar_3b067 56 = .ok (.ishl, 1) := by decide +kernel
theorem dJ2_getChar_3b067_57 : decode cJ2_getChar_3b067 57 = .ok (.ior, 1) := by decide +kernel
theorem dJ2_getChar_3b067_58 : decode cJ2_getChar_3b067 58 = .ok (.i2c, 1) := by decide +kernel
theorem dJ2_getChar_3b067_59 : decode cJ2_getChar_3b067 59 = .ok (.ireturn, 1) := by decide +kernel
theorem dJ2_length_9d52b_0 : decode cJ2_length_9d52b 0 = .ok (.aload_n 0, 1) := by decide +kernel
theorem dJ2_length_9d52b_1 : decode cJ2_length_9d52b 1 = .ok (.arraylength, 1) := by decide +kernel
theorem dJ2_length_9d52b_2 : decode cJ2_length_9d52b 2 = .ok (.iconst 1, 1) := by decide +kernel
theorem dJ2_length_9d52b_3 : decode cJ2_length_9d52b 3 = .ok (.ishr, 1) := by decide +kernel
theorem dJ2_length_9d52b_4 : decode cJ2_length_9d52b 4 = .ok (.ireturn, 1) := by decide +kernel
theorem dJ2_charAt_3b067_0 : decode cJ2_charAt_3b067 0 = .ok (.iload_n 1, 1) := by decide +kernel
theorem dJ2_charAt_3b067_1 : decode cJ2_charAt_3b067 1 = .ok (.aload_n 0, 1) := by decide +kernel
theorem dJ2_charAt_3b067_2 : decode cJ2_charAt_3b067 2 = .ok (.invokestatic 67, 3) := by decide +kernel
theorem dJ2_charAt_3b067_5 : decode cJ2_charAt_3b067 5 = .ok (.aload_n 0, 1) := by decide +kernel
theorem dJ2_charAt_3b067_6 : decode cJ2_charAt_3b067 6 = .ok (.iload_n 1, 1) := by decide +kernel
theorem dJ2_charAt_3b067_7 : decode cJ2_charAt_3b067 7 = .ok (.invokestatic 71, 3) := by decide +kernel
theorem dJ2_charAt_3b067_10 : decode cJ2_charAt_3b067 10 = .ok (.ireturn, 1) := by decide +kernel
theorem dJ2_checkIndex_2214a_0 : decode cJ2_checkIndex_2214a 0 = .ok (.iload_n 0, 1) := by decide +kernel
theorem dJ2_checkIndex_2214a_1 : decode cJ2_checkIndex_2214a 1 = .ok (.aload_n 1, 1) := by decide +kernel
theorem dJ2_checkIndex_2214a_2 : decode cJ2_checkIndex_2214a 2 = .ok (.invokestatic 48, 3) := by decide +kernel
theorem dJ2_checkIndex_2214a_5 : decode cJ2_checkIndex_2214a 5 = .ok (.invokestatic 414, 3) := by decide +kernel
theorem dJ2_checkIndex_2214a_8 : decode cJ2_checkIndex_2214a 8 = .ok (.return_, 1) := by decide +kernel
theorem dJ7_fill_53178_0 : decode cJ7_fill_53178 0 = .ok (.iconst 0, 1) := by decide +kernel
theorem dJ7_fill_53178_1 : decode cJ7_fill_53178 1 = .ok (.istore_n 2, 1) := by decide +kernel
theorem dJ7_fill_53178_2 : decode cJ7_fill_53178 2 = .ok (.aload_n 0, 1) := by decide +kernel
theorem dJ7_fill_53178_3 : decode cJ7_fill_53178 3 = .ok (.arraylength, 1) := by decide +kernel
theorem dJ7_fill_53178_4 : decode cJ7_fill_53178 4 = .ok (.istore_n 3, 1) := by decide +kernel
theorem dJ7_fill_53178_5 : decode cJ7_fill_53178 5 = .ok (.iload_n 2, 1) := by decide +kernel
theorem dJ7_fill_53178_6 : decode cJ7_fill_53178 6 = .ok (.iload_n 3, 1) := by decide +kernel
theorem dJ7_fill_53178_7 : decode cJ7_fill_53178 7 = .ok (.if_icmp .ge 13, 3) := by decide +kernel
theorem dJ7_fill_53178_10 : decode cJ7_fill_53178 10 = .ok (.aload_n 0, 1) := by decide +kernel
theorem dJ7_fill_53178_11 : decode cJ7_fill_53178 11 = .ok (.iload_n 2, 1) := by decide +kernel
theorem dJ7_fill_53178_12 : decode cJ7_fill_53178 12 = .ok (.iload_n 1, 1) := by decide +kernel
theorem dJ7_fill_53178_13 : decode cJ7_fill_53178 13 = .ok (.iastore, 1) := by decide +kernel
theorem dJ7_fill_53178_14 : decode cJ7_fill_53178 14 = .ok (.iinc 2 1, 3) := by decide +kernel
theorem dJ7_fill_53178_17 : decode cJ7_fill_53178 17 = .ok (.goto (-12), 3) := by decide +kernel
theorem dJ7_fill_53178_20 : decode cJ7_fill_53178 20 = .ok (.return_, 1) := by decide +kernel
theorem dJ3_checkIndex_8e157_0 : decode cJ3_checkIndex_8e157 0 = .ok (.iload_n 0, 1) := by decide +kernel
theorem dJ3_checkIndex_8e157_1 : decode cJ3_checkIndex_8e157 1 = .ok (.ifCond .lt 8, 3) := by decide +kernel
theorem dJ3_checkIndex_8e157_4 : decode cJ3_checkIndex_8e157 4 = .ok (.iload_n 0, 1) := by decide +kernel
theorem dJ3_checkIndex_8e157_5 : decode cJ3_checkIndex_8e157 5 = .ok (.iload_n 1, 1) := by decide +kernel
theorem dJ3_checkIndex_8e157_6 : decode cJ3_checkIndex_8e157 6 = .ok (.if_icmp .lt 10, 3) := by decide +kernel
theorem dJ3_checkIndex_8e157_9 : decode cJ3_checkIndex_8e157 9 = .ok (.aload_n 2, 1) := by decide +kernel
theorem dJ3_checkIndex_8e157_10 : decode cJ3_checkIndex_8e157 10 = .ok (.iload_n 0, 1) := by decide +kernel
theorem dJ3_checkIndex_8e157_11 : decode cJ3_checkIndex_8e157 11 = .ok (.iload_n 1, 1) := by decide +kernel
theorem dJ3_checkIndex_8e157_12 : decode cJ3_checkIndex_8e157 12 = .ok (.invokestatic 95, 3) := by decide +kernel
theorem dJ3_checkIndex_8e157_15 : decode cJ3_checkIndex_8e157 15 = .ok (.athrow, 1) := by decide +kernel
theorem dJ3_checkIndex_8e157_16 : decode cJ3_checkIndex_8e157 16 = .ok (.iload_n 0, 1) := by decide +kernel
theorem dJ3_checkIndex_8e157_17 : decode cJ3_checkIndex_8e157 17 = .ok (.ireturn, 1) := by decide +kernel
theorem dL_look_0 : decode cL_look 0 = .ok (.aload_n 3, 1) := by decide +kernel
theorem dL_look_1 : decode cL_look 1 = .ok (.iconst 0, 1) := by decide +kernel
theorem dL_look_2 : decode cL_look 2 = .ok (.aload_n 0, 1) := by decide +kernel
theorem dL_look_3 : decode cL_look 3 = .ok (.iload_n 1, 1) := by decide +kernel
theorem dL_look_4 : decode cL_look 4 = .ok (.iload_n 2, 1) := by decide +kernel
theorem dL_look_5 : decode cL_look 5 = .ok (.invokevirtual 7, 3) := by decide +kernel
theorem dL_look_8 : decode cL_look 8 = .ok (.i2l, 1) := by decide +kernel
theorem dL_look_9 : decode cL_look 9 = .ok (.lastore, 1) := by decide +kernel
theorem dL_look_10 : decode cL_look 10 = .ok (.goto 11, 3) := by decide +kernel
theorem dL_look_13 : decode cL_look 13 = .ok (.astore 4, 2) := by decide +kernel
theorem dL_look_15 : decode cL_look 15 = .ok (.iconst 1, 1) := by decide +kernel
theorem dL_look_16 : decode cL_look 16 = .ok (.ireturn, 1) := by decide +kernel
theorem dL_look_17 : decode cL_look 17 = .ok (.astore 4, 2) := by decide +kernel
theorem dL_look_19 : decode cL_look 19 = .ok (.iconst 2, 1) := by decide +kernel
theorem dL_look_20 : decode cL_look 20 = .ok (.ireturn, 1) := by decide +kernel
theorem dL_look_21 : decode cL_look 21 = .ok (.iconst 0, 1) := by decide +kernel
theorem dL_look_22 : decode cL_look 22 = .ok (.ireturn, 1) := by decide +kernel
theorem dL_law_0 : decode cL_law 0 = .ok (.new 8, 3) := by decide +kernel
theorem dL_law_3 : decode cL_law 3 = .ok (.dup, 1) := by decide +kernel
theorem dL_law_4 : decode cL_law 4 = .ok (.invokespecial 17, 3) := by decide +kernel
theorem dL_law_7 : decode cL_law 7 = .ok (.astore_n 1, 1) := by decide +kernel
theorem dL_law_8 : decode cL_law 8 = .ok (.new 18, 3) := by decide +kernel
theorem dL_law_11 : decode cL_law 11 = .ok (.dup, 1) := by decide +kernel
theorem dL_law_12 : decode cL_law 12 = .ok (.invokespecial 20, 3) := by decide +kernel
theorem dL_law_15 : decode cL_law 15 = .ok (.astore_n 2, 1) := by decide +kernel
theorem dL_law_16 : decode cL_law 16 = .ok (.iconst 1, 1) := by decide +kernel
theorem dL_law_17 : decode cL_law 17 = .ok (.newarray .long, 2) := by decide +kernel
theorem dL_law_19 : decode cL_law 19 = .ok (.astore_n 3, 1) := by decide +kernel
theorem dL_law_20 : decode cL_law 20 = .ok (.iconst 0, 1) := by decide +kernel
theorem dL_law_21 : decode cL_law 21 = .ok (.istore 4, 2) := by decide +kernel
theorem dL_law_23 : decode cL_law 23 = .ok (.iload 4, 2) := by decide +kernel
theorem dL_law_25 : decode cL_law 25 = .ok (.aload_n 0, 1) := by decide +kernel
theorem dL_law_26 : decode cL_law 26 = .ok (.arraylength, 1) := by decide +kernel
theorem dL_law_27 : decode cL_law 27 = .ok (.bipush 6, 2) := by decide +kernel
theorem dL_law_29 : decode cL_law 29 = .ok (.isub, 1) := by decide +kernel
theorem dL_law_30 : decode cL_law 30 = .ok (.if_icmp .gt 1497, 3) := by decide +kernel
theorem dL_law_33 : decode cL_law 33 = .ok (.aload_n 0, 1) := by decide +kernel
theorem dL_law_34 : decode cL_law 34 = .ok (.iload 4, 2) := by decide +kernel
theorem dL_law_36 : decode cL_law 36 = .ok (.iaload, 1) := by decide +kernel
theorem dL_law_37 : decode cL_law 37 = .ok (.bipush 63, 2) := by decide +kernel
theorem dL_law_39 : decode cL_law 39 = .ok (.iand, 1) := by decide +kernel
theorem dL_law_40 : decode cL_law 40 = .ok (.tableswitch 1481 0 37 #[168, 241, 266, 291, 316, 356, 381, 406, 443, 468, 493, 518, 567, 604, 629, 666, 703, 740, 765, 814, 863, 876, 925, 986, 1047, 1096, 1133, 1182, 1207, 1232, 1245, 1282, 1319, 1368, 1417, 1430, 1443, 1456], 168) := by decide +kernel
theorem dL_law_208 : decode cL_law 208 = .ok (.aload_n 1, 1) := by decide +kernel
theorem dL_law_209 : decode cL_law 209 = .ok (.aload_n 0, 1) := by decide +kernel
theorem dL_law_210 : decode cL_law 210 = .ok (.iload 4, 2) := by decide +kernel
theorem dL_law_212 : decode cL_law 212 = .ok (.iconst 1, 1) := by decide +kernel
theorem dL_law_213 : decode cL_law 213 = .ok (.iadd, 1) := by decide +kernel
theorem dL_law_214 : decode cL_law 214 = .ok (.iaload, 1) := by decide +kernel
theorem dL_law_215 : decode cL_law 215 = .ok (.aload_n 0, 1) := by decide +kernel
theorem dL_law_216 : decode cL_law 216 = .ok (.iload 4, 2) := by decide +kernel
theorem dL_law_218 : decode cL_law 218 = .ok (.iconst 2, 1) := by decide +kernel
theorem dL_law_219 : decode cL_law 219 = .ok (.iadd, 1) := by decide +kernel
theorem dL_law_220 : decode cL_law 220 = .ok (.iaload, 1) := by decide +kernel
theorem dL_law_221 : decode cL_law 221 = .ok (.aload_n 0, 1) := by decide +kernel
theorem dL_law_222 : decode cL_law 222 = .ok (.iload 4, 2) := by decide +kernel
theorem dL_law_224 : decode cL_law 224 = .ok (.iconst 3, 1) := by decide +kernel
theorem dL_law_225 : decode cL_law 225 = .ok (.iadd, 1) := by decide +kernel
theorem dL_law_226 : decode cL_law 226 = .ok (.iaload, 1) := by decide +kernel
theorem dL_law_227 : decode cL_law 227 = .ok (.aload_n 0, 1) := by decide +kernel
theorem dL_law_228 : decode cL_law 228 = .ok (.iload 4, 2) := by decide +kernel
theorem dL_law_230 : decode cL_law 230 = .ok (.iconst 4, 1) := by decide +kernel
theorem dL_law_231 : decode cL_law 231 = .ok (.iadd, 1) := by decide +kernel
theorem dL_law_232 : decode cL_law 232 = .ok (.iaload, 1) := by decide +kernel
theorem dL_law_233 : decode cL_law 233 = .ok (.aload_n 0, 1) := by decide +kernel
theorem dL_law_234 : decode cL_law 234 = .ok (.iload 4, 2) := by decide +kernel
theorem dL_law_236 : decode cL_law 236 = .ok (.iconst 5, 1) := by decide +kernel
theorem dL_law_237 : decode cL_law 237 = .ok (.iadd, 1) := by decide +kernel
theorem dL_law_238 : decode cL_law 238 = .ok (.iaload, 1) := by decide +kernel
theorem dL_law_239 : decode cL_law 239 = .ok (.invokevirtual 21, 3) := by decide +kernel
theorem dL_law_242 : decode cL_law 242 = .ok (.pop, 1) := by decide +kernel
theorem dL_law_243 : decode cL_law 243 = .ok (.aload_n 2, 1) := by decide +kernel
theorem dL_law_244 : decode cL_law 244 = .ok (.aload_n 0, 1) := by decide +kernel
theorem dL_law_245 : decode cL_law 245 = .ok (.iload 4, 2) := by decide +kernel
theorem dL_law_247 : decode cL_law 247 = .ok (.iconst 1, 1) := by decide +kernel
theorem dL_law_248 : decode cL_law 248 = .ok (.iadd, 1) := by decide +kernel
theorem dL_law_249 : decode cL_law 249 = .ok (.iaload, 1) := by decide +kernel
theorem dL_law_250 : decode cL_law 250 = .ok (.aload_n 0, 1) := by decide +kernel
theorem dL_law_251 : decode cL_law 251 = .ok (.iload 4, 2) := by decide +kernel
theorem dL_law_253 : decode cL_law 253 = .ok (.iconst 2, 1) := by decide +kernel
theorem dL_law_254 : decode cL_law 254 = .ok (.iadd, 1) := by decide +kernel
theorem dL_law_255 : decode cL_law 255 = .ok (.iaload, 1) := by decide +kernel
theorem dL_law_256 : decode cL_law 256 = .ok (.aload_n 0, 1) := by decide +kernel
theorem dL_law_257 : decode cL_law 257 = .ok (.iload 4, 2) := by decide +kernel
theorem dL_law_259 : decode cL_law 259 = .ok (.iconst 3, 1) := by decide +kernel
theorem dL_law_260 : decode cL_law 260 = .ok (.iadd, 1) := by decide +kernel
theorem dL_law_261 : decode cL_law 261 = .ok (.iaload, 1) := by decide +kernel
theorem dL_law_262 : decode cL_law 262 = .ok (.aload_n 0, 1) := by decide +kernel
theorem dL_law_263 : decode cL_law 263 = .ok (.iload 4, 2) := by decide +kernel
theorem dL_law_265 : decode cL_law 265 = .ok (.iconst 4, 1) := by decide +kernel
theorem dL_law_266 : decode cL_law 266 = .ok (.iadd, 1) := by decide +kernel
theorem dL_law_267 : decode cL_law 267 = .ok (.iaload, 1) := by decide +kernel
theorem dL_law_268 : decode cL_law 268 = .ok (.aload_n 0, 1) := by decide +kernel
theorem dL_law_269 : decode cL_law 269 = .ok (.iload 4, 2) := by decide +kernel
theorem dL_law_271 : decode cL_law 271 = .ok (.iconst 5, 1) := by decide +kernel
theorem dL_law_272 : decode cL_law 272 = .ok (.iadd, 1) := by decide +kernel
theorem dL_law_273 : decode cL_law 273 = .ok (.iaload, 1) := by decide +kernel
theorem dL_law_274 : decode cL_law 274 = .ok (.invokevirtual 25, 3) := by decide +kernel
theorem dL_law_277 : decode cL_law 277 = .ok (.pop, 1) := by decide +kernel
theorem dL_law_278 : decode cL_law 278 = .ok (.goto 1243, 3) := by decide +kernel
theorem dL_law_281 : decode cL_law 281 = .ok (.aload_n 1, 1) := by decide +kernel
theorem dL_law_282 : decode cL_law 282 = .ok (.aload_n 0, 1) := by decide +kernel
theorem dL_law_283 : decode cL_law 283 = .ok (.iload 4, 2) := by decide +kernel
theorem dL_law_285 : decode cL_law 285 = .ok (.iconst 1, 1) := by decide +kernel
theorem dL_law_286 : decode cL_law 286 = .ok (.iadd, 1) := by decide +kernel
theorem dL_law_287 : decode cL_law 287 = .ok (.iaload, 1) := by decide +kernel
theorem dL_law_288 : decode cL_law 288 = .ok (.invokevirtual 26, 3) := by decide +kernel
theorem dL_law_291 : decode cL_law 291 = .ok (.pop, 1) := by decide +kernel
theorem dL_law_292 : decode cL_law 292 = .ok (.aload_n 2, 1) := by decide +kernel
theorem dL_law_293 : decode cL_law 293 = .ok (.aload_n 0, 1) := by decide +kernel
theorem dL_law_294 : decode cL_law 294 = .ok (.iload 4, 2) := by decide +kernel
theorem dL_law_296 : decode cL_law 296 = .ok (.iconst 1, 1) := by decide +kernel
theorem dL_law_297 : decode cL_law 297 = .ok (.iadd, 1) := by decide +kernel
theorem dL_law_298 : decode cL_law 298 = .ok (.iaload, 1) := by decide +kernel
theorem dL_law_299 : decode cL_law 299 = .ok (.invokevirtual 30, 3) := by decide +kernel
theorem dL_law_302 : decode cL_law 302 = .ok (.pop, 1) := by decide +kernel
theorem dL_law_303 : decode cL_law 303 = .ok (.goto 1218, 3) := by decide +kernel
theorem dL_law_306 : decode cL_law 306 = .ok (.aload_n 1, 1) := by decide +kernel
theorem dL_law_307 : decode cL_law 307 = .ok (.aload_n 0, 1) := by decide +kernel
theorem dL_law_308 : decode cL_law 308 = .ok (.iload 4, 2) := by decide +kernel
theorem dL_law_310 : decode cL_law 310 = .ok (.iconst 1, 1) := by decide +kernel
theorem dL_law_311 : decode cL_law 311 = .ok (.iadd, 1) := by decide +kernel
theorem dL_law_312 : decode cL_law 312 = .ok (.iaload, 1) := by decide +kernel
theorem dL_law_313 : decode cL_law 313 = .ok (.invokevirtual 31, 3) := by decide +kernel
theorem dL_law_316 : decode cL_law 316 = .ok (.aload_n 2, 1) := by decide +kernel
theorem dL_law_317 : decode cL_law 317 = .ok (.aload_n 0, 1) := by decide +kernel
theorem dL_law_318 : decode cL_law 318 = .ok (.iload 4, 2) := by decide +kernel
theorem dL_law_320 : decode cL_law 320 = .ok (.iconst 1, 1) := by decide +kernel
theorem dL_law_321 : decode cL_law 321 = .ok (.iadd, 1) := by decide +kernel
theorem dL_law_322 : decode cL_law 322 = .ok (.iaload, 1) := by decide +kernel
theorem dL_law_323 : decode cL_law 323 = .ok (.invokevirtual 34, 3) := by decide +kernel
theorem dL_law_326 : decode cL_law 326 = .ok (.if_icmp .eq 1195, 3) := by decide +kernel
theorem dL_law_329 : decode cL_law 329 = .ok (.iconst 0, 1) := by decide +kernel
theorem dL_law_330 : decode cL_law 330 = .ok (.ireturn, 1) := by decide +kernel
theorem dL_law_331 : decode cL_law 331 = .ok (.aload_n 1, 1) := by decide +kernel
theorem dL_law_332 : decode cL_law 332 = .ok (.aload_n 0, 1) := by decide +kernel
theorem dL_law_333 : decode cL_law 333 = .ok (.iload 4, 2) := by decide +kernel
theorem dL_law_335 : decode cL_law 335 = .ok (.iconst 1, 1) := by decide +kernel
theorem dL_law_336 : decode cL_law 336 = .ok (.iadd, 1) := by decide +kernel
theorem dL_law_337 : decode cL_law 337 = .ok (.iaload, 1) := by decide +kernel
theorem dL_law_338 : decode cL_law 338 = .ok (.invokevirtual 35, 3) := by decide +kernel
theorem dL_law_341 : decode cL_law 341 = .ok (.pop, 1) := by decide +kernel
theorem dL_law_342 : decode cL_law 342 = .ok (.aload_n 2, 1) := by decide +kernel
theorem dL_law_343 : decode cL_law 343 = .ok (.aload_n 0, 1) := by decide +kernel
theorem dL_law_344 : decode cL_law 344 = .ok (.iload 4, 2) := by decide +kernel
theorem dL_law_346 : decode cL_law 346 = .ok (.iconst 1, 1) := by decide +kernel
theorem dL_law_347 : decode cL_law 347 = .ok (.iadd, 1) := by decide +kernel
theorem dL_law_348 : decode cL_law 348 = .ok (.iaload, 1) := by decide +kernel
theorem dL_law_349 : decode cL_law 349 = .ok (.invokevirtual 38, 3) := by decide +kernel
theorem dL_law_352 : decode cL_law 352 = .ok (.pop, 1) := by decide +kernel
theorem dL_law_353 : decode cL_law 353 = .ok (.goto 1168, 3) := by decide +kernel
theorem dL_law_356 : decode cL_law 356 = .ok (.aload_n 1, 1) := by decide +kernel
theorem dL_law_357 : decode cL_law 357 = .ok (.aload_n 0, 1) := by decide +kernel
theorem dL_law_358 : decode cL_law 358 = .ok (.iload 4, 2) := by decide +kernel
theorem dL_law_360 : decode cL_law 360 = .ok (.iconst 1, 1) := by decide +kernel
theorem dL_law_361 : decode cL_law 361 = .ok (.iadd, 1) := by decide +kernel
theorem dL_law_362 : decode cL_law 362 = .ok (.iaload, 1) := by decide +kernel
theorem dL_law_363 : decode cL_law 363 = .ok (.aload_n 0, 1) := by decide +kernel
theorem dL_law_364 : decode cL_law 364 = .ok (.iload 4, 2) := by decide +kernel
theorem dL_law_366 : decode cL_law 366 = .ok (.iconst 2, 1) := by decide +kernel
theorem dL_law_367 : decode cL_law 367 = .ok (.iadd, 1) := by decide +kernel
theorem dL_law_368 : decode cL_law 368 = .ok (.iaload, 1) := by decide +kernel
theorem dL_law_369 : decode cL_law 369 = .ok (.aload_n 3, 1) := by decide +kernel
theorem dL_law_370 : decode cL_law 370 = .ok (.invokestatic 39, 3) := by decide +kernel
theorem dL_law_373 : decode cL_law 373 = .ok (.istore 5, 2) := by decide +kernel
theorem dL_law_375 : decode cL_law 375 = .ok (.aload_n 2, 1) := by decide +kernel
theorem dL_law_376 : decode cL_law 376 = .ok (.aload_n 0, 1) := by decide +kernel
theorem dL_law_377 : decode cL_law 377 = .ok (.iload 4, 2) := by decide +kernel
theorem dL_law_379 : decode cL_law 379 = .ok (.iconst 1, 1) := by decide +kernel
theorem dL_law_380 : decode cL_law 380 = .ok (.iadd, 1) := by decide +kernel
theorem dL_law_381 : decode cL_law 381 = .ok (.iaload, 1) := by decide +kernel
theorem dL_law_382 : decode cL_law 382 = .ok (.aload_n 0, 1) := by decide +kernel
theorem dL_law_383 : decode cL_law 383 = .ok (.iload 4, 2) := by decide +kernel
theorem dL_law_385 : decode cL_law 385 = .ok (.iconst 2, 1) := by decide +kernel
theorem dL_law_386 : decode cL_law 386 = .ok (.iadd, 1) := by decide +kernel
theorem dL_law_387 : decode cL_law 387 = .ok (.iaload, 1) := by decide +kernel
theorem dL_law_388 : decode cL_law 388 = .ok (.invokevirtual 44, 3) := by decide +kernel
theorem dL_law_391 : decode cL_law 391 = .ok (.istore 6, 2) := by decide +kernel
theorem dL_law_393 : decode cL_law 393 = .ok (.goto 1128, 3) := by decide +kernel
theorem dL_law_396 : decode cL_law 396 = .ok (.aload_n 1, 1) := by decide +kernel
theorem dL_law_397 : decode cL_law 397 = .ok (.aload_n 0, 1) := by decide +kernel
theorem dL_law_398 : decode cL_law 398 = .ok (.iload 4, 2) := by decide +kernel
theorem dL_law_400 : decode cL_law 400 = .ok (.iconst 1, 1) := by decide +kernel
theorem dL_law_401 : decode cL_law 401 = .ok (.iadd, 1) := by decide +kernel
theorem dL_law_402 : decode cL_law 402 = .ok (.iaload, 1) := by decide +kernel
theorem dL_law_403 : decode cL_law 403 = .ok (.invokevirtual 45, 3) := by decide +kernel
theorem dL_law_406 : decode cL_law 406 = .ok (.pop, 1) := by decide +kernel
theorem dL_law_407 : decode cL_law 407 = .ok (.aload_n 2, 1) := by decide +kernel
theorem dL_law_408 : decode cL_law 408 = .ok (.aload_n 0, 1) := by decide +kernel
theorem dL_law_409 : decode cL_law 409 = .ok (.iload 4, 2) := by decide +kernel
theorem dL_law_411 : decode cL_law 411 = .ok (.iconst 1, 1) := by decide +kernel
theorem dL_law_412 : decode cL_law 412 = .ok (.iadd, 1) := by decide +kernel
theorem dL_law_413 : decode cL_law 413 = .ok (.iaload, 1) := by decide +kernel
theorem dL_law_414 : decode cL_law 414 = .ok (.invokevirtual 48, 3) := by decide +kernel
theorem dL_law_417 : decode cL_law 417 = .ok (.pop, 1) := by decide +kernel
theorem dL_law_418 : decode cL_law 418 = .ok (.goto 1103, 3) := by decide +kernel
theorem dL_law_421 : decode cL_law 421 = .ok (.aload_n 1, 1) := by decide +kernel
theorem dL_law_422 : decode cL_law 422 = .ok (.aload_n 0, 1) := by decide +kernel
theorem dL_law_423 : decode cL_law 423 = .ok (.iload 4, 2) := by decide +kernel
theorem dL_law_425 : decode cL_law 425 = .ok (.iconst 1, 1) := by decide +kernel
theorem dL_law_426 : decode cL_law 426 = .ok (.iadd, 1) := by decide +kernel
theorem dL_law_427 : decode cL_law 427 = .ok (.iaload, 1) := by decide +kernel
theorem dL_law_428 : decode cL_law 428 = .ok (.invokevirtual 49, 3) := by decide +kernel
theorem dL_law_431 : decode cL_law 431 = .ok (.pop, 1) := by decide +kernel
theorem dL_law_432 : decode cL_law 432 = .ok (.aload_n 2, 1) := by decide +kernel
theorem dL_law_433 : decode cL_law 433 = .ok (.aload_n 0, 1) := by decide +kernel
theorem dL_law_434 : decode cL_law 434 = .ok (.iload 4, 2) := by decide +kernel
theorem dL_law_436 : decode cL_law 436 = .ok (.iconst 1, 1) := by decide +kernel
theorem dL_law_437 : decode cL_law 437 = .ok (.iadd, 1) := by decide +kernel
theorem dL_law_438 : decode cL_law 438 = .ok (.iaload, 1) := by decide +kernel
theorem dL_law_439 : decode cL_law 439 = .ok (.invokevirtual 52, 3) := by decide +kernel
theorem dL_law_442 : decode cL_law 442 = .ok (.pop, 1) := by decide +kernel
theorem dL_law_443 : decode cL_law 443 = .ok (.goto 1078, 3) := by decide +kernel
theorem dL_law_446 : decode cL_law 446 = .ok (.aload_n 1, 1) := by decide +kernel
theorem dL_law_447 : decode cL_law 447 = .ok (.aload_n 0, 1) := by decide +kernel
theorem dL_law_448 : decode cL_law 448 = .ok (.iload 4, 2) := by decide +kernel
theorem dL_law_450 : decode cL_law 450 = .ok (.iconst 1, 1) := by decide +kernel
theorem dL_law_451 : decode cL_law 451 = .ok (.iadd, 1) := by decide +kernel
theorem dL_law_452 : decode cL_law 452 = .ok (.iaload, 1) := by decide +kernel
theorem dL_law_453 : decode cL_law 453 = .ok (.aload_n 0, 1) := by decide +kernel
theorem dL_law_454 : decode cL_law 454 = .ok (.iload 4, 2) := by decide +kernel
theorem dL_law_456 : decode cL_law 456 = .ok (.iconst 2, 1) := by decide +kernel
theorem dL_law_457 : decode cL_law 457 = .ok (.iadd, 1) := by decide +kernel
theorem dL_law_458 : decode cL_law 458 = .ok (.iaload, 1) := by decide +kernel
theorem dL_law_459 : decode cL_law 459 = .ok (.invokevirtual 53, 3) := by decide +kernel
theorem dL_law_462 : decode cL_law 462 = .ok (.pop2, 1) := by decide +kernel
theorem dL_law_463 : decode cL_law 463 = .ok (.aload_n 2, 1) := by decide +kernel
theorem dL_law_464 : decode cL_law 464 = .ok (.aload_n 0, 1) := by decide +kernel
theorem dL_law_465 : decode cL_law 465 = .ok (.iload 4, 2) := by decide +kernel
theorem dL_law_467 : decode cL_law 467 = .ok (.iconst 1, 1) := by decide +kernel
theorem dL_law_468 : decode cL_law 468 = .ok (.iadd, 1) := by decide +kernel
theorem dL_law_469 : decode cL_law 469 = .ok (.iaload, 1) := by decide +kernel
theorem dL_law_470 : decode cL_law 470 = .ok (.aload_n 0, 1) := by decide +kernel
theorem dL_law_471 : decode cL_law 471 = .ok (.iload 4, 2) := by decide +kernel
theorem dL_law_473 : decode cL_law 473 = .ok (.iconst 2, 1) := by decide +kernel
theorem dL_law_474 : decode cL_law 474 = .ok (.iadd, 1) := by decide +kernel
theorem dL_law_475 : decode cL_law 475 = .ok (.iaload, 1) := by decide +kernel
theorem dL_law_476 : decode cL_law 476 = .ok (.invokevirtual 57, 3) := by decide +kernel
theorem dL_law_479 : decode cL_law 479 = .ok (.pop2, 1) := by decide +kernel
theorem dL_law_480 : decode cL_law 480 = .ok (.goto 1041, 3) := by decide +kernel
theorem dL_law_483 : decode cL_law 483 = .ok (.aload_n 1, 1) := by decide +kernel
theorem dL_law_484 : decode cL_law 484 = .ok (.aload_n 0, 1) := by decide +kernel
theorem dL_law_485 : decode cL_law 485 = .ok (.iload 4, 2) := by decide +kernel
theorem dL_law_487 : decode cL_law 487 = .ok (.iconst 1, 1) := by decide +kernel
theorem dL_law_488 : decode cL_law 488 = .ok (.iadd, 1) := by decide +kernel
theorem dL_law_489 : decode cL_law 489 = .ok (.iaload, 1) := by decide +kernel
theorem dL_law_490 : decode cL_law 490 = .ok (.invokevirtual 58, 3) := by decide +kernel
theorem dL_law_493 : decode cL_law 493 = .ok (.pop, 1) := by decide +kernel
theorem dL_law_494 : decode cL_law 494 = .ok (.aload_n 2, 1) := by decide +kernel
theorem dL_law_495 : decode cL_law 495 = .ok (.aload_n 0, 1) := by decide +kernel
theorem dL_law_496 : decode cL_law 496 = .ok (.iload 4, 2) := by decide +kernel
theorem dL_law_498 : decode cL_law 498 = .ok (.iconst 1, 1) := by decide +kernel
theorem dL_law_499 : decode cL_law 499 = .ok (.iadd, 1) := by decide +kernel
theorem dL_law_500 : decode cL_law 500 = .ok (.iaload, 1) := by decide +kernel
theorem dL_law_501 : decode cL_law 501 = .ok (.invokevirtual 61, 3) := by decide +kernel
theorem dL_law_504 : decode cL_law 504 = .ok (.pop, 1) := by decide +kernel
theorem dL_law_505 : decode cL_law 505 = .ok (.goto 1016, 3) := by decide +kernel
theorem dL_law_508 : decode cL_law 508 = .ok (.aload_n 1, 1) := by decide +kernel
theorem dL_law_509 : decode cL_law 509 = .ok (.aload_n 0, 1) := by decide +kernel
theorem dL_law_510 : decode cL_law 510 = .ok (.iload 4, 2) := by decide +kernel
theorem dL_law_512 : decode cL_law 512 = .ok (.iconst 1, 1) := by decide +kernel
theorem dL_law_513 : decode cL_law 513 = .ok (.iadd, 1) := by decide +kernel
theorem dL_law_514 : decode cL_law 514 = .ok (.iaload, 1) := by decide +kernel
theorem dL_law_515 : decode cL_law 515 = .ok (.invokevirtual 62, 3) := by decide +kernel
theorem dL_law_518 : decode cL_law 518 = .ok (.pop, 1) := by decide +kernel
theorem dL_law_519 : decode cL_law 519 = .ok (.aload_n 2, 1) := by decide +kernel
theorem dL_law_520 : decode cL_law 520 = .ok (.aload_n 0, 1) := by decide +kernel
theorem dL_law_521 : decode cL_law 521 = .ok (.iload 4, 2) := by decide +kernel
theorem dL_law_523 : decode cL_law 523 = .ok (.iconst 1, 1) := by decide +kernel
theorem dL_law_524 : decode cL_law 524 = .ok (.iadd, 1) := by decide +kernel
theorem dL_law_525 : decode cL_law 525 = .ok (.iaload, 1) := by decide +kernel
theorem dL_law_526 : decode cL_law 526 = .ok (.invokevirtual 65, 3) := by decide +kernel
theorem dL_law_529 : decode cL_law 529 = .ok (.pop, 1) := by decide +kernel
theorem dL_law_530 : decode cL_law 530 = .ok (.goto 991, 3) := by decide +kernel
theorem dL_law_533 : decode cL_law 533 = .ok (.aload_n 1, 1) := by decide +kernel
theorem dL_law_534 : decode cL_law 534 = .ok (.aload_n 0, 1) := by decide +kernel
theorem dL_law_535 : decode cL_law 535 = .ok (.iload 4, 2) := by decide +kernel
theorem dL_law_537 : decode cL_law 537 = .ok (.iconst 1, 1) := by decide +kernel
theorem dL_law_538 : decode cL_law 538 = .ok (.iadd, 1) := by decide +kernel
theorem dL_law_539 : decode cL_law 539 = .ok (.iaload, 1) := by decide +kernel
theorem dL_law_540 : decode cL_law 540 = .ok (.invokevirtual 66, 3) := by decide +kernel
theorem dL_law_543 : decode cL_law 543 = .ok (.pop, 1) := by decide +kernel
theorem dL_law_544 : decode cL_law 544 = .ok (.aload_n 2, 1) := by decide +kernel
theorem dL_law_545 : decode cL_law 545 = .ok (.aload_n 0, 1) := by decide +kernel
theorem dL_law_546 : decode cL_law 546 = .ok (.iload 4, 2) := by decide +kernel
theorem dL_law_548 : decode cL_law 548 = .ok (.iconst 1, 1) := by decide +kernel
theorem dL_law_549 : decode cL_law 549 = .ok (.iadd, 1) := by decide +kernel
theorem dL_law_550 : decode cL_law 550 = .ok (.iaload, 1) := by decide +kernel
theorem dL_law_551 : decode cL_law 551 = .ok (.invokevirtual 70, 3) := by decide +kernel
theorem dL_law_554 : decode cL_law 554 = .ok (.pop, 1) := by decide +kernel
theorem dL_law_555 : decode cL_law 555 = .ok (.goto 966, 3) := by decide +kernel
theorem dL_law_558 : decode cL_law 558 = .ok (.aload_n 1, 1) := by decide +kernel
theorem dL_law_559 : decode cL_law 559 = .ok (.aload_n 0, 1) := by decide +kernel
theorem dL_law_560 : decode cL_law 560 = .ok (.iload 4, 2) := by decide +kernel
theorem dL_law_562 : decode cL_law 562 = .ok (.iconst 1, 1) := by decide +kernel
theorem dL_law_563 : decode cL_law 563 = .ok (.iadd, 1) := by decide +kernel
theorem dL_law_564 : decode cL_law 564 = .ok (.iaload, 1) := by decide +kernel
theorem dL_law_565 : decode cL_law 565 = .ok (.aload_n 0, 1) := by decide +kernel
theorem dL_law_566 : decode cL_law 566 = .ok (.iload 4, 2) := by decide +kernel
theorem dL_law_568 : decode cL_law 568 = .ok (.iconst 2, 1) := by decide +kernel
theorem dL_law_569 : decode cL_law 569 = .ok (.iadd, 1) := by decide +kernel
theorem dL_law_570 : decode cL_law 570 = .ok (.iaload, 1) := by decide +kernel
theorem dL_law_571 : decode cL_law 571 = .ok (.aload_n 0, 1) := by decide +kernel
theorem dL_law_572 : decode cL_law 572 = .ok (.iload 4, 2) := by decide +kernel
theorem dL_law_574 : decode cL_law 574 = .ok (.iconst 3, 1) := by decide +kernel
theorem dL_law_575 : decode cL_law 575 = .ok (.iadd, 1) := by decide +kernel
theorem dL_law_576 : decode cL_law 576 = .ok (.iaload, 1) := by decide +kernel
theorem dL_law_577 : decode cL_law 577 = .ok (.invokevirtual 71, 3) := by decide +kernel
theorem dL_law_580 : decode cL_law 580 = .ok (.pop, 1) := by decide +kernel
theorem dL_law_581 : decode cL_law 581 = .ok (.aload_n 2, 1) := by decide +kernel
theorem dL_law_582 : decode cL_law 582 = .ok (.aload_n 0, 1) := by decide +kernel
theorem dL_law_583 : decode cL_law 583 = .ok (.iload 4, 2) := by decide +kernel
theorem dL_law_585 : decode cL_law 585 = .ok (.iconst 1, 1) := by decide +kernel
theorem dL_law_586 : decode cL_law 586 = .ok (.iadd, 1) := by decide +kernel
theorem dL_law_587 : decode cL_law 587 = .ok (.iaload, 1) := by decide +kernel
theorem dL_law_588 : decode cL_law 588 = .ok (.aload_n 0, 1) := by decide +kernel
theorem dL_law_589 : decode cL_law 589 = .ok (.iload 4, 2) := by decide +kernel
theorem dL_law_591 : decode cL_law 591 = .ok (.iconst 2, 1) := by decide +kernel
theorem dL_law_592 : decode cL_law 592 = .ok (.iadd, 1) := by decide +kernel
theorem dL_law_593 : decode cL_law 593 = .ok (.iaload, 1) := by decide +kernel
theorem dL_law_594 : decode cL_law 594 = .ok (.aload_n 0, 1) := by decide +kernel
theorem dL_law_595 : decode cL_law 595 = .ok (.iload 4, 2) := by decide +kernel
theorem dL_law_597 : decode cL_law 597 = .ok (.iconst 3, 1) := by decide +kernel
theorem dL_law_598 : decode cL_law 598 = .ok (.iadd, 1) := by decide +kernel
theorem dL_law_599 : decode cL_law 599 = .ok (.iaload, 1) := by decide +kernel
theorem dL_law_600 : decode cL_law 600 = .ok (.invokevirtual 75, 3) := by decide +kernel
theorem dL_law_603 : decode cL_law 603 = .ok (.pop, 1) := by decide +kernel
theorem dL_law_604 : decode cL_law 604 = .ok (.goto 917, 3) := by decide +kernel
theorem dL_law_607 : decode cL_law 607 = .ok (.aload_n 1, 1) := by decide +kernel
theorem dL_law_608 : decode cL_law 608 = .ok (.aload_n 0, 1) := by decide +kernel
theorem dL_law_609 : decode cL_law 609 = .ok (.iload 4, 2) := by decide +kernel
theorem dL_law_611 : decode cL_law 611 = .ok (.iconst 1, 1) := by decide +kernel
theorem dL_law_612 : decode cL_law 612 = .ok (.iadd, 1) := by decide +kernel
theorem dL_law_613 : decode cL_law 613 = .ok (.iaload, 1) := by decide +kernel
theorem dL_law_614 : decode cL_law 614 = .ok (.aload_n 0, 1) := by decide +kernel
theorem dL_law_615 : decode cL_law 615 = .ok (.iload 4, 2) := by decide +kernel
theorem dL_law_617 : decode cL_law 617 = .ok (.iconst 2, 1) := by decide +kernel
theorem dL_law_618 : decode cL_law 618 = .ok (.iadd, 1) := by decide +kernel
theorem dL_law_619 : decode cL_law 619 = .ok (.iaload, 1) := by decide +kernel
theorem dL_law_620 : decode cL_law 620 = .ok (.invokevirtual 76, 3) := by decide +kernel
theorem dL_law_623 : decode cL_law 623 = .ok (.pop, 1) := by decide +kernel
theorem dL_law_624 : decode cL_law 624 = .ok (.aload_n 2, 1) := by decide +kernel
theorem dL_law_625 : decode cL_law 625 = .ok (.aload_n 0, 1) := by decide +kernel
theorem dL_law_626 : decode cL_law 626 = .ok (.iload 4, 2) := by decide +kernel
theorem dL_law_628 : decode cL_law 628 = .ok (.iconst 1, 1) := by decide +kernel
theorem dL_law_629 : decode cL_law 629 = .ok (.iadd, 1) := by decide +kernel
theorem dL_law_630 : decode cL_law 630 = .ok (.iaload, 1) := by decide +kernel
theorem dL_law_631 : decode cL_law 631 = .ok (.aload_n 0, 1) := by decide +kernel
theorem dL_law_632 : decode cL_law 632 = .ok (.iload 4, 2) := by decide +kernel
theorem dL_law_634 : decode cL_law 634 = .ok (.iconst 2, 1) := by decide +kernel
theorem dL_law_635 : decode cL_law 635 = .ok (.iadd, 1) := by decide +kernel
theorem dL_law_636 : decode cL_law 636 = .ok (.iaload, 1) := by decide +kernel
theorem dL_law_637 : decode cL_law 637 = .ok (.invokevirtual 80, 3) := by decide +kernel
theorem dL_law_640 : decode cL_law 640 = .ok (.pop, 1) := by decide +kernel
theorem dL_law_641 : decode cL_law 641 = .ok (.goto 880, 3) := by decide +kernel
theorem dL_law_644 : decode cL_law 644 = .ok (.aload_n 1, 1) := by decide +kernel
theorem dL_law_645 : decode cL_law 645 = .ok (.aload_n 0, 1) := by decide +kernel
theorem dL_law_646 : decode cL_law 646 = .ok (.iload 4, 2) := by decide +kernel
theorem dL_law_648 : decode cL_law 648 = .ok (.iconst 1, 1) := by decide +kernel
theorem dL_law_649 : decode cL_law 649 = .ok (.iadd, 1) := by decide +kernel
theorem dL_law_650 : decode cL_law 650 = .ok (.iaload, 1) := by decide +kernel
theorem dL_law_651 : decode cL_law 651 = .ok (.invokevirtual 81, 3) := by decide +kernel
theorem dL_law_654 : decode cL_law 654 = .ok (.pop, 1) := by decide +kernel
theorem dL_law_655 : decode cL_law 655 = .ok (.aload_n 2, 1) := by decide +kernel
theorem dL_law_656 : decode cL_law 656 = .ok (.aload_n 0, 1) := by decide +kernel
theorem dL_law_657 : decode cL_law 657 = .ok (.iload 4, 2) := by decide +kernel
theorem dL_law_659 : decode cL_law 659 = .ok (.iconst 1, 1) := by decide +kernel
theorem dL_law_660 : decode cL_law 660 = .ok (.iadd, 1) := by decide +kernel
theorem dL_law_661 : decode cL_law 661 = .ok (.iaload, 1) := by decide +kernel
theorem dL_law_662 : decode cL_law 662 = .ok (.invokevirtual 84, 3) := by decide +kernel
theorem dL_law_665 : decode cL_law 665 = .ok (.pop, 1) := by decide +kernel
theorem dL_law_666 : decode cL_law 666 = .ok (.goto 855, 3) := by decide +kernel
theorem dL_law_669 : decode cL_law 669 = .ok (.aload_n 1, 1) := by decide +kernel
theorem dL_law_670 : decode cL_law 670 = .ok (.aload_n 0, 1) := by decide +kernel
theorem dL_law_671 : decode cL_law 671 = .ok (.iload 4, 2) := by decide +kernel
theorem dL_law_673 : decode cL_law 673 = .ok (.iconst 1, 1) := by decide +kernel
theorem dL_law_674 : decode cL_law 674 = .ok (.iadd, 1) := by decide +kernel
theorem dL_law_675 : decode cL_law 675 = .ok (.iaload, 1) := by decide +kernel
theorem dL_law_676 : decode cL_law 676 = .ok (.aload_n 0, 1) := by decide +kernel
theorem dL_law_677 : decode cL_law 677 = .ok (.iload 4, 2) := by decide +kernel
theorem dL_law_679 : decode cL_law 679 = .ok (.iconst 2, 1) := by decide +kernel
theorem dL_law_680 : decode cL_law 680 = .ok (.iadd, 1) := by decide +kernel
theorem dL_law_681 : decode cL_law 681 = .ok (.iaload, 1) := by decide +kernel
theorem dL_law_682 : decode cL_law 682 = .ok (.invokevirtual 85, 3) := by decide +kernel
theorem dL_law_685 : decode cL_law 685 = .ok (.pop, 1) := by decide +kernel
theorem dL_law_686 : decode cL_law 686 = .ok (.aload_n 2, 1) := by decide +kernel
theorem dL_law_687 : decode cL_law 687 = .ok (.aload_n 0, 1) := by decide +kernel
theorem dL_law_688 : decode cL_law 688 = .ok (.iload 4, 2) := by decide +kernel
theorem dL_law_690 : decode cL_law 690 = .ok (.iconst 1, 1) := by decide +kernel
theorem dL_law_691 : decode cL_law 691 = .ok (.iadd, 1) := by decide +kernel
theorem dL_law_692 : decode cL_law 692 = .ok (.iaload, 1) := by decide +kernel
theorem dL_law_693 : decode cL_law 693 = .ok (.aload_n 0, 1) := by decide +kernel
theorem dL_law_694 : decode cL_law 694 = .ok (.iload 4, 2) := by decide +kernel
theorem dL_law_696 : decode cL_law 696 = .ok (.iconst 2, 1) := by decide +kernel
theorem dL_law_697 : decode cL_law 697 = .ok (.iadd, 1) := by decide +kernel
theorem dL_law_698 : decode cL_law 698 = .ok (.iaload, 1) := by decide +kernel
theorem dL_law_699 : decode cL_law 699 = .ok (.invokevirtual 88, 3) := by decide +kernel
theorem dL_law_702 : decode cL_law 702 = .ok (.pop, 1) := by decide +kernel
theorem dL_law_703 : decode cL_law 703 = .ok (.goto 818, 3) := by decide +kernel
theorem dL_law_706 : decode cL_law 706 = .ok (.aload_n 1, 1) := by decide +kernel
theorem dL_law_707 : decode cL_law 707 = .ok (.aload_n 0, 1) := by decide +kernel
theorem dL_law_708 : decode cL_law 708 = .ok (.iload 4, 2) := by decide +kernel
theorem dL_law_710 : decode cL_law 710 = .ok (.iconst 1, 1) := by decide +kernel
theorem dL_law_711 : decode cL_law 711 = .ok (.iadd, 1) := by decide +kernel
theorem dL_law_712 : decode cL_law 712 = .ok (.iaload, 1) := by decide +kernel
theorem dL_law_713 : decode cL_law 713 = .ok (.aload_n 0, 1) := by decide +kernel
theorem dL_law_714 : decode cL_law 714 = .ok (.iload 4, 2) := by decide +kernel
theorem dL_law_716 : decode cL_law 716 = .ok (.iconst 2, 1) := by decide +kernel
theorem dL_law_717 : decode cL_law 717 = .ok (.iadd, 1) := by decide +kernel
theorem dL_law_718 : decode cL_law 718 = .ok (.iaload, 1) := by decide +kernel
theorem dL_law_719 : decode cL_law 719 = .ok (.invokevirtual 89, 3) := by decide +kernel
theorem dL_law_722 : decode cL_law 722 = .ok (.pop, 1) := by decide +kernel
theorem dL_law_723 : decode cL_law 723 = .ok (.aload_n 2, 1) := by decide +kernel
theorem dL_law_724 : decode cL_law 724 = .ok (.aload_n 0, 1) := by decide +kernel
theorem dL_law_725 : decode cL_law 725 = .ok (.iload 4, 2) := by decide +kernel
theorem dL_law_727 : decode cL_law 727 = .ok (.iconst 1, 1) := by decide +kernel
theorem dL_law_728 : decode cL_law 728 = .ok (.iadd, 1) := by decide +kernel
theorem dL_law_729 : decode cL_law 729 = .ok (.iaload, 1) := by decide +kernel
theorem dL_law_730 : decode cL_law 730 = .ok (.aload_n 0, 1) := by decide +kernel
theorem dL_law_731 : decode cL_law 731 = .ok (.iload 4, 2) := by decide +kernel
theorem dL_law_733 : decode cL_law 733 = .ok (.iconst 2, 1) := by decide +kernel
theorem dL_law_734 : decode cL_law 734 = .ok (.iadd, 1) := by decide +kernel
theorem dL_law_735 : decode cL_law 735 = .ok (.iaload, 1) := by decide +kernel
theorem dL_law_736 : decode cL_law 736 = .ok (.invokevirtual 92, 3) := by decide +kernel
theorem dL_law_739 : decode cL_law 739 = .ok (.pop, 1) := by decide +kernel
theorem dL_law_740 : decode cL_law 740 = .ok (.goto 781, 3) := by decide +kernel
theorem dL_law_743 : decode cL_law 743 = .ok (.aload_n 1, 1) := by decide +kernel
theorem dL_law_744 : decode cL_law 744 = .ok (.aload_n 0, 1) := by decide +kernel
theorem dL_law_745 : decode cL_law 745 = .ok (.iload 4, 2) := by decide +kernel
theorem dL_law_747 : decode cL_law 747 = .ok (.iconst 1, 1) := by decide +kernel
theorem dL_law_748 : decode cL_law 748 = .ok (.iadd, 1) := by decide +kernel
theorem dL_law_749 : decode cL_law 749 = .ok (.iaload, 1) := by decide +kernel
theorem dL_law_750 : decode cL_law 750 = .ok (.aload_n 0, 1) := by decide +kernel
theorem dL_law_751 : decode cL_law 751 = .ok (.iload 4, 2) := by decide +kernel
theorem dL_law_753 : decode cL_law 753 = .ok (.iconst 2, 1) := by decide +kernel
theorem dL_law_754 : decode cL_law 754 = .ok (.iadd, 1) := by decide +kernel
theorem dL_law_755 : decode cL_law 755 = .ok (.iaload, 1) := by decide +kernel
theorem dL_law_756 : decode cL_law 756 = .ok (.invokevirtual 93, 3) := by decide +kernel
theorem dL_law_759 : decode cL_law 759 = .ok (.pop, 1) := by decide +kernel
theorem dL_law_760 : decode cL_law 760 = .ok (.aload_n 2, 1) := by decide +kernel
theorem dL_law_761 : decode cL_law 761 = .ok (.aload_n 0, 1) := by decide +kernel
theorem dL_law_762 : decode cL_law 762 = .ok (.iload 4, 2) := by decide +kernel
theorem dL_law_764 : decode cL_law 764 = .ok (.iconst 1, 1) := by decide +kernel
theorem dL_law_765 : decode cL_law 765 = .ok (.iadd, 1) := by decide +kernel
theorem dL_law_766 : decode cL_law 766 = .ok (.iaload, 1) := by decide +kernel
theorem dL_law_767 : decode cL_law 767 = .ok (.aload_n 0, 1) := by decide +kernel
theorem dL_law_768 : decode cL_law 768 = .ok (.iload 4, 2) := by decide +kernel
theorem dL_law_770 : decode cL_law 770 = .ok (.iconst 2, 1) := by decide +kernel
theorem dL_law_771 : decode cL_law 771 = .ok (.iadd, 1) := by decide +kernel
theorem dL_law_772 : decode cL_law 772 = .ok (.iaload, 1) := by decide +kernel
theorem dL_law_773 : decode cL_law 773 = .ok (.invokevirtual 96, 3) := by decide +kernel
theorem dL_law_776 : decode cL_law 776 = .ok (.pop, 1) := by decide +kernel
theorem dL_law_777 : decode cL_law 777 = .ok (.goto 744, 3) := by decide +kernel
theorem dL_law_780 : decode cL_law 780 = .ok (.aload_n 1, 1) := by decide +kernel
theorem dL_law_781 : decode cL_law 781 = .ok (.aload_n 0, 1) := by decide +kernel
theorem dL_law_782 : decode cL_law 782 = .ok (.iload 4, 2) := by decide +kernel
theorem dL_law_784 : decode cL_law 784 = .ok (.iconst 1, 1) := by decide +kernel
theorem dL_law_785 : decode cL_law 785 = .ok (.iadd, 1) := by decide +kernel
theorem dL_law_786 : decode cL_law 786 = .ok (.iaload, 1) := by decide +kernel
theorem dL_law_787 : decode cL_law 787 = .ok (.invokevirtual 97, 3) := by decide +kernel
theorem dL_law_790 : decode cL_law 790 = .ok (.pop, 1) := by decide +kernel
theorem dL_law_791 : decode cL_law 791 = .ok (.aload_n 2, 1) := by decide +kernel
theorem dL_law_792 : decode cL_law 792 = .ok (.aload_n 0, 1) := by decide +kernel
theorem dL_law_793 : decode cL_law 793 = .ok (.iload 4, 2) := by decide +kernel
theorem dL_law_795 : decode cL_law 795 = .ok (.iconst 1, 1) := by decide +kernel
theorem dL_law_796 : decode cL_law 796 = .ok (.iadd, 1) := by decide +kernel
theorem dL_law_797 : decode cL_law 797 = .ok (.iaload, 1) := by decide +kernel
theorem dL_law_798 : decode cL_law 798 = .ok (.invokevirtual 100, 3) := by decide +kernel
theorem dL_law_801 : decode cL_law 801 = .ok (.pop, 1) := by decide +kernel
theorem dL_law_802 : decode cL_law 802 = .ok (.goto 719, 3) := by decide +kernel
theorem dL_law_805 : decode cL_law 805 = .ok (.aload_n 1, 1) := by decide +kernel
theorem dL_law_806 : decode cL_law 806 = .ok (.aload_n 0, 1) := by decide +kernel
theorem dL_law_807 : decode cL_law 807 = .ok (.iload 4, 2) := by decide +kernel
theorem dL_law_809 : decode cL_law 809 = .ok (.iconst 1, 1) := by decide +kernel
theorem dL_law_810 : decode cL_law 810 = .ok (.iadd, 1) := by decide +kernel
theorem dL_law_811 : decode cL_law 811 = .ok (.iaload, 1) := by decide +kernel
theorem dL_law_812 : decode cL_law 812 = .ok (.aload_n 0, 1) := by decide +kernel
theorem dL_law_813 : decode cL_law 813 = .ok (.iload 4, 2) := by decide +kernel
theorem dL_law_815 : decode cL_law 815 = .ok (.iconst 2, 1) := by decide +kernel
theorem dL_law_816 : decode cL_law 816 = .ok (.iadd, 1) := by decide +kernel
theorem dL_law_817 : decode cL_law 817 = .ok (.iaload, 1) := by decide +kernel
theorem dL_law_818 : decode cL_law 818 = .ok (.aload_n 0, 1) := by decide +kernel
theorem dL_law_819 : decode cL_law 819 = .ok (.iload 4, 2) := by decide +kernel
theorem dL_law_821 : decode cL_law 821 = .ok (.iconst 3, 1) := by decide +kernel
theorem dL_law_822 : decode cL_law 822 = .ok (.iadd, 1) := by decide +kernel
theorem dL_law_823 : decode cL_law 823 = .ok (.iaload, 1) := by decide +kernel
theorem dL_law_824 : decode cL_law 824 = .ok (.invokevirtual 101, 3) := by decide +kernel
theorem dL_law_827 : decode cL_law 827 = .ok (.pop, 1) := by decide +kernel
theorem dL_law_828 : decode cL_law 828 = .ok (.aload_n 2, 1) := by decide +kernel
theorem dL_law_829 : decode cL_law 829 = .ok (.aload_n 0, 1) := by decide +kernel
theorem dL_law_830 : decode cL_law 830 = .ok (.iload 4, 2) := by decide +kernel
theorem dL_law_832 : decode cL_law 832 = .ok (.iconst 1, 1) := by decide +kernel
theorem dL_law_833 : decode cL_law 833 = .ok (.iadd, 1) := by decide +kernel
theorem dL_law_834 : decode cL_law 834 = .ok (.iaload, 1) := by decide +kernel
theorem dL_law_835 : decode cL_law 835 = .ok (.aload_n 0, 1) := by decide +kernel
theorem dL_law_836 : decode cL_law 836 = .ok (.iload 4, 2) := by decide +kernel
theorem dL_law_838 : decode cL_law 838 = .ok (.iconst 2, 1) := by decide +kernel
theorem dL_law_839 : decode cL_law 839 = .ok (.iadd, 1) := by decide +kernel
theorem dL_law_840 : decode cL_law 840 = .ok (.iaload, 1) := by decide +kernel
theorem dL_law_841 : decode cL_law 841 = .ok (.aload_n 0, 1) := by decide +kernel
theorem dL_law_842 : decode cL_law 842 = .ok (.iload 4, 2) := by decide +kernel
theorem dL_law_844 : decode cL_law 844 = .ok (.iconst 3, 1) := by decide +kernel
theorem dL_law_845 : decode cL_law 845 = .ok (.iadd, 1) := by decide +kernel
theorem dL_law_846 : decode cL_law 846 = .ok (.iaload, 1) := by decide +kernel
theorem dL_law_847 : decode cL_law 847 = .ok (.invokevirtual 105, 3) := by decide +kernel
theorem dL_law_850 : decode cL_law 850 = .ok (.pop, 1) := by decide +kernel
theorem dL_law_851 : decode cL_law 851 = .ok (.goto 670, 3) := by decide +kernel
theorem dL_law_854 : decode cL_law 854 = .ok (.aload_n 1, 1) := by decide +kernel
theorem dL_law_855 : decode cL_law 855 = .ok (.aload_n 0, 1) := by decide +kernel
theorem dL_law_856 : decode cL_law 856 = .ok (.iload 4, 2) := by decide +kernel
theorem dL_law_858 : decode cL_law 858 = .ok (.iconst 1, 1) := by decide +kernel
theorem dL_law_859 : decode cL_law 859 = .ok (.iadd, 1) := by decide +kernel
theorem dL_law_860 : decode cL_law 860 = .ok (.iaload, 1) := by decide +kernel
theorem dL_law_861 : decode cL_law 861 = .ok (.aload_n 0, 1) := by decide +kernel
theorem dL_law_862 : decode cL_law 862 = .ok (.iload 4, 2) := by decide +kernel
theorem dL_law_864 : decode cL_law 864 = .ok (.iconst 2, 1) := by decide +kernel
theorem dL_law_865 : decode cL_law 865 = .ok (.iadd, 1) := by decide +kernel
theorem dL_law_866 : decode cL_law 866 = .ok (.iaload, 1) := by decide +kernel
theorem dL_law_867 : decode cL_law 867 = .ok (.aload_n 0, 1) := by decide +kernel
theorem dL_law_868 : decode cL_law 868 = .ok (.iload 4, 2) := by decide +kernel
theorem dL_law_870 : decode cL_law 870 = .ok (.iconst 3, 1) := by decide +kernel
theorem dL_law_871 : decode cL_law 871 = .ok (.iadd, 1) := by decide +kernel
theorem dL_law_872 : decode cL_law 872 = .ok (.iaload, 1) := by decide +kernel
theorem dL_law_873 : decode cL_law 873 = .ok (.invokevirtual 106, 3) := by decide +kernel
theorem dL_law_876 : decode cL_law 876 = .ok (.pop, 1) := by decide +kernel
theorem dL_law_877 : decode cL_law 877 = .ok (.aload_n 2, 1) := by decide +kernel
theorem dL_law_878 : decode cL_law 878 = .ok (.aload_n 0, 1) := by decide +kernel
theorem dL_law_879 : decode cL_law 879 = .ok (.iload 4, 2) := by decide +kernel
theorem dL_law_881 : decode cL_law 881 = .ok (.iconst 1, 1) := by decide +kernel
theorem dL_law_882 : decode cL_law 882 = .ok (.iadd, 1) := by decide +kernel
theorem dL_law_883 : decode cL_law 883 = .ok (.iaload, 1) := by decide +kernel
theorem dL_law_884 : decode cL_law 884 = .ok (.aload_n 0, 1) := by decide +kernel
theorem dL_law_885 : decode cL_law 885 = .ok (.iload 4, 2) := by decide +kernel
theorem dL_law_887 : decode cL_law 887 = .ok (.iconst 2, 1) := by decide +kernel
theorem dL_law_888 : decode cL_law 888 = .ok (.iadd, 1) := by decide +kernel
theorem dL_law_889 : decode cL_law 889 = .ok (.iaload, 1) := by decide +kernel
theorem dL_law_890 : decode cL_law 890 = .ok (.aload_n 0, 1) := by decide +kernel
theorem dL_law_891 : decode cL_law 891 = .ok (.iload 4, 2) := by decide +kernel
theorem dL_law_893 : decode cL_law 893 = .ok (.iconst 3, 1) := by decide +kernel
theorem dL_law_894 : decode cL_law 894 = .ok (.iadd, 1) := by decide +kernel
theorem dL_law_895 : decode cL_law 895 = .ok (.iaload, 1) := by decide +kernel
theorem dL_law_896 : decode cL_law 896 = .ok (.invokevirtual 109, 3) := by decide +kernel
theorem dL_law_899 : decode cL_law 899 = .ok (.pop, 1) := by decide +kernel
theorem dL_law_900 : decode cL_law 900 = .ok (.goto 621, 3) := by decide +kernel
theorem dL_law_903 : decode cL_law 903 = .ok (.aload_n 1, 1) := by decide +kernel
theorem dL_law_904 : decode cL_law 904 = .ok (.invokevirtual 110, 3) := by decide +kernel
theorem dL_law_907 : decode cL_law 907 = .ok (.pop, 1) := by decide +kernel
theorem dL_law_908 : decode cL_law 908 = .ok (.aload_n 2, 1) := by decide +kernel
theorem dL_law_909 : decode cL_law 909 = .ok (.invokevirtual 114, 3) := by decide +kernel
theorem dL_law_912 : decode cL_law 912 = .ok (.pop, 1) := by decide +kernel
theorem dL_law_913 : decode cL_law 913 = .ok (.goto 608, 3) := by decide +kernel
theorem dL_law_916 : decode cL_law 916 = .ok (.aload_n 1, 1) := by decide +kernel
theorem dL_law_917 : decode cL_law 917 = .ok (.aload_n 0, 1) := by decide +kernel
theorem dL_law_918 : decode cL_law 918 = .ok (.iload 4, 2) := by decide +kernel
theorem dL_law_920 : decode cL_law 920 = .ok (.iconst 1, 1) := by decide +kernel
theorem dL_law_921 : decode cL_law 921 = .ok (.iadd, 1) := by decide +kernel
theorem dL_law_922 : decode cL_law 922 = .ok (.iaload, 1) := by decide +kernel
theorem dL_law_923 : decode cL_law 923 = .ok (.aload_n 0, 1) := by decide +kernel
theorem dL_law_924 : decode cL_law 924 = .ok (.iload 4, 2) := by decide +kernel
theorem dL_law_926 : decode cL_law 926 = .ok (.iconst 2, 1) := by decide +kernel
theorem dL_law_927 : decode cL_law 927 = .ok (.iadd, 1) := by decide +kernel
theorem dL_law_928 : decode cL_law 928 = .ok (.iaload, 1) := by decide +kernel
theorem dL_law_929 : decode cL_law 929 = .ok (.aload_n 0, 1) := by decide +kernel
theorem dL_law_930 : decode cL_law 930 = .ok (.iload 4, 2) := by decide +kernel
theorem dL_law_932 : decode cL_law 932 = .ok (.iconst 3, 1) := by decide +kernel
theorem dL_law_933 : decode cL_law 933 = .ok (.iadd, 1) := by decide +kernel
theorem dL_law_934 : decode cL_law 934 = .ok (.iaload, 1) := by decide +kernel
theorem dL_law_935 : decode cL_law 935 = .ok (.invokevirtual 115, 3) := by decide +kernel
theorem dL_law_938 : decode cL_law 938 = .ok (.pop, 1) := by decide +kernel
theorem dL_law_939 : decode cL_law 939 = .ok (.aload_n 2, 1) := by decide +kernel
theorem dL_law_940 : decode cL_law 940 = .ok (.aload_n 0, 1) := by decide +kernel
theorem dL_law_941 : decode cL_law 941 = .ok (.iload 4, 2) := by decide +kernel
theorem dL_law_943 : decode cL_law 943 = .ok (.iconst 1, 1) := by decide +kernel
theorem dL_law_944 : decode cL_law 944 = .ok (.iadd, 1) := by decide +kernel
theorem dL_law_945 : decode cL_law 945 = .ok (.iaload, 1) := by decide +kernel
theorem dL_law_946 : decode cL_law 946 = .ok (.aload_n 0, 1) := by decide +kernel
theorem dL_law_947 : decode cL_law 947 = .ok (.iload 4, 2) := by decide +kernel
theorem dL_law_949 : decode cL_law 949 = .ok (.iconst 2, 1) := by decide +kernel
theorem dL_law_950 : decode cL_law 950 = .ok (.iadd, 1) := by decide +kernel
theorem dL_law_951 : decode cL_law 951 = .ok (.iaload, 1) := by decide +kernel
theorem dL_law_952 : decode cL_law 952 = .ok (.aload_n 0, 1) := by decide +kernel
theorem dL_law_953 : decode cL_law 953 = .ok (.iload 4, 2) := by decide +kernel
theorem dL_law_955 : decode cL_law 955 = .ok (.iconst 3, 1) := by decide +kernel
theorem dL_law_956 : decode cL_law 956 = .ok (.iadd, 1) := by decide +kernel
theorem dL_law_957 : decode cL_law 957 = .ok (.iaload, 1) := by decide +kernel
theorem dL_law_958 : decode cL_law 958 = .ok (.invokevirtual 118, 3) := by decide +kernel
theorem dL_law_961 : decode cL_law 961 = .ok (.pop, 1) := by decide +kernel
theorem dL_law_962 : decode cL_law 962 = .ok (.goto 559, 3) := by decide +kernel
theorem dL_law_965 : decode cL_law 965 = .ok (.aload_n 1, 1) := by decide +kernel
theorem dL_law_966 : decode cL_law 966 = .ok (.aload_n 0, 1) := by decide +kernel
theorem dL_law_967 : decode cL_law 967 = .ok (.iload 4, 2) := by decide +kernel
theorem dL_law_969 : decode cL_law 969 = .ok (.iconst 1, 1) := by decide +kernel
theorem dL_law_970 : decode cL_law 970 = .ok (.iadd, 1) := by decide +kernel
theorem dL_law_971 : decode cL_law 971 = .ok (.iaload, 1) := by decide +kernel
theorem dL_law_972 : decode cL_law 972 = .ok (.aload_n 0, 1) := by decide +kernel
theorem dL_law_973 : decode cL_law 973 = .ok (.iload 4, 2) := by decide +kernel
theorem dL_law_975 : decode cL_law 975 = .ok (.iconst 2, 1) := by decide +kernel
theorem dL_law_976 : decode cL_law 976 = .ok (.iadd, 1) := by decide +kernel
theorem dL_law_977 : decode cL_law 977 = .ok (.iaload, 1) := by decide +kernel
theorem dL_law_978 : decode cL_law 978 = .ok (.aload_n 0, 1) := by decide +kernel
theorem dL_law_979 : decode cL_law 979 = .ok (.iload 4, 2) := by decide +kernel
theorem dL_law_981 : decode cL_law 981 = .ok (.iconst 3, 1) := by decide +kernel
theorem dL_law_982 : decode cL_law 982 = .ok (.iadd, 1) := by decide +kernel
theorem dL_law_983 : decode cL_law 983 = .ok (.iaload, 1) := by decide +kernel
theorem dL_law_984 : decode cL_law 984 = .ok (.aload_n 0, 1) := by decide +kernel
theorem dL_law_985 : decode cL_law 985 = .ok (.iload 4, 2) := by decide +kernel
theorem dL_law_987 : decode cL_law 987 = .ok (.iconst 4, 1) := by decide +kernel
theorem dL_law_988 : decode cL_law 988 = .ok (.iadd, 1) := by decide +kernel
theorem dL_law_989 : decode cL_law 989 = .ok (.iaload, 1) := by decide +kernel
theorem dL_law_990 : decode cL_law 990 = .ok (.invokevirtual 119, 3) := by decide +kernel
theorem dL_law_993 : decode cL_law 993 = .ok (.pop, 1) := by decide +kernel
theorem dL_law_994 : decode cL_law 994 = .ok (.aload_n 2, 1) := by decide +kernel
theorem dL_law_995 : decode cL_law 995 = .ok (.aload_n 0, 1) := by decide +kernel
theorem dL_law_996 : decode cL_law 996 = .ok (.iload 4, 2) := by decide +kernel
theorem dL_law_998 : decode cL_law 998 = .ok (.iconst 1, 1) := by decide +kernel
theorem dL_law_999 : decode cL_law 999 = .ok (.iadd, 1) := by decide +kernel
theorem dL_law_1000 : decode cL_law 1000 = .ok (.iaload, 1) := by decide +kernel
theorem dL_law_1001 : decode cL_law 1001 = .ok (.aload_n 0, 1) := by decide +kernel
theorem dL_law_1002 : decode cL_law 1002 = .ok (.iload 4, 2) := by decide +kernel
theorem dL_law_1004 : decode cL_law 1004 = .ok (.iconst 2, 1) := by decide +kernel
theorem dL_law_1005 : decode cL_law 1005 = .ok (.iadd, 1) := by decide +kernel
theorem dL_law_1006 : decode cL_law 1006 = .ok (.iaload, 1) := by decide +kernel
theorem dL_law_1007 : decode cL_law 1007 = .ok (.aload_n 0, 1) := by decide +kernel
theorem dL_law_1008 : decode cL_law 1008 = .ok (.iload 4, 2) := by decide +kernel
theorem dL_law_1010 : decode cL_law 1010 = .ok (.iconst 3, 1) := by decide +kernel
theorem dL_law_1011 : decode cL_law 1011 = .ok (.iadd, 1) := by decide +kernel
theorem dL_law_1012 : decode cL_law 1012 = .ok (.iaload, 1) := by decide +kernel
theorem dL_law_1013 : decode cL_law 1013 = .ok (.aload_n 0, 1) := by decide +kernel
theorem dL_law_1014 : decode cL_law 1014 = .ok (.iload 4, 2) := by decide +kernel
theorem dL_law_1016 : decode cL_law 1016 = .ok (.iconst 4, 1) := by decide +kernel
theorem dL_law_1017 : decode cL_law 1017 = .ok (.iadd, 1) := by decide +kernel
theorem dL_law_1018 : decode cL_law 1018 = .ok (.iaload, 1) := by decide +kernel
theorem dL_law_1019 : decode cL_law 1019 = .ok (.invokevirtual 123, 3) := by decide +kernel
theorem dL_law_1022 : decode cL_law 1022 = .ok (.pop, 1) := by decide +kernel
theorem dL_law_1023 : decode cL_law 1023 = .ok (.goto 498, 3) := by decide +kernel
theorem dL_law_1026 : decode cL_law 1026 = .ok (.aload_n 1, 1) := by decide +kernel
theorem dL_law_1027 : decode cL_law 1027 = .ok (.aload_n 0, 1) := by decide +kernel
theorem dL_law_1028 : decode cL_law 1028 = .ok (.iload 4, 2) := by decide +kernel
theorem dL_law_1030 : decode cL_law 1030 = .ok (.iconst 1, 1) := by decide +kernel
theorem dL_law_1031 : decode cL_law 1031 = .ok (.iadd, 1) := by decide +kernel
theorem dL_law_1032 : decode cL_law 1032 = .ok (.iaload, 1) := by decide +kernel
theorem dL_law_1033 : decode cL_law 1033 = .ok (.aload_n 0, 1) := by decide +kernel
theorem dL_law_1034 : decode cL_law 1034 = .ok (.iload 4, 2) := by decide +kernel
theorem dL_law_1036 : decode cL_law 1036 = .ok (.iconst 2, 1) := by decide +kernel
theorem dL_law_1037 : decode cL_law 1037 = .ok (.iadd, 1) := by decide +kernel
theorem dL_law_1038 : decode cL_law 1038 = .ok (.iaload, 1) := by decide +kernel
theorem dL_law_1039 : decode cL_law 1039 = .ok (.aload_n 0, 1) := by decide +kernel
theorem dL_law_1040 : decode cL_law 1040 = .ok (.iload 4, 2) := by decide +kernel
theorem dL_law_1042 : decode cL_law 1042 = .ok (.iconst 3, 1) := by decide +kernel
theorem dL_law_1043 : decode cL_law 1043 = .ok (.iadd, 1) := by decide +kernel
theorem dL_law_1044 : decode cL_law 1044 = .ok (.iaload, 1) := by decide +kernel
theorem dL_law_1045 : decode cL_law 1045 = .ok (.aload_n 0, 1) := by decide +kernel
theorem dL_law_1046 : decode cL_law 1046 = .ok (.iload 4, 2) := by decide +kernel
theorem dL_law_1048 : decode cL_law 1048 = .ok (.iconst 4, 1) := by decide +kernel
theorem dL_law_1049 : decode cL_law 1049 = .ok (.iadd, 1) := by decide +kernel
theorem dL_law_1050 : decode cL_law 1050 = .ok (.iaload, 1) := by decide +kernel
theorem dL_law_1051 : decode cL_law 1051 = .ok (.invokevirtual 124, 3) := by decide +kernel
theorem dL_law_1054 : decode cL_law 1054 = .ok (.pop, 1) := by decide +kernel
theorem dL_law_1055 : decode cL_law 1055 = .ok (.aload_n 2, 1) := by decide +kernel
theorem dL_law_1056 : decode cL_law 1056 = .ok (.aload_n 0, 1) := by decide +kernel
theorem dL_law_1057 : decode cL_law 1057 = .ok (.iload 4, 2) := by decide +kernel
theorem dL_law_1059 : decode cL_law 1059 = .ok (.iconst 1, 1) := by decide +kernel
theorem dL_law_1060 : decode cL_law 1060 = .ok (.iadd, 1) := by decide +kernel
theorem dL_law_1061 : decode cL_law 1061 = .ok (.iaload, 1) := by decide +kernel
theorem dL_law_1062 : decode cL_law 1062 = .ok (.aload_n 0, 1) := by decide +kernel
theorem dL_law_1063 : decode cL_law 1063 = .ok (.iload 4, 2) := by decide +kernel
theorem dL_law_1065 : decode cL_law 1065 = .ok (.iconst 2, 1) := by decide +kernel
theorem dL_law_1066 : decode cL_law 1066 = .ok (.iadd, 1) := by decide +kernel
theorem dL_law_1067 : decode cL_law 1067 = .ok (.iaload, 1) := by decide +kernel
theorem dL_law_1068 : decode cL_law 1068 = .ok (.aload_n 0, 1) := by decide +kernel
theorem dL_law_1069 : decode cL_law 1069 = .ok (.iload 4, 2) := by decide +kernel
theorem dL_law_1071 : decode cL_law 1071 = .ok (.iconst 3, 1) := by decide +kernel
theorem dL_law_1072 : decode cL_law 1072 = .ok (.iadd, 1) := by decide +kernel
theorem dL_law_1073 : decode cL_law 1073 = .ok (.iaload, 1) := by decide +kernel
theorem dL_law_1074 : decode cL_law 1074 = .ok (.aload_n 0, 1) := by decide +kernel
theorem dL_law_1075 : decode cL_law 1075 = .ok (.iload 4, 2) := by decide +kernel
theorem dL_law_1077 : decode cL_law 1077 = .ok (.iconst 4, 1) := by decide +kernel
theorem dL_law_1078 : decode cL_law 1078 = .ok (.iadd, 1) := by decide +kernel
theorem dL_law_1079 : decode cL_law 1079 = .ok (.iaload, 1) := by decide +kernel
theorem dL_law_1080 : decode cL_law 1080 = .ok (.invokevirtual 127, 3) := by decide +kernel
theorem dL_law_1083 : decode cL_law 1083 = .ok (.pop, 1) := by decide +kernel
theorem dL_law_1084 : decode cL_law 1084 = .ok (.goto 437, 3) := by decide +kernel
theorem dL_law_1087 : decode cL_law 1087 = .ok (.aload_n 1, 1) := by decide +kernel
theorem dL_law_1088 : decode cL_law 1088 = .ok (.aload_n 0, 1) := by decide +kernel
theorem dL_law_1089 : decode cL_law 1089 = .ok (.iload 4, 2) := by decide +kernel
theorem dL_law_1091 : decode cL_law 1091 = .ok (.iconst 1, 1) := by decide +kernel
theorem dL_law_1092 : decode cL_law 1092 = .ok (.iadd, 1) := by decide +kernel
theorem dL_law_1093 : decode cL_law 1093 = .ok (.iaload, 1) := by decide +kernel
theorem dL_law_1094 : decode cL_law 1094 = .ok (.aload_n 0, 1) := by decide +kernel
theorem dL_law_1095 : decode cL_law 1095 = .ok (.iload 4, 2) := by decide +kernel
theorem dL_law_1097 : decode cL_law 1097 = .ok (.iconst 2, 1) := by decide +kernel
theorem dL_law_1098 : decode cL_law 1098 = .ok (.iadd, 1) := by decide +kernel
theorem dL_law_1099 : decode cL_law 1099 = .ok (.iaload, 1) := by decide +kernel
theorem dL_law_1100 : decode cL_law 1100 = .ok (.aload_n 0, 1) := by decide +kernel
theorem dL_law_1101 : decode cL_law 1101 = .ok (.iload 4, 2) := by decide +kernel
theorem dL_law_1103 : decode cL_law 1103 = .ok (.iconst 3, 1) := by decide +kernel
theorem dL_law_1104 : decode cL_law 1104 = .ok (.iadd, 1) := by decide +kernel
theorem dL_law_1105 : decode cL_law 1105 = .ok (.iaload, 1) := by decide +kernel
theorem dL_law_1106 : decode cL_law 1106 = .ok (.invokevirtual 128, 3) := by decide +kernel
theorem dL_law_1109 : decode cL_law 1109 = .ok (.pop, 1) := by decide +kernel
theorem dL_law_1110 : decode cL_law 1110 = .ok (.aload_n 2, 1) := by decide +kernel
theorem dL_law_1111 : decode cL_law 1111 = .ok (.aload_n 0, 1) := by decide +kernel
theorem dL_law_1112 : decode cL_law 1112 = .ok (.iload 4, 2) := by decide +kernel
theorem dL_law_1114 : decode cL_law 1114 = .ok (.iconst 1, 1) := by decide +kernel
theorem dL_law_1115 : decode cL_law 1115 = .ok (.iadd, 1) := by decide +kernel
theorem dL_law_1116 : decode cL_law 1116 = .ok (.iaload, 1) := by decide +kernel
theorem dL_law_1117 : decode cL_law 1117 = .ok (.aload_n 0, 1) := by decide +kernel
theorem dL_law_1118 : decode cL_law 1118 = .ok (.iload 4, 2) := by decide +kernel
theorem dL_law_1120 : decode cL_law 1120 = .ok (.iconst 2, 1) := by decide +kernel
theorem dL_law_1121 : decode cL_law 1121 = .ok (.iadd, 1) := by decide +kernel
theorem dL_law_1122 : decode cL_law 1122 = .ok (.iaload, 1) := by decide +kernel
theorem dL_law_1123 : decode cL_law 1123 = .ok (.aload_n 0, 1) := by decide +kernel
theorem dL_law_1124 : decode cL_law 1124 = .ok (.iload 4, 2) := by decide +kernel
theorem dL_law_1126 : decode cL_law 1126 = .ok (.iconst 3, 1) := by decide +kernel
theorem dL_law_1127 : decode cL_law 1127 = .ok (.iadd, 1) := by decide +kernel
theorem dL_law_1128 : decode cL_law 1128 = .ok (.iaload, 1) := by decide +kernel
theorem dL_law_1129 : decode cL_law 1129 = .ok (.invokevirtual 131, 3) := by decide +kernel
theorem dL_law_1132 : decode cL_law 1132 = .ok (.pop, 1) := by decide +kernel
theorem dL_law_1133 : decode cL_law 1133 = .ok (.goto 388, 3) := by decide +kernel
theorem dL_law_1136 : decode cL_law 1136 = .ok (.aload_n 1, 1) := by decide +kernel
theorem dL_law_1137 : decode cL_law 1137 = .ok (.aload_n 0, 1) := by decide +kernel
theorem dL_law_1138 : decode cL_law 1138 = .ok (.iload 4, 2) := by decide +kernel
theorem dL_law_1140 : decode cL_law 1140 = .ok (.iconst 1, 1) := by decide +kernel
theorem dL_law_1141 : decode cL_law 1141 = .ok (.iadd, 1) := by decide +kernel
theorem dL_law_1142 : decode cL_law 1142 = .ok (.iaload, 1) := by decide +kernel
theorem dL_law_1143 : decode cL_law 1143 = .ok (.aload_n 0, 1) := by decide +kernel
theorem dL_law_1144 : decode cL_law 1144 = .ok (.iload 4, 2) := by decide +kernel
theorem dL_law_1146 : decode cL_law 1146 = .ok (.iconst 2, 1) := by decide +kernel
theorem dL_law_1147 : decode cL_law 1147 = .ok (.iadd, 1) := by decide +kernel
theorem dL_law_1148 : decode cL_law 1148 = .ok (.iaload, 1) := by decide +kernel
theorem dL_law_1149 : decode cL_law 1149 = .ok (.invokevirtual 132, 3) := by decide +kernel
theorem dL_law_1152 : decode cL_law 1152 = .ok (.pop, 1) := by decide +kernel
theorem dL_law_1153 : decode cL_law 1153 = .ok (.aload_n 2, 1) := by decide +kernel
theorem dL_law_1154 : decode cL_law 1154 = .ok (.aload_n 0, 1) := by decide +kernel
theorem dL_law_1155 : decode cL_law 1155 = .ok (.iload 4, 2) := by decide +kernel
theorem dL_law_1157 : decode cL_law 1157 = .ok (.iconst 1, 1) := by decide +kernel
theorem dL_law_1158 : decode cL_law 1158 = .ok (.iadd, 1) := by decide +kernel
theorem dL_law_1159 : decode cL_law 1159 = .ok (.iaload, 1) := by decide +kernel
theorem dL_law_1160 : decode cL_law 1160 = .ok (.aload_n 0, 1) := by decide +kernel
theorem dL_law_1161 : decode cL_law 1161 = .ok (.iload 4, 2) := by decide +kernel
theorem dL_law_1163 : decode cL_law 1163 = .ok (.iconst 2, 1) := by decide +kernel
theorem dL_law_1164 : decode cL_law 1164 = .ok (.iadd, 1) := by decide +kernel
theorem dL_law_1165 : decode cL_law 1165 = .ok (.iaload, 1) := by decide +kernel
theorem dL_law_1166 : decode cL_law 1166 = .ok (.invokevirtual 135, 3) := by decide +kernel
theorem dL_law_1169 : decode cL_law 1169 = .ok (.pop, 1) := by decide +kernel
theorem dL_law_1170 : decode cL_law 1170 = .ok (.goto 351, 3) := by decide +kernel
theorem dL_law_1173 : decode cL_law 1173 = .ok (.aload_n 1, 1) := by decide +kernel
theorem dL_law_1174 : decode cL_law 1174 = .ok (.aload_n 0, 1) := by decide +kernel
theorem dL_law_1175 : decode cL_law 1175 = .ok (.iload 4, 2) := by decide +kernel
theorem dL_law_1177 : decode cL_law 1177 = .ok (.iconst 1, 1) := by decide +kernel
theorem dL_law_1178 : decode cL_law 1178 = .ok (.iadd, 1) := by decide +kernel
theorem dL_law_1179 : decode cL_law 1179 = .ok (.iaload, 1) := by decide +kernel
theorem dL_law_1180 : decode cL_law 1180 = .ok (.aload_n 0, 1) := by decide +kernel
theorem dL_law_1181 : decode cL_law 1181 = .ok (.iload 4, 2) := by decide +kernel
theorem dL_law_1183 : decode cL_law 1183 = .ok (.iconst 2, 1) := by decide +kernel
theorem dL_law_1184 : decode cL_law 1184 = .ok (.iadd, 1) := by decide +kernel
theorem dL_law_1185 : decode cL_law 1185 = .ok (.iaload, 1) := by decide +kernel
theorem dL_law_1186 : decode cL_law 1186 = .ok (.aload_n 0, 1) := by decide +kernel
theorem dL_law_1187 : decode cL_law 1187 = .ok (.iload 4, 2) := by decide +kernel
theorem dL_law_1189 : decode cL_law 1189 = .ok (.iconst 3, 1) := by decide +kernel
theorem dL_law_1190 : decode cL_law 1190 = .ok (.iadd, 1) := by decide +kernel
theorem dL_law_1191 : decode cL_law 1191 = .ok (.iaload, 1) := by decide +kernel
theorem dL_law_1192 : decode cL_law 1192 = .ok (.invokevirtual 136, 3) := by decide +kernel
theorem dL_law_1195 : decode cL_law 1195 = .ok (.pop, 1) := by decide +kernel
theorem dL_law_1196 : decode cL_law 1196 = .ok (.aload_n 2, 1) := by decide +kernel
theorem dL_law_1197 : decode cL_law 1197 = .ok (.aload_n 0, 1) := by decide +kernel
theorem dL_law_1198 : decode cL_law 1198 = .ok (.iload 4, 2) := by decide +kernel
theorem dL_law_1200 : decode cL_law 1200 = .ok (.iconst 1, 1) := by decide +kernel
theorem dL_law_1201 : decode cL_law 1201 = .ok (.iadd, 1) := by decide +kernel
theorem dL_law_1202 : decode cL_law 1202 = .ok (.iaload, 1) := by decide +kernel
theorem dL_law_1203 : decode cL_law 1203 = .ok (.aload_n 0, 1) := by decide +kernel
theorem dL_law_1204 : decode cL_law 1204 = .ok (.iload 4, 2) := by decide +kernel
theorem dL_law_1206 : decode cL_law 1206 = .ok (.iconst 2, 1) := by decide +kernel
theorem dL_law_1207 : decode cL_law 1207 = .ok (.iadd, 1) := by decide +kernel
theorem dL_law_1208 : decode cL_law 1208 = .ok (.iaload, 1) := by decide +kernel
theorem dL_law_1209 : decode cL_law 1209 = .ok (.aload_n 0, 1) := by decide +kernel
theorem dL_law_1210 : decode cL_law 1210 = .ok (.iload 4, 2) := by decide +kernel
theorem dL_law_1212 : decode cL_law 1212 = .ok (.iconst 3, 1) := by decide +kernel
theorem dL_law_1213 : decode cL_law 1213 = .ok (.iadd, 1) := by decide +kernel
theorem dL_law_1214 : decode cL_law 1214 = .ok (.iaload, 1) := by decide +kernel
theorem dL_law_1215 : decode cL_law 1215 = .ok (.invokevirtual 139, 3) := by decide +kernel
theorem dL_law_1218 : decode cL_law 1218 = .ok (.pop, 1) := by decide +kernel
theorem dL_law_1219 : decode cL_law 1219 = .ok (.goto 302, 3) := by decide +kernel
theorem dL_law_1222 : decode cL_law 1222 = .ok (.aload_n 1, 1) := by decide +kernel
theorem dL_law_1223 : decode cL_law 1223 = .ok (.aload_n 0, 1) := by decide +kernel
theorem dL_law_1224 : decode cL_law 1224 = .ok (.iload 4, 2) := by decide +kernel
theorem dL_law_1226 : decode cL_law 1226 = .ok (.iconst 1, 1) := by decide +kernel
theorem dL_law_1227 : decode cL_law 1227 = .ok (.iadd, 1) := by decide +kernel
theorem dL_law_1228 : decode cL_law 1228 = .ok (.iaload, 1) := by decide +kernel
theorem dL_law_1229 : decode cL_law 1229 = .ok (.invokevirtual 140, 3) := by decide +kernel
theorem dL_law_1232 : decode cL_law 1232 = .ok (.pop, 1) := by decide +kernel
theorem dL_law_1233 : decode cL_law 1233 = .ok (.aload_n 2, 1) := by decide +kernel
theorem dL_law_1234 : decode cL_law 1234 = .ok (.aload_n 0, 1) := by decide +kernel
theorem dL_law_1235 : decode cL_law 1235 = .ok (.iload 4, 2) := by decide +kernel
theorem dL_law_1237 : decode cL_law 1237 = .ok (.iconst 1, 1) := by decide +kernel
theorem dL_law_1238 : decode cL_law 1238 = .ok (.iadd, 1) := by decide +kernel
theorem dL_law_1239 : decode cL_law 1239 = .ok (.iaload, 1) := by decide +kernel
theorem dL_law_1240 : decode cL_law 1240 = .ok (.invokevirtual 143, 3) := by decide +kernel
theorem dL_law_1243 : decode cL_law 1243 = .ok (.pop, 1) := by decide +kernel
theorem dL_law_1244 : decode cL_law 1244 = .ok (.goto 277, 3) := by decide +kernel
theorem dL_law_1247 : decode cL_law 1247 = .ok (.aload_n 1, 1) := by decide +kernel
theorem dL_law_1248 : decode cL_law 1248 = .ok (.aload_n 0, 1) := by decide +kernel
theorem dL_law_1249 : decode cL_law 1249 = .ok (.iload 4, 2) := by decide +kernel
theorem dL_law_1251 : decode cL_law 1251 = .ok (.iconst 1, 1) := by decide +kernel
theorem dL_law_1252 : decode cL_law 1252 = .ok (.iadd, 1) := by decide +kernel
theorem dL_law_1253 : decode cL_law 1253 = .ok (.iaload, 1) := by decide +kernel
theorem dL_law_1254 : decode cL_law 1254 = .ok (.invokevirtual 144, 3) := by decide +kernel
theorem dL_law_1257 : decode cL_law 1257 = .ok (.pop, 1) := by decide +kernel
theorem dL_law_1258 : decode cL_law 1258 = .ok (.aload_n 2, 1) := by decide +kernel
theorem dL_law_1259 : decode cL_law 1259 = .ok (.aload_n 0, 1) := by decide +kernel
theorem dL_law_1260 : decode cL_law 1260 = .ok (.iload 4, 2) := by decide +kernel
theorem dL_law_1262 : decode cL_law 1262 = .ok (.iconst 1, 1) := by decide +kernel
theorem dL_law_1263 : decode cL_law 1263 = .ok (.iadd, 1) := by decide +kernel
theorem dL_law_1264 : decode cL_law 1264 = .ok (.iaload, 1) := by decide +kernel
theorem dL_law_1265 : decode cL_law 1265 = .ok (.invokevirtual 147, 3) := by decide +kernel
theorem dL_law_1268 : decode cL_law 1268 = .ok (.pop, 1) := by decide +kernel
theorem dL_law_1269 : decode cL_law 1269 = .ok (.goto 252, 3) := by decide +kernel
theorem dL_law_1272 : decode cL_law 1272 = .ok (.aload_n 1, 1) := by decide +kernel
theorem dL_law_1273 : decode cL_law 1273 = .ok (.invokevirtual 148, 3) := by decide +kernel
theorem dL_law_1276 : decode cL_law 1276 = .ok (.pop, 1) := by decide +kernel
theorem dL_law_1277 : decode cL_law 1277 = .ok (.aload_n 2, 1) := by decide +kernel
theorem dL_law_1278 : decode cL_law 1278 = .ok (.invokevirtual 151, 3) := by decide +kernel
theorem dL_law_1281 : decode cL_law 1281 = .ok (.pop, 1) := by decide +kernel
theorem dL_law_1282 : decode cL_law 1282 = .ok (.goto 239, 3) := by decide +kernel
theorem dL_law_1285 : decode cL_law 1285 = .ok (.aload_n 1, 1) := by decide +kernel
theorem dL_law_1286 : decode cL_law 1286 = .ok (.aload_n 0, 1) := by decide +kernel
theorem dL_law_1287 : decode cL_law 1287 = .ok (.iload 4, 2) := by decide +kernel
theorem dL_law_1289 : decode cL_law 1289 = .ok (.iconst 1, 1) := by decide +kernel
theorem dL_law_1290 : decode cL_law 1290 = .ok (.iadd, 1) := by decide +kernel
theorem dL_law_1291 : decode cL_law 1291 = .ok (.iaload, 1) := by decide +kernel
theorem dL_law_1292 : decode cL_law 1292 = .ok (.aload_n 0, 1) := by decide +kernel
theorem dL_law_1293 : decode cL_law 1293 = .ok (.iload 4, 2) := by decide +kernel
theorem dL_law_1295 : decode cL_law 1295 = .ok (.iconst 2, 1) := by decide +kernel
theorem dL_law_1296 : decode cL_law 1296 = .ok (.iadd, 1) := by decide +kernel
theorem dL_law_1297 : decode cL_law 1297 = .ok (.iaload, 1) := by decide +kernel
theorem dL_law_1298 : decode cL_law 1298 = .ok (.invokevirtual 152, 3) := by decide +kernel
theorem dL_law_1301 : decode cL_law 1301 = .ok (.pop, 1) := by decide +kernel
theorem dL_law_1302 : decode cL_law 1302 = .ok (.aload_n 2, 1) := by decide +kernel
theorem dL_law_1303 : decode cL_law 1303 = .ok (.aload_n 0, 1) := by decide +kernel
theorem dL_law_1304 : decode cL_law 1304 = .ok (.iload 4, 2) := by decide +kernel
theorem dL_law_1306 : decode cL_law 1306 = .ok (.iconst 1, 1) := by decide +kernel
theorem dL_law_1307 : decode cL_law 1307 = .ok (.iadd, 1) := by decide +kernel
theorem dL_law_1308 : decode cL_law 1308 = .ok (.iaload, 1) := by decide +kernel
theorem dL_law_1309 : decode cL_law 1309 = .ok (.aload_n 0, 1) := by decide +kernel
theorem dL_law_1310 : decode cL_law 1310 = .ok (.iload 4, 2) := by decide +kernel
theorem dL_law_1312 : decode cL_law 1312 = .ok (.iconst 2, 1) := by decide +kernel
theorem dL_law_1313 : decode cL_law 1313 = .ok (.iadd, 1) := by decide +kernel
theorem dL_law_1314 : decode cL_law 1314 = .ok (.iaload, 1) := by decide +kernel
theorem dL_law_1315 : decode cL_law 1315 = .ok (.invokevirtual 155, 3) := by decide +kernel
theorem dL_law_1318 : decode cL_law 1318 = .ok (.pop, 1) := by decide +kernel
theorem dL_law_1319 : decode cL_law 1319 = .ok (.goto 202, 3) := by decide +kernel
theorem dL_law_1322 : decode cL_law 1322 = .ok (.aload_n 1, 1) := by decide +kernel
theorem dL_law_1323 : decode cL_law 1323 = .ok (.aload_n 0, 1) := by decide +kernel
theorem dL_law_1324 : decode cL_law 1324 = .ok (.iload 4, 2) := by decide +kernel
theorem dL_law_1326 : decode cL_law 1326 = .ok (.iconst 1, 1) := by decide +kernel
theorem dL_law_1327 : decode cL_law 1327 = .ok (.iadd, 1) := by decide +kernel
theorem dL_law_1328 : decode cL_law 1328 = .ok (.iaload, 1) := by decide +kernel
theorem dL_law_1329 : decode cL_law 1329 = .ok (.aload_n 0, 1) := by decide +kernel
theorem dL_law_1330 : decode cL_law 1330 = .ok (.iload 4, 2) := by decide +kernel
theorem dL_law_1332 : decode cL_law 1332 = .ok (.iconst 2, 1) := by decide +kernel
theorem dL_law_1333 : decode cL_law 1333 = .ok (.iadd, 1) := by decide +kernel
theorem dL_law_1334 : decode cL_law 1334 = .ok (.iaload, 1) := by decide +kernel
theorem dL_law_1335 : decode cL_law 1335 = .ok (.invokevirtual 156, 3) := by decide +kernel
theorem dL_law_1338 : decode cL_law 1338 = .ok (.pop, 1) := by decide +kernel
theorem dL_law_1339 : decode cL_law 1339 = .ok (.aload_n 2, 1) := by decide +kernel
theorem dL_law_1340 : decode cL_law 1340 = .ok (.aload_n 0, 1) := by decide +kernel
theorem dL_law_1341 : decode cL_law 1341 = .ok (.iload 4, 2) := by decide +kernel
theorem dL_law_1343 : decode cL_law 1343 = .ok (.iconst 1, 1) := by decide +kernel
theorem dL_law_1344 : decode cL_law 1344 = .ok (.iadd, 1) := by decide +kernel
theorem dL_law_1345 : decode cL_law 1345 = .ok (.iaload, 1) := by decide +kernel
theorem dL_law_1346 : decode cL_law 1346 = .ok (.aload_n 0, 1) := by decide +kernel
theorem dL_law_1347 : decode cL_law 1347 = .ok (.iload 4, 2) := by decide +kernel
theorem dL_law_1349 : decode cL_law 1349 = .ok (.iconst 2, 1) := by decide +kernel
theorem dL_law_1350 : decode cL_law 1350 = .ok (.iadd, 1) := by decide +kernel
theorem dL_law_1351 : decode cL_law 1351 = .ok (.iaload, 1) := by decide +kernel
theorem dL_law_1352 : decode cL_law 1352 = .ok (.invokevirtual 159, 3) := by decide +kernel
theorem dL_law_1355 : decode cL_law 1355 = .ok (.pop, 1) := by decide +kernel
theorem dL_law_1356 : decode cL_law 1356 = .ok (.goto 165, 3) := by decide +kernel
theorem dL_law_1359 : decode cL_law 1359 = .ok (.aload_n 1, 1) := by decide +kernel
theorem dL_law_1360 : decode cL_law 1360 = .ok (.aload_n 0, 1) := by decide +kernel
theorem dL_law_1361 : decode cL_law 1361 = .ok (.iload 4, 2) := by decide +kernel
theorem dL_law_1363 : decode cL_law 1363 = .ok (.iconst 1, 1) := by decide +kernel
theorem dL_law_1364 : decode cL_law 1364 = .ok (.iadd, 1) := by decide +kernel
theorem dL_law_1365 : decode cL_law 1365 = .ok (.iaload, 1) := by decide +kernel
theorem dL_law_1366 : decode cL_law 1366 = .ok (.aload_n 0, 1) := by decide +kernel
theorem dL_law_1367 : decode cL_law 1367 = .ok (.iload 4, 2) := by decide +kernel
theorem dL_law_1369 : decode cL_law 1369 = .ok (.iconst 2, 1) := by decide +kernel
theorem dL_law_1370 : decode cL_law 1370 = .ok (.iadd, 1) := by decide +kernel
theorem dL_law_1371 : decode cL_law 1371 = .ok (.iaload, 1) := by decide +kernel
theorem dL_law_1372 : decode cL_law 1372 = .ok (.aload_n 0, 1) := by decide +kernel
theorem dL_law_1373 : decode cL_law 1373 = .ok (.iload 4, 2) := by decide +kernel
theorem dL_law_1375 : decode cL_law 1375 = .ok (.iconst 3, 1) := by decide +kernel
theorem dL_law_1376 : decode cL_law 1376 = .ok (.iadd, 1) := by decide +kernel
theorem dL_law_1377 : decode cL_law 1377 = .ok (.iaload, 1) := by decide +kernel
theorem dL_law_1378 : decode cL_law 1378 = .ok (.invokevirtual 160, 3) := by decide +kernel
theorem dL_law_1381 : decode cL_law 1381 = .ok (.pop, 1) := by decide +kernel
theorem dL_law_1382 : decode cL_law 1382 = .ok (.aload_n 2, 1) := by decide +kernel
theorem dL_law_1383 : decode cL_law 1383 = .ok (.aload_n 0, 1) := by decide +kernel
theorem dL_law_1384 : decode cL_law 1384 = .ok (.iload 4, 2) := by decide +kernel
theorem dL_law_1386 : decode cL_law 1386 = .ok (.iconst 1, 1) := by decide +kernel
theorem dL_law_1387 : decode cL_law 1387 = .ok (.iadd, 1) := by decide +kernel
theorem dL_law_1388 : decode cL_law 1388 = .ok (.iaload, 1) := by decide +kernel
theorem dL_law_1389 : decode cL_law 1389 = .ok (.aload_n 0, 1) := by decide +kernel
theorem dL_law_1390 : decode cL_law 1390 = .ok (.iload 4, 2) := by decide +kernel
theorem dL_law_1392 : decode cL_law 1392 = .ok (.iconst 2, 1) := by decide +kernel
theorem dL_law_1393 : decode cL_law 1393 = .ok (.iadd, 1) := by decide +kernel
theorem dL_law_1394 : decode cL_law 1394 = .ok (.iaload, 1) := by decide +kernel
theorem dL_law_1395 : decode cL_law 1395 = .ok (.aload_n 0, 1) := by decide +kernel
theorem dL_law_1396 : decode cL_law 1396 = .ok (.iload 4, 2) := by decide +kernel
theorem dL_law_1398 : decode cL_law 1398 = .ok (.iconst 3, 1) := by decide +kernel
theorem dL_law_1399 : decode cL_law 1399 = .ok (.iadd, 1) := by decide +kernel
theorem dL_law_1400 : decode cL_law 1400 = .ok (.iaload, 1) := by decide +kernel
theorem dL_law_1401 : decode cL_law 1401 = .ok (.invokevirtual 163, 3) := by decide +kernel
theorem dL_law_1404 : decode cL_law 1404 = .ok (.pop, 1) := by decide +kernel
theorem dL_law_1405 : decode cL_law 1405 = .ok (.goto 116, 3) := by decide +kernel
theorem dL_law_1408 : decode cL_law 1408 = .ok (.aload_n 1, 1) := by decide +kernel
theorem dL_law_1409 : decode cL_law 1409 = .ok (.aload_n 0, 1) := by decide +kernel
theorem dL_law_1410 : decode cL_law 1410 = .ok (.iload 4, 2) := by decide +kernel
theorem dL_law_1412 : decode cL_law 1412 = .ok (.iconst 1, 1) := by decide +kernel
theorem dL_law_1413 : decode cL_law 1413 = .ok (.iadd, 1) := by decide +kernel
theorem dL_law_1414 : decode cL_law 1414 = .ok (.iaload, 1) := by decide +kernel
theorem dL_law_1415 : decode cL_law 1415 = .ok (.aload_n 0, 1) := by decide +kernel
theorem dL_law_1416 : decode cL_law 1416 = .ok (.iload 4, 2) := by decide +kernel
theorem dL_law_1418 : decode cL_law 1418 = .ok (.iconst 2, 1) := by decide +kernel
theorem dL_law_1419 : decode cL_law 1419 = .ok (.iadd, 1) := by decide +kernel
theorem dL_law_1420 : decode cL_law 1420 = .ok (.iaload, 1) := by decide +kernel
theorem dL_law_1421 : decode cL_law 1421 = .ok (.aload_n 0, 1) := by decide +kernel
theorem dL_law_1422 : decode cL_law 1422 = .ok (.iload 4, 2) := by decide +kernel
theorem dL_law_1424 : decode cL_law 1424 = .ok (.iconst 3, 1) := by decide +kernel
theorem dL_law_1425 : decode cL_law 1425 = .ok (.iadd, 1) := by decide +kernel
theorem dL_law_1426 : decode cL_law 1426 = .ok (.iaload, 1) := by decide +kernel
theorem dL_law_1427 : decode cL_law 1427 = .ok (.invokevirtual 164, 3) := by decide +kernel
theorem dL_law_1430 : decode cL_law 1430 = .ok (.pop, 1) := by decide +kernel
theorem dL_law_1431 : decode cL_law 1431 = .ok (.aload_n 2, 1) := by decide +kernel
theorem dL_law_1432 : decode cL_law 1432 = .ok (.aload_n 0, 1) := by decide +kernel
theorem dL_law_1433 : decode cL_law 1433 = .ok (.iload 4, 2) := by decide +kernel
theorem dL_law_1435 : decode cL_law 1435 = .ok (.iconst 1, 1) := by decide +kernel
theorem dL_law_1436 : decode cL_law 1436 = .ok (.iadd, 1) := by decide +kernel
theorem dL_law_1437 : decode cL_law 1437 = .ok (.iaload, 1) := by decide +kernel
theorem dL_law_1438 : decode cL_law 1438 = .ok (.aload_n 0, 1) := by decide +kernel
theorem dL_law_1439 : decode cL_law 1439 = .ok (.iload 4, 2) := by decide +kernel
theorem dL_law_1441 : decode cL_law 1441 = .ok (.iconst 2, 1) := by decide +kernel
theorem dL_law_1442 : decode cL_law 1442 = .ok (.iadd, 1) := by decide +kernel
theorem dL_law_1443 : decode cL_law 1443 = .ok (.iaload, 1) := by decide +kernel
theorem dL_law_1444 : decode cL_law 1444 = .ok (.aload_n 0, 1) := by decide +kernel
theorem dL_law_1445 : decode cL_law 1445 = .ok (.iload 4, 2) := by decide +kernel
theorem dL_law_1447 : decode cL_law 1447 = .ok (.iconst 3, 1) := by decide +kernel
theorem dL_law_1448 : decode cL_law 1448 = .ok (.iadd, 1) := by decide +kernel
theorem dL_law_1449 : decode cL_law 1449 = .ok (.iaload, 1) := by decide +kernel
theorem dL_law_1450 : decode cL_law 1450 = .ok (.invokevirtual 167, 3) := by decide +kernel
theorem dL_law_1453 : decode cL_law 1453 = .ok (.pop, 1) := by decide +kernel
theorem dL_law_1454 : decode cL_law 1454 = .ok (.goto 67, 3) := by decide +kernel
theorem dL_law_1457 : decode cL_law 1457 = .ok (.aload_n 1, 1) := by decide +kernel
theorem dL_law_1458 : decode cL_law 1458 = .ok (.invokevirtual 168, 3) := by decide +kernel
theorem dL_law_1461 : decode cL_law 1461 = .ok (.pop, 1) := by decide +kernel
theorem dL_law_1462 : decode cL_law 1462 = .ok (.aload_n 2, 1) := by decide +kernel
theorem dL_law_1463 : decode cL_law 1463 = .ok (.invokevirtual 171, 3) := by decide +kernel
theorem dL_law_1466 : decode cL_law 1466 = .ok (.pop, 1) := by decide +kernel
theorem dL_law_1467 : decode cL_law 1467 = .ok (.goto 54, 3) := by decide +kernel
theorem dL_law_1470 : decode cL_law 1470 = .ok (.aload_n 1, 1) := by decide +kernel
theorem dL_law_1471 : decode cL_law 1471 = .ok (.invokevirtual 172, 3) := by decide +kernel
theorem dL_law_1474 : decode cL_law 1474 = .ok (.pop, 1) := by decide +kernel
theorem dL_law_1475 : decode cL_law 1475 = .ok (.aload_n 2, 1) := by decide +kernel
theorem dL_law_1476 : decode cL_law 1476 = .ok (.invokevirtual 175, 3) := by decide +kernel
theorem dL_law_1479 : decode cL_law 1479 = .ok (.pop, 1) := by decide +kernel
theorem dL_law_1480 : decode cL_law 1480 = .ok (.goto 41, 3) := by decide +kernel
theorem dL_law_1483 : decode cL_law 1483 = .ok (.aload_n 1, 1) := by decide +kernel
theorem dL_law_1484 : decode cL_law 1484 = .ok (.invokevirtual 176, 3) := by decide +kernel
theorem dL_law_1487 : decode cL_law 1487 = .ok (.pop, 1) := by decide +kernel
theorem dL_law_1488 : decode cL_law 1488 = .ok (.aload_n 2, 1) := by decide +kernel
theorem dL_law_1489 : decode cL_law 1489 = .ok (.invokevirtual 179, 3) := by decide +kernel
theorem dL_law_1492 : decode cL_law 1492 = .ok (.pop, 1) := by decide +kernel
theorem dL_law_1493 : decode cL_law 1493 = .ok (.goto 28, 3) := by decide +kernel
theorem dL_law_1496 : decode cL_law 1496 = .ok (.aload_n 1, 1) := by decide +kernel
theorem dL_law_1497 : decode cL_law 1497 = .ok (.aload_n 0, 1) := by decide +kernel
theorem dL_law_1498 : decode cL_law 1498 = .ok (.iload 4, 2) := by decide +kernel
theorem dL_law_1500 : decode cL_law 1500 = .ok (.iconst 1, 1) := by decide +kernel
theorem dL_law_1501 : decode cL_law 1501 = .ok (.iadd, 1) := by decide +kernel
theorem dL_law_1502 : decode cL_law 1502 = .ok (.iaload, 1) := by decide +kernel
theorem dL_law_1503 : decode cL_law 1503 = .ok (.invokevirtual 180, 3) := by decide +kernel
theorem dL_law_1506 : decode cL_law 1506 = .ok (.pop, 1) := by decide +kernel
theorem dL_law_1507 : decode cL_law 1507 = .ok (.aload_n 2, 1) := by decide +kernel
theorem dL_law_1508 : decode cL_law 1508 = .ok (.aload_n 0, 1) := by decide +kernel
theorem dL_law_1509 : decode cL_law 1509 = .ok (.iload 4, 2) := by decide +kernel
theorem dL_law_1511 : decode cL_law 1511 = .ok (.iconst 1, 1) := by decide +kernel
theorem dL_law_1512 : decode cL_law 1512 = .ok (.iadd, 1) := by decide +kernel
theorem dL_law_1513 : decode cL_law 1513 = .ok (.iaload, 1) := by decide +kernel
theorem dL_law_1514 : decode cL_law 1514 = .ok (.invokevirtual 183, 3) := by decide +kernel
theorem dL_law_1517 : decode cL_law 1517 = .ok (.pop, 1) := by decide +kernel
theorem dL_law_1518 : decode cL_law 1518 = .ok (.goto 3, 3) := by decide +kernel
theorem dL_law_1521 : decode cL_law 1521 = .ok (.iinc 4 6, 3) := by decide +kernel
theorem dL_law_1524 : decode cL_law 1524 = .ok (.goto (-1501), 3) := by decide +kernel
theorem dL_law_1527 : decode cL_law 1527 = .ok (.iconst 1, 1) := by decide +kernel
theorem dL_law_1528 : decode cL_law 1528 = .ok (.ireturn, 1) := by decide +kernel

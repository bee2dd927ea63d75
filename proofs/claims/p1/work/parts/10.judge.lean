theorem dX0_broken_0 : decode cX0_broken 0 = .ok (.aload_n 0, 1) := by decide +kernel
theorem dX0_broken_1 : decode cX0_broken 1 = .ok (.aload_n 0, 1) := by decide +kernel
theorem dX0_broken_2 : decode cX0_broken 2 = .ok (.getfield 38, 3) := by decide +kernel
theorem dX0_broken_5 : decode cX0_broken 5 = .ok (.iload_n 1, 1) := by decide +kernel
theorem dX0_broken_6 : decode cX0_broken 6 = .ok (.invokestatic 84, 3) := by decide +kernel
theorem dX0_broken_9 : decode cX0_broken 9 = .ok (.putfield 38, 3) := by decide +kernel
theorem dX0_broken_12 : decode cX0_broken 12 = .ok (.return_, 1) := by decide +kernel
theorem dX0_check_0 : decode cX0_check 0 = .ok (.aload_n 0, 1) := by decide +kernel
theorem dX0_check_1 : decode cX0_check 1 = .ok (.aload_n 1, 1) := by decide +kernel
theorem dX0_check_2 : decode cX0_check 2 = .ok (.getfield 15, 3) := by decide +kernel
theorem dX0_check_5 : decode cX0_check 5 = .ok (.putfield 21, 3) := by decide +kernel
theorem dX0_check_8 : decode cX0_check 8 = .ok (.aload_n 0, 1) := by decide +kernel
theorem dX0_check_9 : decode cX0_check 9 = .ok (.aload_n 1, 1) := by decide +kernel
theorem dX0_check_10 : decode cX0_check 10 = .ok (.getfield 22, 3) := by decide +kernel
theorem dX0_check_13 : decode cX0_check 13 = .ok (.putfield 26, 3) := by decide +kernel
theorem dX0_check_16 : decode cX0_check 16 = .ok (.aload_n 0, 1) := by decide +kernel
theorem dX0_check_17 : decode cX0_check 17 = .ok (.aload_n 1, 1) := by decide +kernel
theorem dX0_check_18 : decode cX0_check 18 = .ok (.getfield 27, 3) := by decide +kernel
theorem dX0_check_21 : decode cX0_check 21 = .ok (.putfield 31, 3) := by decide +kernel
theorem dX0_check_24 : decode cX0_check 24 = .ok (.aload_n 0, 1) := by decide +kernel
theorem dX0_check_25 : decode cX0_check 25 = .ok (.aload_n 1, 1) := by decide +kernel
theorem dX0_check_26 : decode cX0_check 26 = .ok (.getfield 32, 3) := by decide +kernel
theorem dX0_check_29 : decode cX0_check 29 = .ok (.putfield 36, 3) := by decide +kernel
theorem dX0_check_32 : decode cX0_check 32 = .ok (.aload_n 0, 1) := by decide +kernel
theorem dX0_check_33 : decode cX0_check 33 = .ok (.ldc 37, 2) := by decide +kernel
theorem dX0_check_35 : decode cX0_check 35 = .ok (.putfield 38, 3) := by decide +kernel
theorem dX0_check_38 : decode cX0_check 38 = .ok (.aload_n 0, 1) := by decide +kernel
theorem dX0_check_39 : decode cX0_check 39 = .ok (.getfield 9, 3) := by decide +kernel
theorem dX0_check_42 : decode cX0_check 42 = .ok (.getfield 42, 3) := by decide +kernel
theorem dX0_check_45 : decode cX0_check 45 = .ok (.iconst 1, 1) := by decide +kernel
theorem dX0_check_46 : decode cX0_check 46 = .ok (.iaload, 1) := by decide +kernel
theorem dX0_check_47 : decode cX0_check 47 = .ok (.istore_n 3, 1) := by decide +kernel
theorem dX0_check_48 : decode cX0_check 48 = .ok (.aload_n 0, 1) := by decide +kernel
theorem dX0_check_49 : decode cX0_check 49 = .ok (.iload_n 3, 1) := by decide +kernel
theorem dX0_check_50 : decode cX0_check 50 = .ok (.invokevirtual 48, 3) := by decide +kernel
theorem dX0_check_53 : decode cX0_check 53 = .ok (.iconst 0, 1) := by decide +kernel
theorem dX0_check_54 : decode cX0_check 54 = .ok (.istore 4, 2) := by decide +kernel
theorem dX0_check_56 : decode cX0_check 56 = .ok (.iload_n 3, 1) := by decide +kernel
theorem dX0_check_57 : decode cX0_check 57 = .ok (.istore 5, 2) := by decide +kernel
theorem dX0_check_59 : decode cX0_check 59 = .ok (.iload 5, 2) := by decide +kernel
theorem dX0_check_61 : decode cX0_check 61 = .ok (.ifCond .eq 45, 3) := by decide +kernel
theorem dX0_check_106 : decode cX0_check 106 = .ok (.aload_n 0, 1) := by decide +kernel
theorem dX0_check_107 : decode cX0_check 107 = .ok (.getfield 21, 3) := by decide +kernel
theorem dX0_check_110 : decode cX0_check 110 = .ok (.invokevirtual 62, 3) := by decide +kernel
theorem dX0_check_113 : decode cX0_check 113 = .ok (.aload_n 0, 1) := by decide +kernel
theorem dX0_check_114 : decode cX0_check 114 = .ok (.iload_n 3, 1) := by decide +kernel
theorem dX0_check_115 : decode cX0_check 115 = .ok (.invokevirtual 67, 3) := by decide +kernel
theorem dX0_check_118 : decode cX0_check 118 = .ok (.iconst 0, 1) := by decide +kernel
theorem dX0_check_119 : decode cX0_check 119 = .ok (.istore 5, 2) := by decide +kernel
theorem dX0_check_121 : decode cX0_check 121 = .ok (.iload 5, 2) := by decide +kernel
theorem dX0_check_123 : decode cX0_check 123 = .ok (.aload_n 0, 1) := by decide +kernel
theorem dX0_check_124 : decode cX0_check 124 = .ok (.getfield 26, 3) := by decide +kernel
theorem dX0_check_127 : decode cX0_check 127 = .ok (.getfield 70, 3) := by decide +kernel
theorem dX0_check_130 : decode cX0_check 130 = .ok (.if_icmp .ge 15, 3) := by decide +kernel
theorem dX0_check_145 : decode cX0_check 145 = .ok (.iconst 0, 1) := by decide +kernel
theorem dX0_check_146 : decode cX0_check 146 = .ok (.istore 5, 2) := by decide +kernel
theorem dX0_check_148 : decode cX0_check 148 = .ok (.iload 5, 2) := by decide +kernel
theorem dX0_check_150 : decode cX0_check 150 = .ok (.aload_n 0, 1) := by decide +kernel
theorem dX0_check_151 : decode cX0_check 151 = .ok (.getfield 26, 3) := by decide +kernel
theorem dX0_check_154 : decode cX0_check 154 = .ok (.getfield 70, 3) := by decide +kernel
theorem dX0_check_157 : decode cX0_check 157 = .ok (.if_icmp .ge 15, 3) := by decide +kernel
theorem dX0_check_172 : decode cX0_check 172 = .ok (.aload_n 0, 1) := by decide +kernel
theorem dX0_check_173 : decode cX0_check 173 = .ok (.iload_n 2, 1) := by decide +kernel
theorem dX0_check_174 : decode cX0_check 174 = .ok (.invokevirtual 81, 3) := by decide +kernel
theorem dX0_check_177 : decode cX0_check 177 = .ok (.aload_n 0, 1) := by decide +kernel
theorem dX0_check_178 : decode cX0_check 178 = .ok (.getfield 38, 3) := by decide +kernel
theorem dX0_check_181 : decode cX0_check 181 = .ok (.ldc 37, 2) := by decide +kernel
theorem dX0_check_183 : decode cX0_check 183 = .ok (.if_icmp .ne 7, 3) := by decide +kernel
theorem dX0_check_190 : decode cX0_check 190 = .ok (.aload_n 0, 1) := by decide +kernel
theorem dX0_check_191 : decode cX0_check 191 = .ok (.getfield 38, 3) := by decide +kernel
theorem dX0_check_194 : decode cX0_check 194 = .ok (.ireturn, 1) := by decide +kernel
theorem dX0_declareAll_0 : decode cX0_declareAll 0 = .ok (.iload_n 1, 1) := by decide +kernel
theorem dX0_declareAll_1 : decode cX0_declareAll 1 = .ok (.istore_n 2, 1) := by decide +kernel
theorem dX0_declareAll_2 : decode cX0_declareAll 2 = .ok (.iload_n 2, 1) := by decide +kernel
theorem dX0_declareAll_3 : decode cX0_declareAll 3 = .ok (.ifCond .eq 160, 3) := by decide +kernel
theorem dX0_declareAll_163 : decode cX0_declareAll 163 = .ok (.return_, 1) := by decide +kernel
theorem dX0_mainFunction_0 : decode cX0_mainFunction 0 = .ok (.iconst 0, 1) := by decide +kernel
theorem dX0_mainFunction_1 : decode cX0_mainFunction 1 = .ok (.istore_n 2, 1) := by decide +kernel
theorem dX0_mainFunction_2 : decode cX0_mainFunction 2 = .ok (.iload_n 2, 1) := by decide +kernel
theorem dX0_mainFunction_3 : decode cX0_mainFunction 3 = .ok (.aload_n 0, 1) := by decide +kernel
theorem dX0_mainFunction_4 : decode cX0_mainFunction 4 = .ok (.getfield 26, 3) := by decide +kernel
theorem dX0_mainFunction_7 : decode cX0_mainFunction 7 = .ok (.getfield 70, 3) := by decide +kernel
theorem dX0_mainFunction_10 : decode cX0_mainFunction 10 = .ok (.if_icmp .ge 66, 3) := by decide +kernel
theorem dX0_mainFunction_76 : decode cX0_mainFunction 76 = .ok (.aload_n 0, 1) := by decide +kernel
theorem dX0_mainFunction_77 : decode cX0_mainFunction 77 = .ok (.iload_n 1, 1) := by decide +kernel
theorem dX0_mainFunction_78 : decode cX0_mainFunction 78 = .ok (.invokevirtual 126, 3) := by decide +kernel
theorem dX0_mainFunction_81 : decode cX0_mainFunction 81 = .ok (.return_, 1) := by decide +kernel
theorem dX0_measures_0 : decode cX0_measures 0 = .ok (.iconst 0, 1) := by decide +kernel
theorem dX0_measures_1 : decode cX0_measures 1 = .ok (.istore_n 2, 1) := by decide +kernel
theorem dX0_measures_2 : decode cX0_measures 2 = .ok (.iload_n 1, 1) := by decide +kernel
theorem dX0_measures_3 : decode cX0_measures 3 = .ok (.istore_n 3, 1) := by decide +kernel
theorem dX0_measures_4 : decode cX0_measures 4 = .ok (.iload_n 3, 1) := by decide +kernel
theorem dX0_measures_5 : decode cX0_measures 5 = .ok (.ifCond .eq 98, 3) := by decide +kernel
theorem dX0_measures_103 : decode cX0_measures 103 = .ok (.return_, 1) := by decide +kernel
theorem dX10_clear_0 : decode cX10_clear 0 = .ok (.aload_n 0, 1) := by decide +kernel
theorem dX10_clear_1 : decode cX10_clear 1 = .ok (.iconst 0, 1) := by decide +kernel
theorem dX10_clear_2 : decode cX10_clear 2 = .ok (.putfield 43, 3) := by decide +kernel
theorem dX10_clear_5 : decode cX10_clear 5 = .ok (.aload_n 0, 1) := by decide +kernel
theorem dX10_clear_6 : decode cX10_clear 6 = .ok (.iconst 0, 1) := by decide +kernel
theorem dX10_clear_7 : decode cX10_clear 7 = .ok (.putfield 47, 3) := by decide +kernel
theorem dX10_clear_10 : decode cX10_clear 10 = .ok (.return_, 1) := by decide +kernel
theorem dX12_judge_0 : decode cX12_judge 0 = .ok (.iload_n 1, 1) := by decide +kernel
theorem dX12_judge_1 : decode cX12_judge 1 = .ok (.ifCond .lt 11, 3) := by decide +kernel
theorem dX12_judge_4 : decode cX12_judge 4 = .ok (.iload_n 1, 1) := by decide +kernel
theorem dX12_judge_5 : decode cX12_judge 5 = .ok (.aload_n 0, 1) := by decide +kernel
theorem dX12_judge_6 : decode cX12_judge 6 = .ok (.getfield 78, 3) := by decide +kernel
theorem dX12_judge_9 : decode cX12_judge 9 = .ok (.if_icmp .le 5, 3) := by decide +kernel
theorem dX12_judge_12 : decode cX12_judge 12 = .ok (.iconst (-1), 1) := by decide +kernel
theorem dX12_judge_13 : decode cX12_judge 13 = .ok (.ireturn, 1) := by decide +kernel
theorem dX12_judge_14 : decode cX12_judge 14 = .ok (.aload_n 0, 1) := by decide +kernel
theorem dX12_judge_15 : decode cX12_judge 15 = .ok (.iconst 0, 1) := by decide +kernel
theorem dX12_judge_16 : decode cX12_judge 16 = .ok (.putfield 78, 3) := by decide +kernel
theorem dX12_judge_19 : decode cX12_judge 19 = .ok (.aload_n 0, 1) := by decide +kernel
theorem dX12_judge_20 : decode cX12_judge 20 = .ok (.iconst (-1), 1) := by decide +kernel
theorem dX12_judge_21 : decode cX12_judge 21 = .ok (.putfield 75, 3) := by decide +kernel
theorem dX12_judge_24 : decode cX12_judge 24 = .ok (.aload_n 0, 1) := by decide +kernel
theorem dX12_judge_25 : decode cX12_judge 25 = .ok (.aload_n 0, 1) := by decide +kernel
theorem dX12_judge_26 : decode cX12_judge 26 = .ok (.getfield 29, 3) := by decide +kernel
theorem dX12_judge_29 : decode cX12_judge 29 = .ok (.aload_n 0, 1) := by decide +kernel
theorem dX12_judge_30 : decode cX12_judge 30 = .ok (.getfield 9, 3) := by decide +kernel
theorem dX12_judge_33 : decode cX12_judge 33 = .ok (.iload_n 1, 1) := by decide +kernel
theorem dX12_judge_34 : decode cX12_judge 34 = .ok (.invokevirtual 85, 3) := by decide +kernel
theorem dX12_judge_37 : decode cX12_judge 37 = .ok (.putfield 72, 3) := by decide +kernel
theorem dX12_judge_40 : decode cX12_judge 40 = .ok (.aload_n 0, 1) := by decide +kernel
theorem dX12_judge_41 : decode cX12_judge 41 = .ok (.aload_n 0, 1) := by decide +kernel
theorem dX12_judge_42 : decode cX12_judge 42 = .ok (.getfield 72, 3) := by decide +kernel
theorem dX12_judge_45 : decode cX12_judge 45 = .ok (.ifCond .lt 7, 3) := by decide +kernel
theorem dX12_judge_52 : decode cX12_judge 52 = .ok (.aload_n 0, 1) := by decide +kernel
theorem dX12_judge_53 : decode cX12_judge 53 = .ok (.iload_n 1, 1) := by decide +kernel
theorem dX12_judge_54 : decode cX12_judge 54 = .ok (.invokevirtual 89, 3) := by decide +kernel
theorem dX12_judge_57 : decode cX12_judge 57 = .ok (.putfield 68, 3) := by decide +kernel
theorem dX12_judge_60 : decode cX12_judge 60 = .ok (.aload_n 0, 1) := by decide +kernel
theorem dX12_judge_61 : decode cX12_judge 61 = .ok (.getfield 68, 3) := by decide +kernel
theorem dX12_judge_64 : decode cX12_judge 64 = .ok (.ifCond .ne 12, 3) := by decide +kernel
theorem dX12_judge_76 : decode cX12_judge 76 = .ok (.aload_n 0, 1) := by decide +kernel
theorem dX12_judge_77 : decode cX12_judge 77 = .ok (.getfield 68, 3) := by decide +kernel
theorem dX12_judge_80 : decode cX12_judge 80 = .ok (.ireturn, 1) := by decide +kernel
theorem dX12_judgeTree_0 : decode cX12_judgeTree 0 = .ok (.aload_n 0, 1) := by decide +kernel
theorem dX12_judgeTree_1 : decode cX12_judgeTree 1 = .ok (.getfield 96, 3) := by decide +kernel
theorem dX12_judgeTree_4 : decode cX12_judgeTree 4 = .ok (.ifCond .eq 21, 3) := by decide +kernel
theorem dX12_judgeTree_25 : decode cX12_judgeTree 25 = .ok (.aload_n 0, 1) := by decide +kernel
theorem dX12_judgeTree_26 : decode cX12_judgeTree 26 = .ok (.getfield 96, 3) := by decide +kernel
theorem dX12_judgeTree_29 : decode cX12_judgeTree 29 = .ok (.ifCond .eq 10, 3) := by decide +kernel
theorem dX12_judgeTree_39 : decode cX12_judgeTree 39 = .ok (.aload_n 0, 1) := by decide +kernel
theorem dX12_judgeTree_40 : decode cX12_judgeTree 40 = .ok (.getfield 64, 3) := by decide +kernel
theorem dX12_judgeTree_43 : decode cX12_judgeTree 43 = .ok (.astore_n 2, 1) := by decide +kernel
theorem dX12_judgeTree_44 : decode cX12_judgeTree 44 = .ok (.aload_n 2, 1) := by decide +kernel
theorem dX12_judgeTree_45 : decode cX12_judgeTree 45 = .ok (.invokevirtual 106, 3) := by decide +kernel
theorem dX12_judgeTree_48 : decode cX12_judgeTree 48 = .ok (.aload_n 0, 1) := by decide +kernel
theorem dX12_judgeTree_49 : decode cX12_judgeTree 49 = .ok (.aload_n 0, 1) := by decide +kernel
theorem dX12_judgeTree_50 : decode cX12_judgeTree 50 = .ok (.getfield 36, 3) := by decide +kernel
theorem dX12_judgeTree_53 : decode cX12_judgeTree 53 = .ok (.aload_n 2, 1) := by decide +kernel
theorem dX12_judgeTree_54 : decode cX12_judgeTree 54 = .ok (.iload_n 1, 1) := by decide +kernel
theorem dX12_judgeTree_55 : decode cX12_judgeTree 55 = .ok (.invokevirtual 109, 3) := by decide +kernel
theorem dX12_judgeTree_58 : decode cX12_judgeTree 58 = .ok (.putfield 72, 3) := by decide +kernel
theorem dX12_judgeTree_61 : decode cX12_judgeTree 61 = .ok (.aload_n 0, 1) := by decide +kernel
theorem dX12_judgeTree_62 : decode cX12_judgeTree 62 = .ok (.getfield 72, 3) := by decide +kernel
theorem dX12_judgeTree_65 : decode cX12_judgeTree 65 = .ok (.ifCond .lt 5, 3) := by decide +kernel
theorem dX12_judgeTree_68 : decode cX12_judgeTree 68 = .ok (.iconst 2, 1) := by decide +kernel
theorem dX12_judgeTree_69 : decode cX12_judgeTree 69 = .ok (.ireturn, 1) := by decide +kernel
theorem dX2_clear_0 : decode cX2_clear 0 = .ok (.aload_n 0, 1) := by decide +kernel
theorem dX2_clear_1 : decode cX2_clear 1 = .ok (.iconst 0, 1) := by decide +kernel
theorem dX2_clear_2 : decode cX2_clear 2 = .ok (.putfield 61, 3) := by decide +kernel
theorem dX2_clear_5 : decode cX2_clear 5 = .ok (.aload_n 0, 1) := by decide +kernel
theorem dX2_clear_6 : decode cX2_clear 6 = .ok (.iconst 0, 1) := by decide +kernel
theorem dX2_clear_7 : decode cX2_clear 7 = .ok (.putfield 65, 3) := by decide +kernel
theorem dX2_clear_10 : decode cX2_clear 10 = .ok (.aload_n 0, 1) := by decide +kernel
theorem dX2_clear_11 : decode cX2_clear 11 = .ok (.iconst (-1), 1) := by decide +kernel
theorem dX2_clear_12 : decode cX2_clear 12 = .ok (.putfield 68, 3) := by decide +kernel
theorem dX2_clear_15 : decode cX2_clear 15 = .ok (.return_, 1) := by decide +kernel
theorem dX4_clear_0 : decode cX4_clear 0 = .ok (.aload_n 0, 1) := by decide +kernel
theorem dX4_clear_1 : decode cX4_clear 1 = .ok (.iconst 0, 1) := by decide +kernel
theorem dX4_clear_2 : decode cX4_clear 2 = .ok (.putfield 65, 3) := by decide +kernel
theorem dX4_clear_5 : decode cX4_clear 5 = .ok (.aload_n 0, 1) := by decide +kernel
theorem dX4_clear_6 : decode cX4_clear 6 = .ok (.iconst 0, 1) := by decide +kernel
theorem dX4_clear_7 : decode cX4_clear 7 = .ok (.putfield 69, 3) := by decide +kernel
theorem dX4_clear_10 : decode cX4_clear 10 = .ok (.aload_n 0, 1) := by decide +kernel
theorem dX4_clear_11 : decode cX4_clear 11 = .ok (.iconst 0, 1) := by decide +kernel
theorem dX4_clear_12 : decode cX4_clear 12 = .ok (.putfield 72, 3) := by decide +kernel
theorem dX4_clear_15 : decode cX4_clear 15 = .ok (.return_, 1) := by decide +kernel
theorem dX5_clear_0 : decode cX5_clear 0 = .ok (.aload_n 0, 1) := by decide +kernel
theorem dX5_clear_1 : decode cX5_clear 1 = .ok (.getfield 12, 3) := by decide +kernel
theorem dX5_clear_4 : decode cX5_clear 4 = .ok (.invokevirtual 61, 3) := by decide +kernel
theorem dX5_clear_7 : decode cX5_clear 7 = .ok (.aload_n 0, 1) := by decide +kernel
theorem dX5_clear_8 : decode cX5_clear 8 = .ok (.getfield 21, 3) := by decide +kernel
theorem dX5_clear_11 : decode cX5_clear 11 = .ok (.invokevirtual 64, 3) := by decide +kernel
theorem dX5_clear_14 : decode cX5_clear 14 = .ok (.aload_n 0, 1) := by decide +kernel
theorem dX5_clear_15 : decode cX5_clear 15 = .ok (.getfield 28, 3) := by decide +kernel
theorem dX5_clear_18 : decode cX5_clear 18 = .ok (.invokevirtual 65, 3) := by decide +kernel
theorem dX5_clear_21 : decode cX5_clear 21 = .ok (.aload_n 0, 1) := by decide +kernel
theorem dX5_clear_22 : decode cX5_clear 22 = .ok (.getfield 35, 3) := by decide +kernel
theorem dX5_clear_25 : decode cX5_clear 25 = .ok (.invokevirtual 66, 3) := by decide +kernel
theorem dX5_clear_28 : decode cX5_clear 28 = .ok (.aload_n 0, 1) := by decide +kernel
theorem dX5_clear_29 : decode cX5_clear 29 = .ok (.iconst 0, 1) := by decide +kernel
theorem dX5_clear_30 : decode cX5_clear 30 = .ok (.putfield 67, 3) := by decide +kernel
theorem dX5_clear_33 : decode cX5_clear 33 = .ok (.aload_n 0, 1) := by decide +kernel
theorem dX5_clear_34 : decode cX5_clear 34 = .ok (.iconst 0, 1) := by decide +kernel
theorem dX5_clear_35 : decode cX5_clear 35 = .ok (.putfield 71, 3) := by decide +kernel
theorem dX5_clear_38 : decode cX5_clear 38 = .ok (.aload_n 0, 1) := by decide +kernel
theorem dX5_clear_39 : decode cX5_clear 39 = .ok (.iconst 0, 1) := by decide +kernel
theorem dX5_clear_40 : decode cX5_clear 40 = .ok (.putfield 74, 3) := by decide +kernel
theorem dX5_clear_43 : decode cX5_clear 43 = .ok (.aload_n 0, 1) := by decide +kernel
theorem dX5_clear_44 : decode cX5_clear 44 = .ok (.iconst 0, 1) := by decide +kernel
theorem dX5_clear_45 : decode cX5_clear 45 = .ok (.putfield 77, 3) := by decide +kernel
theorem dX5_clear_48 : decode cX5_clear 48 = .ok (.return_, 1) := by decide +kernel
theorem dX9_clear_0 : decode cX9_clear 0 = .ok (.aload_n 0, 1) := by decide +kernel
theorem dX9_clear_1 : decode cX9_clear 1 = .ok (.iconst 0, 1) := by decide +kernel
theorem dX9_clear_2 : decode cX9_clear 2 = .ok (.putfield 57, 3) := by decide +kernel
theorem dX9_clear_5 : decode cX9_clear 5 = .ok (.aload_n 0, 1) := by decide +kernel
theorem dX9_clear_6 : decode cX9_clear 6 = .ok (.iconst 0, 1) := by decide +kernel
theorem dX9_clear_7 : decode cX9_clear 7 = .ok (.putfield 61, 3) := by decide +kernel
theorem dX9_clear_10 : decode cX9_clear 10 = .ok (.aload_n 0, 1) := by decide +kernel
theorem dX9_clear_11 : decode cX9_clear 11 = .ok (.iconst 0, 1) := by decide +kernel
theorem dX9_clear_12 : decode cX9_clear 12 = .ok (.putfield 64, 3) := by decide +kernel
theorem dX9_clear_15 : decode cX9_clear 15 = .ok (.aload_n 0, 1) := by decide +kernel
theorem dX9_clear_16 : decode cX9_clear 16 = .ok (.iconst 3, 1) := by decide +kernel
theorem dX9_clear_17 : decode cX9_clear 17 = .ok (.putfield 67, 3) := by decide +kernel
theorem dX9_clear_20 : decode cX9_clear 20 = .ok (.aload_n 0, 1) := by decide +kernel
theorem dX9_clear_21 : decode cX9_clear 21 = .ok (.getfield 9, 3) := by decide +kernel
theorem dX9_clear_24 : decode cX9_clear 24 = .ok (.iconst 0, 1) := by decide +kernel
theorem dX9_clear_25 : decode cX9_clear 25 = .ok (.iconst 0, 1) := by decide +kernel
theorem dX9_clear_26 : decode cX9_clear 26 = .ok (.iastore, 1) := by decide +kernel
theorem dX9_clear_27 : decode cX9_clear 27 = .ok (.aload_n 0, 1) := by decide +kernel
theorem dX9_clear_28 : decode cX9_clear 28 = .ok (.getfield 9, 3) := by decide +kernel
theorem dX9_clear_31 : decode cX9_clear 31 = .ok (.iconst 1, 1) := by decide +kernel
theorem dX9_clear_32 : decode cX9_clear 32 = .ok (.iconst 1, 1) := by decide +kernel
theorem dX9_clear_33 : decode cX9_clear 33 = .ok (.iastore, 1) := by decide +kernel
theorem dX9_clear_34 : decode cX9_clear 34 = .ok (.aload_n 0, 1) := by decide +kernel
theorem dX9_clear_35 : decode cX9_clear 35 = .ok (.getfield 9, 3) := by decide +kernel
theorem dX9_clear_38 : decode cX9_clear 38 = .ok (.iconst 2, 1) := by decide +kernel
theorem dX9_clear_39 : decode cX9_clear 39 = .ok (.iconst 2, 1) := by decide +kernel
theorem dX9_clear_40 : decode cX9_clear 40 = .ok (.iastore, 1) := by decide +kernel
theorem dX9_clear_41 : decode cX9_clear 41 = .ok (.return_, 1) := by decide +kernel
theorem dX9_measure_0 : decode cX9_measure 0 = .ok (.iconst 1, 1) := by decide +kernel
theorem dX9_measure_1 : decode cX9_measure 1 = .ok (.istore_n 1, 1) := by decide +kernel
theorem dX9_measure_2 : decode cX9_measure 2 = .ok (.iconst 0, 1) := by decide +kernel
theorem dX9_measure_3 : decode cX9_measure 3 = .ok (.istore_n 2, 1) := by decide +kernel
theorem dX9_measure_4 : decode cX9_measure 4 = .ok (.iload_n 2, 1) := by decide +kernel
theorem dX9_measure_5 : decode cX9_measure 5 = .ok (.aload_n 0, 1) := by decide +kernel
theorem dX9_measure_6 : decode cX9_measure 6 = .ok (.getfield 57, 3) := by decide +kernel
theorem dX9_measure_9 : decode cX9_measure 9 = .ok (.if_icmp .gt 55, 3) := by decide +kernel
theorem dX9_measure_12 : decode cX9_measure 12 = .ok (.iload_n 1, 1) := by decide +kernel
theorem dX9_measure_13 : decode cX9_measure 13 = .ok (.ifCond .eq 51, 3) := by decide +kernel
theorem dX9_measure_16 : decode cX9_measure 16 = .ok (.iconst 0, 1) := by decide +kernel
theorem dX9_measure_17 : decode cX9_measure 17 = .ok (.istore_n 1, 1) := by decide +kernel
theorem dX9_measure_18 : decode cX9_measure 18 = .ok (.iconst 0, 1) := by decide +kernel
theorem dX9_measure_19 : decode cX9_measure 19 = .ok (.istore_n 3, 1) := by decide +kernel
theorem dX9_measure_20 : decode cX9_measure 20 = .ok (.iload_n 3, 1) := by decide +kernel
theorem dX9_measure_21 : decode cX9_measure 21 = .ok (.aload_n 0, 1) := by decide +kernel
theorem dX9_measure_22 : decode cX9_measure 22 = .ok (.getfield 57, 3) := by decide +kernel
theorem dX9_measure_25 : decode cX9_measure 25 = .ok (.if_icmp .ge 33, 3) := by decide +kernel
theorem dX9_measure_58 : decode cX9_measure 58 = .ok (.iinc 2 1, 3) := by decide +kernel
theorem dX9_measure_61 : decode cX9_measure 61 = .ok (.goto (-57), 3) := by decide +kernel
theorem dX9_measure_64 : decode cX9_measure 64 = .ok (.return_, 1) := by decide +kernel
set_option maxHeartbeats 4000000 in
set_option maxRecDepth 100000 in
/-- Types.clear -/
theorem k_X9_clear (l : Launch) (D : va_G) (K : KS) (q30 q41 q42 q43 q44 q45 q46 q47 q48 q49 q50 q51 q52 q53 q54 q55 : Nat) : Con l D K yX9_clear cX9_clear 1 none 0 0 0 0 [.ref q30] [(q30, .inr (9, [.ref q41, .ref q42, .int 0, .ref q43, .ref q44, .ref q45, .ref q46, .ref q47, .ref q48, .ref q49, .int 0, .ref q50, .ref q51, .ref q52, .int 0, .ref q53, .ref q54, .ref q55, .int 0])), (q41, .inl (K 0, 1504, .inl (fun _ => 0)))] (fun v w => v = none ∧ w = [(q30, .inr (9, [.ref q41, .ref q42, .int 3, .ref q43, .ref q44, .ref q45, .ref q46, .ref q47, .ref q48, .ref q49, .int 0, .ref q50, .ref q51, .ref q52, .int 0, .ref q53, .ref q54, .ref q55, .int 0])), (q41, .inl (K 0, 1504, .inl (upd (upd (upd (fun _ => 0) (0 : Int32).toNatClampNeg 0) (1 : Int32).toNatClampNeg 1) (2 : Int32).toNatClampNeg 2)))]) := by
  refine Con.of (by decide +kernel) (Nat.le_of_ble_eq_true rfl) ?_
  intro X hXl hXD hXK C hR hQ hnm
  subst hXl; subst hXD; subst hXK
  refine g_lv (l2 := [(0, .ref q30)]) [0] rfl ?_
  refine g_aload_n (z := 1) C dX9_clear_0 0 rfl rfl rfl ?_
  refine g_iconst (v := 0) (z := 2) C dX9_clear_1 (by decide) rfl ?_
  refine g_put (w2 := [(q30, .inr (9, [.ref q41, .ref q42, .int 0, .ref q43, .ref q44, .ref q45, .ref q46, .ref q47, .ref q48, .ref q49, .int 0, .ref q50, .ref q51, .ref q52, .int 0, .ref q53, .ref q54, .ref q55, .int 0])), (q41, .inl (gK X 0, 1504, .inl (fun _ => 0)))]) (z := 5) C kX9 dX9_clear_2 0 rfl 10 (by decide) w_305 rfl rfl rfl rfl (Nat.le_of_ble_eq_true rfl) rfl rfl ?_
  refine g_aload_n (z := 6) C dX9_clear_5 0 rfl rfl rfl ?_
  refine g_iconst (v := 0) (z := 7) C dX9_clear_6 (by decide) rfl ?_
  refine g_put (w2 := [(q30, .inr (9, [.ref q41, .ref q42, .int 0, .ref q43, .ref q44, .ref q45, .ref q46, .ref q47, .ref q48, .ref q49, .int 0, .ref q50, .ref q51, .ref q52, .int 0, .ref q53, .ref q54, .ref q55, .int 0])), (q41, .inl (gK X 0, 1504, .inl (fun _ => 0)))]) (z := 10) C kX9 dX9_clear_7 0 rfl 14 (by decide) w_306 rfl rfl rfl rfl (Nat.le_of_ble_eq_true rfl) rfl rfl ?_
  refine g_aload_n (z := 11) C dX9_clear_10 0 rfl rfl rfl ?_
  refine g_iconst (v := 0) (z := 12) C dX9_clear_11 (by decide) rfl ?_
  refine g_put (w2 := [(q30, .inr (9, [.ref q41, .ref q42, .int 0, .ref q43, .ref q44, .ref q45, .ref q46, .ref q47, .ref q48, .ref q49, .int 0, .ref q50, .ref q51, .ref q52, .int 0, .ref q53, .ref q54, .ref q55, .int 0])), (q41, .inl (gK X 0, 1504, .inl (fun _ => 0)))]) (z := 15) C kX9 dX9_clear_12 0 rfl 18 (by decide) w_307 rfl rfl rfl rfl (Nat.le_of_ble_eq_true rfl) rfl rfl ?_
  refine g_aload_n (z := 16) C dX9_clear_15 0 rfl rfl rfl ?_
  refine g_iconst (v := 3) (z := 17) C dX9_clear_16 (by decide) rfl ?_
  refine g_put (w2 := [(q30, .inr (9, [.ref q41, .ref q42, .int 3, .ref q43, .ref q44, .ref q45, .ref q46, .ref q47, .ref q48, .ref q49, .int 0, .ref q50, .ref q51, .ref q52, .int 0, .ref q53, .ref q54, .ref q55, .int 0])), (q41, .inl (gK X 0, 1504, .inl (fun _ => 0)))]) (z := 20) C kX9 dX9_clear_17 0 rfl 2 (by decide) w_308 rfl rfl rfl rfl (Nat.le_of_ble_eq_true rfl) rfl rfl ?_
  refine g_aload_n (z := 21) C dX9_clear_20 0 rfl rfl rfl ?_
  refine g_get (z := 24) C kX9 dX9_clear_21 0 rfl 0 (by decide) w_287 rfl rfl rfl ?_
  refine g_iconst (v := 0) (z := 25) C dX9_clear_24 (by decide) rfl ?_
  refine g_iconst (v := 0) (z := 26) C dX9_clear_25 (by decide) rfl ?_
  refine g_iast (w2 := [(q30, .inr (9, [.ref q41, .ref q42, .int 3, .ref q43, .ref q44, .ref q45, .ref q46, .ref q47, .ref q48, .ref q49, .int 0, .ref q50, .ref q51, .ref q52, .int 0, .ref q53, .ref q54, .ref q55, .int 0])), (q41, .inl (gK X 0, 1504, .inl (upd (fun _ => 0) (0 : Int32).toNatClampNeg 0)))]) (z := 27) C dX9_clear_26 1 rfl (by unfold vp_in; decide) rfl rfl ?_
  refine g_aload_n (z := 28) C dX9_clear_27 0 rfl rfl rfl ?_
  refine g_get (z := 31) C kX9 dX9_clear_28 0 rfl 0 (by decide) w_287 rfl rfl rfl ?_
  refine g_iconst (v := 1) (z := 32) C dX9_clear_31 (by decide) rfl ?_
  refine g_iconst (v := 1) (z := 33) C dX9_clear_32 (by decide) rfl ?_
  refine g_iast (w2 := [(q30, .inr (9, [.ref q41, .ref q42, .int 3, .ref q43, .ref q44, .ref q45, .ref q46, .ref q47, .ref q48, .ref q49, .int 0, .ref q50, .ref q51, .ref q52, .int 0, .ref q53, .ref q54, .ref q55, .int 0])), (q41, .inl (gK X 0, 1504, .inl (upd (upd (fun _ => 0) (0 : Int32).toNatClampNeg 0) (1 : Int32).toNatClampNeg 1)))]) (z := 34) C dX9_clear_33 1 rfl (by unfold vp_in; decide) rfl rfl ?_
  refine g_aload_n (z := 35) C dX9_clear_34 0 rfl rfl rfl ?_
  refine g_get (z := 38) C kX9 dX9_clear_35 0 rfl 0 (by decide) w_287 rfl rfl rfl ?_
  refine g_iconst (v := 2) (z := 39) C dX9_clear_38 (by decide) rfl ?_
  refine g_iconst (v := 2) (z := 40) C dX9_clear_39 (by decide) rfl ?_
  refine g_iast (w2 := [(q30, .inr (9, [.ref q41, .ref q42, .int 3, .ref q43, .ref q44, .ref q45, .ref q46, .ref q47, .ref q48, .ref q49, .int 0, .ref q50, .ref q51, .ref q52, .int 0, .ref q53, .ref q54, .ref q55, .int 0])), (q41, .inl (gK X 0, 1504, .inl (upd (upd (upd (fun _ => 0) (0 : Int32).toNatClampNeg 0) (1 : Int32).toNatClampNeg 1) (2 : Int32).toNatClampNeg 2)))]) (z := 41) C dX9_clear_40 1 rfl (by unfold vp_in; decide) rfl rfl ?_
  exact g_vret C hQ dX9_clear_41 (Nat.le_of_ble_eq_true rfl) (Nat.le_of_ble_eq_true rfl) ⟨rfl, rfl⟩
set_option maxHeartbeats 4000000 in
set_option maxRecDepth 100000 in
/-- Functions.clear -/
theorem k_X2_clear (l : Launch) (D : va_G) (K : KS) (q31 q56 q57 q58 q59 q60 q61 q62 q63 q64 q65 q66 q67 q68 q69 q70 q71 : Nat) : Con l D K yX2_clear cX2_clear 1 none 0 0 0 0 [.ref q31] [(q31, .inr (10, [.ref q56, .ref q57, .ref q58, .ref q59, .ref q60, .ref q61, .ref q62, .int 0, .ref q63, .ref q64, .ref q65, .ref q66, .ref q67, .ref q68, .ref q69, .ref q70, .ref q71, .int 0, .int 0]))] (fun v w => v = none ∧ w = [(q31, .inr (10, [.ref q56, .ref q57, .ref q58, .ref q59, .ref q60, .ref q61, .ref q62, .int 0, .ref q63, .ref q64, .ref q65, .ref q66, .ref q67, .ref q68, .ref q69, .ref q70, .ref q71, .int 0, .int (-1)]))]) := by
  refine Con.of (by decide +kernel) (Nat.le_of_ble_eq_true rfl) ?_
  intro X hXl hXD hXK C hR hQ hnm
  subst hXl; subst hXD; subst hXK
  refine g_lv (l2 := [(0, .ref q31)]) [0] rfl ?_
  refine g_aload_n (z := 1) C dX2_clear_0 0 rfl rfl rfl ?_
  refine g_iconst (v := 0) (z := 2) C dX2_clear_1 (by decide) rfl ?_
  refine g_put (w2 := [(q31, .inr (10, [.ref q56, .ref q57, .ref q58, .ref q59, .ref q60, .ref q61, .ref q62, .int 0, .ref q63, .ref q64, .ref q65, .ref q66, .ref q67, .ref q68, .ref q69, .ref q70, .ref q71, .int 0, .int 0]))]) (z := 5) C kX2 dX2_clear_2 0 rfl 17 (by decide) w_334 rfl rfl rfl rfl (Nat.le_of_ble_eq_true rfl) rfl rfl ?_
  refine g_aload_n (z := 6) C dX2_clear_5 0 rfl rfl rfl ?_
  refine g_iconst (v := 0) (z := 7) C dX2_clear_6 (by decide) rfl ?_
  refine g_put (w2 := [(q31, .inr (10, [.ref q56, .ref q57, .ref q58, .ref q59, .ref q60, .ref q61, .ref q62, .int 0, .ref q63, .ref q64, .ref q65, .ref q66, .ref q67, .ref q68, .ref q69, .ref q70, .ref q71, .int 0, .int 0]))]) (z := 10) C kX2 dX2_clear_7 0 rfl 7 (by decide) w_335 rfl rfl rfl rfl (Nat.le_of_ble_eq_true rfl) rfl rfl ?_
  refine g_aload_n (z := 11) C dX2_clear_10 0 rfl rfl rfl ?_
  refine g_iconst (v := (-1)) (z := 12) C dX2_clear_11 (by decide) rfl ?_
  refine g_put (w2 := [(q31, .inr (10, [.ref q56, .ref q57, .ref q58, .ref q59, .ref q60, .ref q61, .ref q62, .int 0, .ref q63, .ref q64, .ref q65, .ref q66, .ref q67, .ref q68, .ref q69, .ref q70, .ref q71, .int 0, .int (-1)]))]) (z := 15) C kX2 dX2_clear_12 0 rfl 18 (by decide) w_336 rfl rfl rfl rfl (Nat.le_of_ble_eq_true rfl) rfl rfl ?_
  exact g_vret C hQ dX2_clear_15 (Nat.le_of_ble_eq_true rfl) (Nat.le_of_ble_eq_true rfl) ⟨rfl, rfl⟩
set_option maxHeartbeats 4000000 in
set_option maxRecDepth 100000 in
/-- Variables.clear -/
theorem k_X10_clear (l : Launch) (D : va_G) (K : KS) (q32 q72 q73 q74 q75 q76 q77 q78 q79 q80 q81 : Nat) : Con l D K yX10_clear cX10_clear 1 none 0 0 0 0 [.ref q32] [(q32, .inr (11, [.ref q72, .ref q73, .ref q74, .ref q75, .ref q76, .ref q77, .ref q78, .ref q79, .int 0, .ref q80, .ref q81, .int 0]))] (fun v w => v = none ∧ w = [(q32, .inr (11, [.ref q72, .ref q73, .ref q74, .ref q75, .ref q76, .ref q77, .ref q78, .ref q79, .int 0, .ref q80, .ref q81, .int 0]))]) := by
  refine Con.of (by decide +kernel) (Nat.le_of_ble_eq_true rfl) ?_
  intro X hXl hXD hXK C hR hQ hnm
  subst hXl; subst hXD; subst hXK
  refine g_lv (l2 := [(0, .ref q32)]) [0] rfl ?_
  refine g_aload_n (z := 1) C dX10_clear_0 0 rfl rfl rfl ?_
  refine g_iconst (v := 0) (z := 2) C dX10_clear_1 (by decide) rfl ?_
  refine g_put (w2 := [(q32, .inr (11, [.ref q72, .ref q73, .ref q74, .ref q75, .ref q76, .ref q77, .ref q78, .ref q79, .int 0, .ref q80, .ref q81, .int 0]))]) (z := 5) C kX10 dX10_clear_2 0 rfl 8 (by decide) w_353 rfl rfl rfl rfl (Nat.le_of_ble_eq_true rfl) rfl rfl ?_
  refine g_aload_n (z := 6) C dX10_clear_5 0 rfl rfl rfl ?_
  refine g_iconst (v := 0) (z := 7) C dX10_clear_6 (by decide) rfl ?_
  refine g_put (w2 := [(q32, .inr (11, [.ref q72, .ref q73, .ref q74, .ref q75, .ref q76, .ref q77, .ref q78, .ref q79, .int 0, .ref q80, .ref q81, .int 0]))]) (z := 10) C kX10 dX10_clear_7 0 rfl 11 (by decide) w_354 rfl rfl rfl rfl (Nat.le_of_ble_eq_true rfl) rfl rfl ?_
  exact g_vret C hQ dX10_clear_10 (Nat.le_of_ble_eq_true rfl) (Nat.le_of_ble_eq_true rfl) ⟨rfl, rfl⟩
set_option maxHeartbeats 4000000 in
set_option maxRecDepth 100000 in
/-- Places.clear -/
theorem k_X4_clear (l : Launch) (D : va_G) (K : KS) (q33 q82 q83 q84 q85 q86 q87 q88 q89 q90 q91 q92 q93 q94 q95 q96 q97 q98 : Nat) : Con l D K yX4_clear cX4_clear 1 none 0 0 0 0 [.ref q33] [(q33, .inr (12, [.ref q82, .ref q83, .ref q84, .ref q85, .ref q86, .ref q87, .ref q88, .ref q89, .ref q90, .ref q91, .ref q92, .ref q93, .int 0, .ref q94, .ref q95, .ref q96, .int 0, .ref q97, .ref q98, .int 0]))] (fun v w => v = none ∧ w = [(q33, .inr (12, [.ref q82, .ref q83, .ref q84, .ref q85, .ref q86, .ref q87, .ref q88, .ref q89, .ref q90, .ref q91, .ref q92, .ref q93, .int 0, .ref q94, .ref q95, .ref q96, .int 0, .ref q97, .ref q98, .int 0]))]) := by
  refine Con.of (by decide +kernel) (Nat.le_of_ble_eq_true rfl) ?_
  intro X hXl hXD hXK C hR hQ hnm
  subst hXl; subst hXD; subst hXK
  refine g_lv (l2 := [(0, .ref q33)]) [0] rfl ?_
  refine g_aload_n (z := 1) C dX4_clear_0 0 rfl rfl rfl ?_
  refine g_iconst (v := 0) (z := 2) C dX4_clear_1 (by decide) rfl ?_
  refine g_put (w2 := [(q33, .inr (12, [.ref q82, .ref q83, .ref q84, .ref q85, .ref q86, .ref q87, .ref q88, .ref q89, .ref q90, .ref q91, .ref q92, .ref q93, .int 0, .ref q94, .ref q95, .ref q96, .int 0, .ref q97, .ref q98, .int 0]))]) (z := 5) C kX4 dX4_clear_2 0 rfl 12 (by decide) w_378 rfl rfl rfl rfl (Nat.le_of_ble_eq_true rfl) rfl rfl ?_
  refine g_aload_n (z := 6) C dX4_clear_5 0 rfl rfl rfl ?_
  refine g_iconst (v := 0) (z := 7) C dX4_clear_6 (by decide) rfl ?_
  refine g_put (w2 := [(q33, .inr (12, [.ref q82, .ref q83, .ref q84, .ref q85, .ref q86, .ref q87, .ref q88, .ref q89, .ref q90, .ref q91, .ref q92, .ref q93, .int 0, .ref q94, .ref q95, .ref q96, .int 0, .ref q97, .ref q98, .int 0]))]) (z := 10) C kX4 dX4_clear_7 0 rfl 16 (by decide) w_379 rfl rfl rfl rfl (Nat.le_of_ble_eq_true rfl) rfl rfl ?_
  refine g_aload_n (z := 11) C dX4_clear_10 0 rfl rfl rfl ?_
  refine g_iconst (v := 0) (z := 12) C dX4_clear_11 (by decide) rfl ?_
  refine g_put (w2 := [(q33, .inr (12, [.ref q82, .ref q83, .ref q84, .ref q85, .ref q86, .ref q87, .ref q88, .ref q89, .ref q90, .ref q91, .ref q92, .ref q93, .int 0, .ref q94, .ref q95, .ref q96, .int 0, .ref q97, .ref q98, .int 0]))]) (z := 15) C kX4 dX4_clear_12 0 rfl 19 (by decide) w_380 rfl rfl rfl rfl (Nat.le_of_ble_eq_true rfl) rfl rfl ?_
  exact g_vret C hQ dX4_clear_15 (Nat.le_of_ble_eq_true rfl) (Nat.le_of_ble_eq_true rfl) ⟨rfl, rfl⟩
set_option maxHeartbeats 4000000 in
set_option maxRecDepth 100000 in
/-- Program.clear -/
theorem k_X5_clear (l : Launch) (D : va_G) (K : KS) (q29 q30 q31 q32 q33 q34 q35 q36 q37 q38 q39 q40 q41 q42 q43 q44 q45 q46 q47 q48 q49 q50 q51 q52 q53 q54 q55 q56 q57 q58 q59 q60 q61 q62 q63 q64 q65 q66 q67 q68 q69 q70 q71 q72 q73 q74 q75 q76 q77 q78 q79 q80 q81 q82 q83 q84 q85 q86 q87 q88 q89 q90 q91 q92 q93 q94 q95 q96 q97 q98 : Nat) : Con l D K yX5_clear cX5_clear 1 none 1 20 0 0 [.ref q29] [(q29, .inr (8, [.ref q30, .ref q31, .ref q32, .ref q33, .ref q34, .ref q35, .ref q36, .ref q37, .ref q38, .ref q39, .int 0, .int 0, .int 0, .ref q40, .int 0])), (q30, .inr (9, [.ref q41, .ref q42, .int 0, .ref q43, .ref q44, .ref q45, .ref q46, .ref q47, .ref q48, .ref q49, .int 0, .ref q50, .ref q51, .ref q52, .int 0, .ref q53, .ref q54, .ref q55, .int 0])), (q41, .inl (K 0, 1504, .inl (fun _ => 0))), (q31, .inr (10, [.ref q56, .ref q57, .ref q58, .ref q59, .ref q60, .ref q61, .ref q62, .int 0, .ref q63, .ref q64, .ref q65, .ref q66, .ref q67, .ref q68, .ref q69, .ref q70, .ref q71, .int 0, .int 0])), (q32, .inr (11, [.ref q72, .ref q73, .ref q74, .ref q75, .ref q76, .ref q77, .ref q78, .ref q79, .int 0, .ref q80, .ref q81, .int 0])), (q33, .inr (12, [.ref q82, .ref q83, .ref q84, .ref q85, .ref q86, .ref q87, .ref q88, .ref q89, .ref q90, .ref q91, .ref q92, .ref q93, .int 0, .ref q94, .ref q95, .ref q96, .int 0, .ref q97, .ref q98, .int 0]))] (fun v w => v = none ∧ w = [(q29, .inr (8, [.ref q30, .ref q31, .ref q32, .ref q33, .ref q34, .ref q35, .ref q36, .ref q37, .ref q38, .ref q39, .int 0, .int 0, .int 0, .ref q40, .int 0])), (q30, .inr (9, [.ref q41, .ref q42, .int 3, .ref q43, .ref q44, .ref q45, .ref q46, .ref q47, .ref q48, .ref q49, .int 0, .ref q50, .ref q51, .ref q52, .int 0, .ref q53, .ref q54, .ref q55, .int 0])), (q41, .inl (K 0, 1504, .inl (upd (upd (upd (fun _ => 0) (0 : Int32).toNatClampNeg 0) (1 : Int32).toNatClampNeg 1) (2 : Int32).toNatClampNeg 2))), (q31, .inr (10, [.ref q56, .ref q57, .ref q58, .ref q59, .ref q60, .ref q61, .ref q62, .int 0, .ref q63, .ref q64, .ref q65, .ref q66, .ref q67, .ref q68, .ref q69, .ref q70, .ref q71, .int 0, .int (-1)])), (q32, .inr (11, [.ref q72, .ref q73, .ref q74, .ref q75, .ref q76, .ref q77, .ref q78, .ref q79, .int 0, .ref q80, .ref q81, .int 0])), (q33, .inr (12, [.ref q82, .ref q83, .ref q84, .ref q85, .ref q86, .ref q87, .ref q88, .ref q89, .ref q90, .ref q91, .ref q92, .ref q93, .int 0, .ref q94, .ref q95, .ref q96, .int 0, .ref q97, .ref q98, .int 0]))]) := by
  refine Con.of (by decide +kernel) (Nat.le_of_ble_eq_true rfl) ?_
  intro X hXl hXD hXK C hR hQ hnm
  subst hXl; subst hXD; subst hXK
  refine g_lv (l2 := [(0, .ref q29)]) [0] rfl ?_
  refine g_aload_n (z := 1) C dX5_clear_0 0 rfl rfl rfl ?_
  refine g_get (z := 4) C kX5 dX5_clear_1 0 rfl 0 (by decide) w_257 rfl rfl rfl ?_
  refine g_callVN (n := 0) (As := []) (rest := []) (wr := [(q29, .inr (8, [.ref q30, .ref q31, .ref q32, .ref q33, .ref q34, .ref q35, .ref q36, .ref q37, .ref q38, .ref q39, .int 0, .int 0, .int 0, .ref q40, .int 0])), (q31, .inr (10, [.ref q56, .ref q57, .ref q58, .ref q59, .ref q60, .ref q61, .ref q62, .int 0, .ref q63, .ref q64, .ref q65, .ref q66, .ref q67, .ref q68, .ref q69, .ref q70, .ref q71, .int 0, .int 0])), (q32, .inr (11, [.ref q72, .ref q73, .ref q74, .ref q75, .ref q76, .ref q77, .ref q78, .ref q79, .int 0, .ref q80, .ref q81, .int 0])), (q33, .inr (12, [.ref q82, .ref q83, .ref q84, .ref q85, .ref q86, .ref q87, .ref q88, .ref q89, .ref q90, .ref q91, .ref q92, .ref q93, .int 0, .ref q94, .ref q95, .ref q96, .int 0, .ref q97, .ref q98, .int 0]))]) (a2 := 0) (b2 := 0) (z := 7) C hR (k_X9_clear (gl X) (gD X) (gK X) q30 q41 q42 q43 q44 q45 q46 q47 q48 q49 q50 q51 q52 q53 q54 q55) dX5_clear_4 nw_67 w_303 w_304 w_302 w_256 ⟨by decide +kernel, by decide +kernel, by decide +kernel⟩ [1, 2] [0, 3, 4, 5] rfl rfl rfl rfl rfl (by decide) ⟨(Nat.le_of_ble_eq_true rfl), (Nat.le_of_ble_eq_true rfl)⟩ rfl rfl (Nat.le_of_ble_eq_true rfl) (Nat.le_of_ble_eq_true rfl) (Nat.le_of_ble_eq_true rfl) rfl rfl 1 kX9 rfl rfl rfl rfl (fun v ws' hp => ?_)
  obtain ⟨rfl, rfl⟩ := hp
  refine g_ws (w2 := [(q29, .inr (8, [.ref q30, .ref q31, .ref q32, .ref q33, .ref q34, .ref q35, .ref q36, .ref q37, .ref q38, .ref q39, .int 0, .int 0, .int 0, .ref q40, .int 0])), (q31, .inr (10, [.ref q56, .ref q57, .ref q58, .ref q59, .ref q60, .ref q61, .ref q62, .int 0, .ref q63, .ref q64, .ref q65, .ref q66, .ref q67, .ref q68, .ref q69, .ref q70, .ref q71, .int 0, .int 0])), (q32, .inr (11, [.ref q72, .ref q73, .ref q74, .ref q75, .ref q76, .ref q77, .ref q78, .ref q79, .int 0, .ref q80, .ref q81, .int 0])), (q33, .inr (12, [.ref q82, .ref q83, .ref q84, .ref q85, .ref q86, .ref q87, .ref q88, .ref q89, .ref q90, .ref q91, .ref q92, .ref q93, .int 0, .ref q94, .ref q95, .ref q96, .int 0, .ref q97, .ref q98, .int 0])), (q30, .inr (9, [.ref q41, .ref q42, .int 3, .ref q43, .ref q44, .ref q45, .ref q46, .ref q47, .ref q48, .ref q49, .int 0, .ref q50, .ref q51, .ref q52, .int 0, .ref q53, .ref q54, .ref q55, .int 0])), (q41, .inl (gK X 0, 1504, .inl (upd (upd (upd (fun _ => 0) (0 : Int32).toNatClampNeg 0) (1 : Int32).toNatClampNeg 1) (2 : Int32).toNatClampNeg 2)))]) rfl ?_
  refine g_st (s2 := []) rfl ?_
  refine g_aload_n (z := 8) C dX5_clear_7 0 rfl rfl rfl ?_
  refine g_get (z := 11) C kX5 dX5_clear_8 0 rfl 1 (by decide) w_261 rfl rfl rfl ?_
  refine g_callVN (n := 0) (As := []) (rest := []) (wr := [(q29, .inr (8, [.ref q30, .ref q31, .ref q32, .ref q33, .ref q34, .ref q35, .ref q36, .ref q37, .ref q38, .ref q39, .int 0, .int 0, .int 0, .ref q40, .int 0])), (q32, .inr (11, [.ref q72, .ref q73, .ref q74, .ref q75, .ref q76, .ref q77, .ref q78, .ref q79, .int 0, .ref q80, .ref q81, .int 0])), (q33, .inr (12, [.ref q82, .ref q83, .ref q84, .ref q85, .ref q86, .ref q87, .ref q88, .ref q89, .ref q90, .ref q91, .ref q92, .ref q93, .int 0, .ref q94, .ref q95, .ref q96, .int 0, .ref q97, .ref q98, .int 0])), (q30, .inr (9, [.ref q41, .ref q42, .int 3, .ref q43, .ref q44, .ref q45, .ref q46, .ref q47, .ref q48, .ref q49, .int 0, .ref q50, .ref q51, .ref q52, .int 0, .ref q53, .ref q54, .ref q55, .int 0])), (q41, .inl (gK X 0, 1504, .inl (upd (upd (upd (fun _ => 0) (0 : Int32).toNatClampNeg 0) (1 : Int32).toNatClampNeg 1) (2 : Int32).toNatClampNeg 2)))]) (a2 := 0) (b2 := 0) (z := 14) C hR (k_X2_clear (gl X) (gD X) (gK X) q31 q56 q57 q58 q59 q60 q61 q62 q63 q64 q65 q66 q67 q68 q69 q70 q71) dX5_clear_11 nw_68 w_332 w_333 w_331 w_260 ⟨by decide +kernel, by decide +kernel, by decide +kernel⟩ [1] [0, 2, 3, 4, 5] rfl rfl rfl rfl rfl (by decide) ⟨(Nat.le_of_ble_eq_true rfl), (Nat.le_of_ble_eq_true rfl)⟩ rfl rfl (Nat.le_of_ble_eq_true rfl) (Nat.le_of_ble_eq_true rfl) (Nat.le_of_ble_eq_true rfl) rfl rfl 1 kX2 rfl rfl rfl rfl (fun v ws' hp => ?_)
  obtain ⟨rfl, rfl⟩ := hp
  refine g_ws (w2 := [(q29, .inr (8, [.ref q30, .ref q31, .ref q32, .ref q33, .ref q34, .ref q35, .ref q36, .ref q37, .ref q38, .ref q39, .int 0, .int 0, .int 0, .ref q40, .int 0])), (q32, .inr (11, [.ref q72, .ref q73, .ref q74, .ref q75, .ref q76, .ref q77, .ref q78, .ref q79, .int 0, .ref q80, .ref q81, .int 0])), (q33, .inr (12, [.ref q82, .ref q83, .ref q84, .ref q85, .ref q86, .ref q87, .ref q88, .ref q89, .ref q90, .ref q91, .ref q92, .ref q93, .int 0, .ref q94, .ref q95, .ref q96, .int 0, .ref q97, .ref q98, .int 0])), (q30, .inr (9, [.ref q41, .ref q42, .int 3, .ref q43, .ref q44, .ref q45, .ref q46, .ref q47, .ref q48, .ref q49, .int 0, .ref q50, .ref q51, .ref q52, .int 0, .ref q53, .ref q54, .ref q55, .int 0])), (q41, .inl (gK X 0, 1504, .inl (upd (upd (upd (fun _ => 0) (0 : Int32).toNatClampNeg 0) (1 : Int32).toNatClampNeg 1) (2 : Int32).toNatClampNeg 2))), (q31, .inr (10, [.ref q56, .ref q57, .ref q58, .ref q59, .ref q60, .ref q61, .ref q62, .int 0, .ref q63, .ref q64, .ref q65, .ref q66, .ref q67, .ref q68, .ref q69, .ref q70, .ref q71, .int 0, .int (-1)]))]) rfl ?_
  refine g_st (s2 := []) rfl ?_
  refine g_aload_n (z := 15) C dX5_clear_14 0 rfl rfl rfl ?_
  refine g_get (z := 18) C kX5 dX5_clear_15 0 rfl 2 (by decide) w_265 rfl rfl rfl ?_
  refine g_callVN (n := 0) (As := []) (rest := []) (wr := [(q29, .inr (8, [.ref q30, .ref q31, .ref q32, .ref q33, .ref q34, .ref q35, .ref q36, .ref q37, .ref q38, .ref q39, .int 0, .int 0, .int 0, .ref q40, .int 0])), (q33, .inr (12, [.ref q82, .ref q83, .ref q84, .ref q85, .ref q86, .ref q87, .ref q88, .ref q89, .ref q90, .ref q91, .ref q92, .ref q93, .int 0, .ref q94, .ref q95, .ref q96, .int 0, .ref q97, .ref q98, .int 0])), (q30, .inr (9, [.ref q41, .ref q42, .int 3, .ref q43, .ref q44, .ref q45, .ref q46, .ref q47, .ref q48, .ref q49, .int 0, .ref q50, .ref q51, .ref q52, .int 0, .ref q53, .ref q54, .ref q55, .int 0])), (q41, .inl (gK X 0, 1504, .inl (upd (upd (upd (fun _ => 0) (0 : Int32).toNatClampNeg 0) (1 : Int32).toNatClampNeg 1) (2 : Int32).toNatClampNeg 2))), (q31, .inr (10, [.ref q56, .ref q57, .ref q58, .ref q59, .ref q60, .ref q61, .ref q62, .int 0, .ref q63, .ref q64, .ref q65, .ref q66, .ref q67, .ref q68, .ref q69, .ref q70, .ref q71, .int 0, .int (-1)]))]) (a2 := 0) (b2 := 0) (z := 21) C hR (k_X10_clear (gl X) (gD X) (gK X) q32 q72 q73 q74 q75 q76 q77 q78 q79 q80 q81) dX5_clear_18 nw_69 w_351 w_352 w_350 w_264 ⟨by decide +kernel, by decide +kernel, by decide +kernel⟩ [1] [0, 2, 3, 4, 5] rfl rfl rfl rfl rfl (by decide) ⟨(Nat.le_of_ble_eq_true rfl), (Nat.le_of_ble_eq_true rfl)⟩ rfl rfl (Nat.le_of_ble_eq_true rfl) (Nat.le_of_ble_eq_true rfl) (Nat.le_of_ble_eq_true rfl) rfl rfl 1 kX10 rfl rfl rfl rfl (fun v ws' hp => ?_)
  obtain ⟨rfl, rfl⟩ := hp
  refine g_ws (w2 := [(q29, .inr (8, [.ref q30, .ref q31, .ref q32, .ref q33, .ref q34, .ref q35, .ref q36, .ref q37, .ref q38, .ref q39, .int 0, .int 0, .int 0, .ref q40, .int 0])), (q33, .inr (12, [.ref q82, .ref q83, .ref q84, .ref q85, .ref q86, .ref q87, .ref q88, .ref q89, .ref q90, .ref q91, .ref q92, .ref q93, .int 0, .ref q94, .ref q95, .ref q96, .int 0, .ref q97, .ref q98, .int 0])), (q30, .inr (9, [.ref q41, .ref q42, .int 3, .ref q43, .ref q44, .ref q45, .ref q46, .ref q47, .ref q48, .ref q49, .int 0, .ref q50, .ref q51, .ref q52, .int 0, .ref q53, .ref q54, .ref q55, .int 0])), (q41, .inl (gK X 0, 1504, .inl (upd (upd (upd (fun _ => 0) (0 : Int32).toNatClampNeg 0) (1 : Int32).toNatClampNeg 1) (2 : Int32).toNatClampNeg 2))), (q31, .inr (10, [.ref q56, .ref q57, .ref q58, .ref q59, .ref q60, .ref q61, .ref q62, .int 0, .ref q63, .ref q64, .ref q65, .ref q66, .ref q67, .ref q68, .ref q69, .ref q70, .ref q71, .int 0, .int (-1)])), (q32, .inr (11, [.ref q72, .ref q73, .ref q74, .ref q75, .ref q76, .ref q77, .ref q78, .ref q79, .int 0, .ref q80, .ref q81, .int 0]))]) rfl ?_
  refine g_st (s2 := []) rfl ?_
  refine g_aload_n (z := 22) C dX5_clear_21 0 rfl rfl rfl ?_
  refine g_get (z := 25) C kX5 dX5_clear_22 0 rfl 3 (by decide) w_269 rfl rfl rfl ?_
  refine g_callVN (n := 0) (As := []) (rest := []) (wr := [(q29, .inr (8, [.ref q30, .ref q31, .ref q32, .ref q33, .ref q34, .ref q35, .ref q36, .ref q37, .ref q38, .ref q39, .int 0, .int 0, .int 0, .ref q40, .int 0])), (q30, .inr (9, [.ref q41, .ref q42, .int 3, .ref q43, .ref q44, .ref q45, .ref q46, .ref q47, .ref q48, .ref q49, .int 0, .ref q50, .ref q51, .ref q52, .int 0, .ref q53, .ref q54, .ref q55, .int 0])), (q41, .inl (gK X 0, 1504, .inl (upd (upd (upd (fun _ => 0) (0 : Int32).toNatClampNeg 0) (1 : Int32).toNatClampNeg 1) (2 : Int32).toNatClampNeg 2))), (q31, .inr (10, [.ref q56, .ref q57, .ref q58, .ref q59, .ref q60, .ref q61, .ref q62, .int 0, .ref q63, .ref q64, .ref q65, .ref q66, .ref q67, .ref q68, .ref q69, .ref q70, .ref q71, .int 0, .int (-1)])), (q32, .inr (11, [.ref q72, .ref q73, .ref q74, .ref q75, .ref q76, .ref q77, .ref q78, .ref q79, .int 0, .ref q80, .ref q81, .int 0]))]) (a2 := 0) (b2 := 0) (z := 28) C hR (k_X4_clear (gl X) (gD X) (gK X) q33 q82 q83 q84 q85 q86 q87 q88 q89 q90 q91 q92 q93 q94 q95 q96 q97 q98) dX5_clear_25 nw_70 w_376 w_377 w_375 w_268 ⟨by decide +kernel, by decide +kernel, by decide +kernel⟩ [1] [0, 2, 3, 4, 5] rfl rfl rfl rfl rfl (by decide) ⟨(Nat.le_of_ble_eq_true rfl), (Nat.le_of_ble_eq_true rfl)⟩ rfl rfl (Nat.le_of_ble_eq_true rfl) (Nat.le_of_ble_eq_true rfl) (Nat.le_of_ble_eq_true rfl) rfl rfl 1 kX4 rfl rfl rfl rfl (fun v ws' hp => ?_)
  obtain ⟨rfl, rfl⟩ := hp
  refine g_ws (w2 := [(q29, .inr (8, [.ref q30, .ref q31, .ref q32, .ref q33, .ref q34, .ref q35, .ref q36, .ref q37, .ref q38, .ref q39, .int 0, .int 0, .int 0, .ref q40, .int 0])), (q30, .inr (9, [.ref q41, .ref q42, .int 3, .ref q43, .ref q44, .ref q45, .ref q46, .ref q47, .ref q48, .ref q49, .int 0, .ref q50, .ref q51, .ref q52, .int 0, .ref q53, .ref q54, .ref q55, .int 0])), (q41, .inl (gK X 0, 1504, .inl (upd (upd (upd (fun _ => 0) (0 : Int32).toNatClampNeg 0) (1 : Int32).toNatClampNeg 1) (2 : Int32).toNatClampNeg 2))), (q31, .inr (10, [.ref q56, .ref q57, .ref q58, .ref q59, .ref q60, .ref q61, .ref q62, .int 0, .ref q63, .ref q64, .ref q65, .ref q66, .ref q67, .ref q68, .ref q69, .ref q70, .ref q71, .int 0, .int (-1)])), (q32, .inr (11, [.ref q72, .ref q73, .ref q74, .ref q75, .ref q76, .ref q77, .ref q78, .ref q79, .int 0, .ref q80, .ref q81, .int 0])), (q33, .inr (12, [.ref q82, .ref q83, .ref q84, .ref q85, .ref q86, .ref q87, .ref q88, .ref q89, .ref q90, .ref q91, .ref q92, .ref q93, .int 0, .ref q94, .ref q95, .ref q96, .int 0, .ref q97, .ref q98, .int 0]))]) rfl ?_
  refine g_st (s2 := []) rfl ?_
  refine g_aload_n (z := 29) C dX5_clear_28 0 rfl rfl rfl ?_
  refine g_iconst (v := 0) (z := 30) C dX5_clear_29 (by decide) rfl ?_
  refine g_put (w2 := [(q29, .inr (8, [.ref q30, .ref q31, .ref q32, .ref q33, .ref q34, .ref q35, .ref q36, .ref q37, .ref q38, .ref q39, .int 0, .int 0, .int 0, .ref q40, .int 0])), (q30, .inr (9, [.ref q41, .ref q42, .int 3, .ref q43, .ref q44, .ref q45, .ref q46, .ref q47, .ref q48, .ref q49, .int 0, .ref q50, .ref q51, .ref q52, .int 0, .ref q53, .ref q54, .ref q55, .int 0])), (q41, .inl (gK X 0, 1504, .inl (upd (upd (upd (fun _ => 0) (0 : Int32).toNatClampNeg 0) (1 : Int32).toNatClampNeg 1) (2 : Int32).toNatClampNeg 2))), (q31, .inr (10, [.ref q56, .ref q57, .ref q58, .ref q59, .ref q60, .ref q61, .ref q62, .int 0, .ref q63, .ref q64, .ref q65, .ref q66, .ref q67, .ref q68, .ref q69, .ref q70, .ref q71, .int 0, .int (-1)])), (q32, .inr (11, [.ref q72, .ref q73, .ref q74, .ref q75, .ref q76, .ref q77, .ref q78, .ref q79, .int 0, .ref q80, .ref q81, .int 0])), (q33, .inr (12, [.ref q82, .ref q83, .ref q84, .ref q85, .ref q86, .ref q87, .ref q88, .ref q89, .ref q90, .ref q91, .ref q92, .ref q93, .int 0, .ref q94, .ref q95, .ref q96, .int 0, .ref q97, .ref q98, .int 0]))]) (z := 33) C kX5 dX5_clear_30 0 rfl 10 (by decide) w_280 rfl rfl rfl rfl (Nat.le_of_ble_eq_true rfl) rfl rfl ?_
  refine g_aload_n (z := 34) C dX5_clear_33 0 rfl rfl rfl ?_
  refine g_iconst (v := 0) (z := 35) C dX5_clear_34 (by decide) rfl ?_
  refine g_put (w2 := [(q29, .inr (8, [.ref q30, .ref q31, .ref q32, .ref q33, .ref q34, .ref q35, .ref q36, .ref q37, .ref q38, .ref q39, .int 0, .int 0, .int 0, .ref q40, .int 0])), (q30, .inr (9, [.ref q41, .ref q42, .int 3, .ref q43, .ref q44, .ref q45, .ref q46, .ref q47, .ref q48, .ref q49, .int 0, .ref q50, .ref q51, .ref q52, .int 0, .ref q53, .ref q54, .ref q55, .int 0])), (q41, .inl (gK X 0, 1504, .inl (upd (upd (upd (fun _ => 0) (0 : Int32).toNatClampNeg 0) (1 : Int32).toNatClampNeg 1) (2 : Int32).toNatClampNeg 2))), (q31, .inr (10, [.ref q56, .ref q57, .ref q58, .ref q59, .ref q60, .ref q61, .ref q62, .int 0, .ref q63, .ref q64, .ref q65, .ref q66, .ref q67, .ref q68, .ref q69, .ref q70, .ref q71, .int 0, .int (-1)])), (q32, .inr (11, [.ref q72, .ref q73, .ref q74, .ref q75, .ref q76, .ref q77, .ref q78, .ref q79, .int 0, .ref q80, .ref q81, .int 0])), (q33, .inr (12, [.ref q82, .ref q83, .ref q84, .ref q85, .ref q86, .ref q87, .ref q88, .ref q89, .ref q90, .ref q91, .ref q92, .ref q93, .int 0, .ref q94, .ref q95, .ref q96, .int 0, .ref q97, .ref q98, .int 0]))]) (z := 38) C kX5 dX5_clear_35 0 rfl 11 (by decide) w_281 rfl rfl rfl rfl (Nat.le_of_ble_eq_true rfl) rfl rfl ?_
  refine g_aload_n (z := 39) C dX5_clear_38 0 rfl rfl rfl ?_
  refine g_iconst (v := 0) (z := 40) C dX5_clear_39 (by decide) rfl ?_
  refine g_put (w2 := [(q29, .inr (8, [.ref q30, .ref q31, .ref q32, .ref q33, .ref q34, .ref q35, .ref q36, .ref q37, .ref q38, .ref q39, .int 0, .int 0, .int 0, .ref q40, .int 0])), (q30, .inr (9, [.ref q41, .ref q42, .int 3, .ref q43, .ref q44, .ref q45, .ref q46, .ref q47, .ref q48, .ref q49, .int 0, .ref q50, .ref q51, .ref q52, .int 0, .ref q53, .ref q54, .ref q55, .int 0])), (q41, .inl (gK X 0, 1504, .inl (upd (upd (upd (fun _ => 0) (0 : Int32).toNatClampNeg 0) (1 : Int32).toNatClampNeg 1) (2 : Int32).toNatClampNeg 2))), (q31, .inr (10, [.ref q56, .ref q57, .ref q58, .ref q59, .ref q60, .ref q61, .ref q62, .int 0, .ref q63, .ref q64, .ref q65, .ref q66, .ref q67, .ref q68, .ref q69, .ref q70, .ref q71, .int 0, .int (-1)])), (q32, .inr (11, [.ref q72, .ref q73, .ref q74, .ref q75, .ref q76, .ref q77, .ref q78, .ref q79, .int 0, .ref q80, .ref q81, .int 0])), (q33, .inr (12, [.ref q82, .ref q83, .ref q84, .ref q85, .ref q86, .ref q87, .ref q88, .ref q89, .ref q90, .ref q91, .ref q92, .ref q93, .int 0, .ref q94, .ref q95, .ref q96, .int 0, .ref q97, .ref q98, .int 0]))]) (z := 43) C kX5 dX5_clear_40 0 rfl 12 (by decide) w_282 rfl rfl rfl rfl (Nat.le_of_ble_eq_true rfl) rfl rfl ?_
  refine g_aload_n (z := 44) C dX5_clear_43 0 rfl rfl rfl ?_
  refine g_iconst (v := 0) (z := 45) C dX5_clear_44 (by decide) rfl ?_
  refine g_put (w2 := [(q29, .inr (8, [.ref q30, .ref q31, .ref q32, .ref q33, .ref q34, .ref q35, .ref q36, .ref q37, .ref q38, .ref q39, .int 0, .int 0, .int 0, .ref q40, .int 0])), (q30, .inr (9, [.ref q41, .ref q42, .int 3, .ref q43, .ref q44, .ref q45, .ref q46, .ref q47, .ref q48, .ref q49, .int 0, .ref q50, .ref q51, .ref q52, .int 0, .ref q53, .ref q54, .ref q55, .int 0])), (q41, .inl (gK X 0, 1504, .inl (upd (upd (upd (fun _ => 0) (0 : Int32).toNatClampNeg 0) (1 : Int32).toNatClampNeg 1) (2 : Int32).toNatClampNeg 2))), (q31, .inr (10, [.ref q56, .ref q57, .ref q58, .ref q59, .ref q60, .ref q61, .ref q62, .int 0, .ref q63, .ref q64, .ref q65, .ref q66, .ref q67, .ref q68, .ref q69, .ref q70, .ref q71, .int 0, .int (-1)])), (q32, .inr (11, [.ref q72, .ref q73, .ref q74, .ref q75, .ref q76, .ref q77, .ref q78, .ref q79, .int 0, .ref q80, .ref q81, .int 0])), (q33, .inr (12, [.ref q82, .ref q83, .ref q84, .ref q85, .ref q86, .ref q87, .ref q88, .ref q89, .ref q90, .ref q91, .ref q92, .ref q93, .int 0, .ref q94, .ref q95, .ref q96, .int 0, .ref q97, .ref q98, .int 0]))]) (z := 48) C kX5 dX5_clear_45 0 rfl 14 (by decide) w_283 rfl rfl rfl rfl (Nat.le_of_ble_eq_true rfl) rfl rfl ?_
  refine g_sub (w2 := [(q29, .inr (8, [.ref q30, .ref q31, .ref q32, .ref q33, .ref q34, .ref q35, .ref q36, .ref q37, .ref q38, .ref q39, .int 0, .int 0, .int 0, .ref q40, .int 0])), (q30, .inr (9, [.ref q41, .ref q42, .int 3, .ref q43, .ref q44, .ref q45, .ref q46, .ref q47, .ref q48, .ref q49, .int 0, .ref q50, .ref q51, .ref q52, .int 0, .ref q53, .ref q54, .ref q55, .int 0])), (q41, .inl (gK X 0, 1504, .inl (upd (upd (upd (fun _ => 0) (0 : Int32).toNatClampNeg 0) (1 : Int32).toNatClampNeg 1) (2 : Int32).toNatClampNeg 2))), (q31, .inr (10, [.ref q56, .ref q57, .ref q58, .ref q59, .ref q60, .ref q61, .ref q62, .int 0, .ref q63, .ref q64, .ref q65, .ref q66, .ref q67, .ref q68, .ref q69, .ref q70, .ref q71, .int 0, .int (-1)])), (q32, .inr (11, [.ref q72, .ref q73, .ref q74, .ref q75, .ref q76, .ref q77, .ref q78, .ref q79, .int 0, .ref q80, .ref q81, .int 0])), (q33, .inr (12, [.ref q82, .ref q83, .ref q84, .ref q85, .ref q86, .ref q87, .ref q88, .ref q89, .ref q90, .ref q91, .ref q92, .ref q93, .int 0, .ref q94, .ref q95, .ref q96, .int 0, .ref q97, .ref q98, .int 0]))]) [0, 1, 2, 3, 4, 5] rfl rfl rfl ?_
  exact g_vret C hQ dX5_clear_48 (Nat.le_of_ble_eq_true rfl) (Nat.le_of_ble_eq_true rfl) ⟨rfl, rfl⟩
set_option maxHeartbeats 4000000 in
set_option maxRecDepth 100000 in
/-- Types.measure of nothing -/
theorem k_X9_measure (l : Launch) (D : va_G) (K : KS) (q30 q41 q42 q43 q44 q45 q46 q47 q48 q49 q50 q51 q52 q53 q54 q55 : Nat) : Con l D K yX9_measure cX9_measure 4 none 0 0 0 0 [.ref q30] [(q30, .inr (9, [.ref q41, .ref q42, .int 3, .ref q43, .ref q44, .ref q45, .ref q46, .ref q47, .ref q48, .ref q49, .int 0, .ref q50, .ref q51, .ref q52, .int 0, .ref q53, .ref q54, .ref q55, .int 0]))] (fun v w => v = none ∧ w = [(q30, .inr (9, [.ref q41, .ref q42, .int 3, .ref q43, .ref q44, .ref q45, .ref q46, .ref q47, .ref q48, .ref q49, .int 0, .ref q50, .ref q51, .ref q52, .int 0, .ref q53, .ref q54, .ref q55, .int 0]))]) := by
  refine Con.of (by decide +kernel) (Nat.le_of_ble_eq_true rfl) ?_
  intro X hXl hXD hXK C hR hQ hnm
  subst hXl; subst hXD; subst hXK
  refine g_lv (l2 := [(0, .ref q30)]) [0] rfl ?_
  refine g_iconst (v := 1) (z := 1) C dX9_measure_0 (by decide) rfl ?_
  refine g_istore_n (l2 := [(1, .int 1), (0, .ref q30)]) (z := 2) C dX9_measure_1 rfl (by decide) rfl rfl ?_
  refine g_iconst (v := 0) (z := 3) C dX9_measure_2 (by decide) rfl ?_
  refine g_istore_n (l2 := [(2, .int 0), (1, .int 1), (0, .ref q30)]) (z := 4) C dX9_measure_3 rfl (by decide) rfl rfl ?_
  refine g_iload_n (z := 5) C dX9_measure_4 0 rfl rfl rfl ?_
  refine g_aload_n (z := 6) C dX9_measure_5 2 rfl rfl rfl ?_
  refine g_get (z := 9) C kX9 dX9_measure_6 0 rfl 10 (by decide) w_305 rfl rfl rfl ?_
  refine g_icmp_gt_f (z := 12) 64 C dX9_measure_9 (by decide) (by decide) rfl ?_
  refine g_iload_n (z := 13) C dX9_measure_12 1 rfl rfl rfl ?_
  refine g_if_eq_f (z := 16) 64 C dX9_measure_13 (by decide) (by decide) rfl ?_
  refine g_iconst (v := 0) (z := 17) C dX9_measure_16 (by decide) rfl ?_
  refine g_istore_n (l2 := [(1, .int 0), (2, .int 0), (0, .ref q30)]) (z := 18) C dX9_measure_17 rfl (by decide) rfl rfl ?_
  refine g_iconst (v := 0) (z := 19) C dX9_measure_18 (by decide) rfl ?_
  refine g_istore_n (l2 := [(3, .int 0), (1, .int 0), (2, .int 0), (0, .ref q30)]) (z := 20) C dX9_measure_19 rfl (by decide) rfl rfl ?_
  refine g_iload_n (z := 21) C dX9_measure_20 0 rfl rfl rfl ?_
  refine g_aload_n (z := 22) C dX9_measure_21 3 rfl rfl rfl ?_
  refine g_get (z := 25) C kX9 dX9_measure_22 0 rfl 10 (by decide) w_305 rfl rfl rfl ?_
  refine g_icmp_ge_t (z := 58) C dX9_measure_25 (by decide) (by decide) ?_
  refine g_iinc (v := 1) (l2 := [(2, .int 1), (3, .int 0), (1, .int 0), (0, .ref q30)]) (z := 61) C dX9_measure_58 2 rfl (by decide) (by decide) rfl rfl ?_
  refine g_goto (z := 4) C dX9_measure_61 (by decide) ?_
  refine g_iload_n (z := 5) C dX9_measure_4 0 rfl rfl rfl ?_
  refine g_aload_n (z := 6) C dX9_measure_5 3 rfl rfl rfl ?_
  refine g_get (z := 9) C kX9 dX9_measure_6 0 rfl 10 (by decide) w_305 rfl rfl rfl ?_
  refine g_icmp_gt_t (z := 64) C dX9_measure_9 (by decide) (by decide) ?_
  exact g_vret C hQ dX9_measure_64 (Nat.le_of_ble_eq_true rfl) (Nat.le_of_ble_eq_true rfl) ⟨rfl, rfl⟩
set_option maxHeartbeats 4000000 in
set_option maxRecDepth 100000 in
/-- declareAll of nothing -/
theorem k_declareAll (l : Launch) (D : va_G) (K : KS) (h0 : Nat) : Con l D K yX0_declareAll cX0_declareAll 4 none 0 0 0 0 [.ref h0, .int 0] [] (fun v w => v = none ∧ w = []) := by
  refine Con.of (by decide +kernel) (Nat.le_of_ble_eq_true rfl) ?_
  intro X hXl hXD hXK C hR hQ hnm
  subst hXl; subst hXD; subst hXK
  refine g_lv (l2 := [(0, .ref h0), (1, .int 0)]) [0, 1] rfl ?_
  refine g_iload_n (z := 1) C dX0_declareAll_0 1 rfl rfl rfl ?_
  refine g_istore_n (l2 := [(2, .int 0), (0, .ref h0), (1, .int 0)]) (z := 2) C dX0_declareAll_1 rfl (by decide) rfl rfl ?_
  refine g_iload_n (z := 3) C dX0_declareAll_2 0 rfl rfl rfl ?_
  refine g_if_eq_t (z := 163) C dX0_declareAll_3 (by decide) (by decide) ?_
  exact g_vret C hQ dX0_declareAll_163 (Nat.le_of_ble_eq_true rfl) (Nat.le_of_ble_eq_true rfl) ⟨rfl, rfl⟩
set_option maxHeartbeats 4000000 in
set_option maxRecDepth 100000 in
/-- measures of nothing -/
theorem k_measures (l : Launch) (D : va_G) (K : KS) (h0 : Nat) : Con l D K yX0_measures cX0_measures 5 none 0 0 0 0 [.ref h0, .int 0] [] (fun v w => v = none ∧ w = []) := by
  refine Con.of (by decide +kernel) (Nat.le_of_ble_eq_true rfl) ?_
  intro X hXl hXD hXK C hR hQ hnm
  subst hXl; subst hXD; subst hXK
  refine g_lv (l2 := [(0, .ref h0), (1, .int 0)]) [0, 1] rfl ?_
  refine g_iconst (v := 0) (z := 1) C dX0_measures_0 (by decide) rfl ?_
  refine g_istore_n (l2 := [(2, .int 0), (0, .ref h0), (1, .int 0)]) (z := 2) C dX0_measures_1 rfl (by decide) rfl rfl ?_
  refine g_iload_n (z := 3) C dX0_measures_2 2 rfl rfl rfl ?_
  refine g_istore_n (l2 := [(3, .int 0), (2, .int 0), (0, .ref h0), (1, .int 0)]) (z := 4) C dX0_measures_3 rfl (by decide) rfl rfl ?_
  refine g_iload_n (z := 5) C dX0_measures_4 0 rfl rfl rfl ?_
  refine g_if_eq_t (z := 103) C dX0_measures_5 (by decide) (by decide) ?_
  exact g_vret C hQ dX0_measures_103 (Nat.le_of_ble_eq_true rfl) (Nat.le_of_ble_eq_true rfl) ⟨rfl, rfl⟩
set_option maxHeartbeats 4000000 in
set_option maxRecDepth 100000 in
/-- broken(0) -/
theorem k_broken (l : Launch) (D : va_G) (K : KS) (q25 q3 q30 q31 q32 q33 : Nat) : Con l D K yX0_broken cX0_broken 2 none 1 14 0 0 [.ref q25, .int 0] [(q25, .inr (3, [.ref q3, .ref q30, .ref q31, .ref q32, .ref q33, .int 1073741824, .int 0, .int 0, .int 0, .int 0, .int 0]))] (fun v w => v = none ∧ w = [(q25, .inr (3, [.ref q3, .ref q30, .ref q31, .ref q32, .ref q33, .int 0, .int 0, .int 0, .int 0, .int 0, .int 0]))]) := by
  refine Con.of (by decide +kernel) (Nat.le_of_ble_eq_true rfl) ?_
  intro X hXl hXD hXK C hR hQ hnm
  subst hXl; subst hXD; subst hXK
  refine g_lv (l2 := [(0, .ref q25), (1, .int 0)]) [0, 1] rfl ?_
  refine g_aload_n (z := 1) C dX0_broken_0 0 rfl rfl rfl ?_
  refine g_aload_n (z := 2) C dX0_broken_1 0 rfl rfl rfl ?_
  refine g_get (z := 5) C kX0 dX0_broken_2 0 rfl 5 (by decide) w_194 rfl rfl rfl ?_
  refine g_iload_n (z := 6) C dX0_broken_5 1 rfl rfl rfl ?_
  refine g_min (v := 0) (z := 9) C hR dX0_broken_6 w_211 w_212 w_214 w_213 (Nat.le_of_ble_eq_true rfl) (Nat.le_of_ble_eq_true rfl) (Nat.le_of_ble_eq_true rfl) (Nat.le_of_ble_eq_true rfl) (by decide) rfl ?_
  refine g_put (w2 := [(q25, .inr (3, [.ref q3, .ref q30, .ref q31, .ref q32, .ref q33, .int 0, .int 0, .int 0, .int 0, .int 0, .int 0]))]) (z := 12) C kX0 dX0_broken_9 0 rfl 5 (by decide) w_194 rfl rfl rfl rfl (Nat.le_of_ble_eq_true rfl) rfl rfl ?_
  exact g_vret C hQ dX0_broken_12 (Nat.le_of_ble_eq_true rfl) (Nat.le_of_ble_eq_true rfl) ⟨rfl, rfl⟩
set_option maxHeartbeats 4000000 in
set_option maxRecDepth 100000 in
/-- no fn main: the end -/
theorem k_mainFunction (l : Launch) (D : va_G) (K : KS) (q25 q3 q30 q31 q32 q33 q56 q57 q58 q59 q60 q61 q62 q63 q64 q65 q66 q67 q68 q69 q70 q71 : Nat) : Con l D K yX0_mainFunction cX0_mainFunction 4 none 2 35 0 0 [.ref q25, .int 0] [(q25, .inr (3, [.ref q3, .ref q30, .ref q31, .ref q32, .ref q33, .int 1073741824, .int 0, .int 0, .int 0, .int 0, .int 0])), (q31, .inr (10, [.ref q56, .ref q57, .ref q58, .ref q59, .ref q60, .ref q61, .ref q62, .int 0, .ref q63, .ref q64, .ref q65, .ref q66, .ref q67, .ref q68, .ref q69, .ref q70, .ref q71, .int 0, .int (-1)]))] (fun v w => v = none ∧ w = [(q25, .inr (3, [.ref q3, .ref q30, .ref q31, .ref q32, .ref q33, .int 0, .int 0, .int 0, .int 0, .int 0, .int 0])), (q31, .inr (10, [.ref q56, .ref q57, .ref q58, .ref q59, .ref q60, .ref q61, .ref q62, .int 0, .ref q63, .ref q64, .ref q65, .ref q66, .ref q67, .ref q68, .ref q69, .ref q70, .ref q71, .int 0, .int (-1)]))]) := by
  refine Con.of (by decide +kernel) (Nat.le_of_ble_eq_true rfl) ?_
  intro X hXl hXD hXK C hR hQ hnm
  subst hXl; subst hXD; subst hXK
  refine g_lv (l2 := [(0, .ref q25), (1, .int 0)]) [0, 1] rfl ?_
  refine g_iconst (v := 0) (z := 1) C dX0_mainFunction_0 (by decide) rfl ?_
  refine g_istore_n (l2 := [(2, .int 0), (0, .ref q25), (1, .int 0)]) (z := 2) C dX0_mainFunction_1 rfl (by decide) rfl rfl ?_
  refine g_iload_n (z := 3) C dX0_mainFunction_2 0 rfl rfl rfl ?_
  refine g_aload_n (z := 4) C dX0_mainFunction_3 1 rfl rfl rfl ?_
  refine g_get (z := 7) C kX0 dX0_mainFunction_4 0 rfl 2 (by decide) w_190 rfl rfl rfl ?_
  refine g_getN (z := 10) C kX2 dX0_mainFunction_7 1 rfl 17 (by decide) nw_47 rfl rfl rfl ?_
  refine g_icmp_ge_t (z := 76) C dX0_mainFunction_10 (by decide) (by decide) ?_
  refine g_aload_n (z := 77) C dX0_mainFunction_76 1 rfl rfl rfl ?_
  refine g_iload_n (z := 78) C dX0_mainFunction_77 2 rfl rfl rfl ?_
  refine g_callV (n := 1) (As := [.int 0]) (rest := []) (wr := [(q31, .inr (10, [.ref q56, .ref q57, .ref q58, .ref q59, .ref q60, .ref q61, .ref q62, .int 0, .ref q63, .ref q64, .ref q65, .ref q66, .ref q67, .ref q68, .ref q69, .ref q70, .ref q71, .int 0, .int (-1)]))]) (a2 := 0) (b2 := 0) (z := 81) C hR (k_broken (gl X) (gD X) (gK X) q25 q3 q30 q31 q32 q33) dX0_mainFunction_78 w_204 w_209 w_210 w_208 w_20 ⟨by decide +kernel, by decide +kernel, by decide +kernel⟩ [0] [1] rfl rfl rfl rfl rfl (by decide) ⟨(Nat.le_of_ble_eq_true rfl), (Nat.le_of_ble_eq_true rfl)⟩ rfl rfl (Nat.le_of_ble_eq_true rfl) (Nat.le_of_ble_eq_true rfl) (Nat.le_of_ble_eq_true rfl) rfl rfl 0 kX0 rfl rfl rfl rfl (fun v ws' hp => ?_)
  obtain ⟨rfl, rfl⟩ := hp
  refine g_ws (w2 := [(q31, .inr (10, [.ref q56, .ref q57, .ref q58, .ref q59, .ref q60, .ref q61, .ref q62, .int 0, .ref q63, .ref q64, .ref q65, .ref q66, .ref q67, .ref q68, .ref q69, .ref q70, .ref q71, .int 0, .int (-1)])), (q25, .inr (3, [.ref q3, .ref q30, .ref q31, .ref q32, .ref q33, .int 0, .int 0, .int 0, .int 0, .int 0, .int 0]))]) rfl ?_
  refine g_st (s2 := []) rfl ?_
  refine g_sub (w2 := [(q25, .inr (3, [.ref q3, .ref q30, .ref q31, .ref q32, .ref q33, .int 0, .int 0, .int 0, .int 0, .int 0, .int 0])), (q31, .inr (10, [.ref q56, .ref q57, .ref q58, .ref q59, .ref q60, .ref q61, .ref q62, .int 0, .ref q63, .ref q64, .ref q65, .ref q66, .ref q67, .ref q68, .ref q69, .ref q70, .ref q71, .int 0, .int (-1)]))]) [1, 0] rfl rfl rfl ?_
  exact g_vret C hQ dX0_mainFunction_81 (Nat.le_of_ble_eq_true rfl) (Nat.le_of_ble_eq_true rfl) ⟨rfl, rfl⟩
set_option maxHeartbeats 4000000 in
set_option maxRecDepth 100000 in
/-- check of a text without a fn main: its place is 0 -/
theorem k_check (l : Launch) (D : va_G) (K : KS) (q25 q3 q29 q30 q31 q32 q33 q34 q35 q36 q37 q38 q39 q40 q4 q5 q6 q7 q8 q9 q10 q11 q12 q13 q14 q41 q42 q43 q44 q45 q46 q47 q48 q49 q50 q51 q52 q53 q54 q55 q56 q57 q58 q59 q60 q61 q62 q63 q64 q65 q66 q67 q68 q69 q70 q71 : Nat) : Con l D K yX0_check cX0_check 6 (some .int) 3 58 0 0 [.ref q25, .ref q29, .int 0] [(q25, .inr (3, [.ref q3, .null, .null, .null, .null, .int 0, .int 0, .int 0, .int 0, .int 0, .int 0])), (q29, .inr (8, [.ref q30, .ref q31, .ref q32, .ref q33, .ref q34, .ref q35, .ref q36, .ref q37, .ref q38, .ref q39, .int 0, .int 0, .int 0, .ref q40, .int 0])), (q3, .inr (1, [.ref q4, .ref q5, .ref q6, .ref q7, .ref q8, .ref q9, .ref q10, .ref q11, .ref q12, .ref q13, .ref q14, .int 2])), (q8, .inl (K 0, 3016, .inl (upd (fun _ => 0) (1 : Int32).toNatClampNeg 0))), (q30, .inr (9, [.ref q41, .ref q42, .int 3, .ref q43, .ref q44, .ref q45, .ref q46, .ref q47, .ref q48, .ref q49, .int 0, .ref q50, .ref q51, .ref q52, .int 0, .ref q53, .ref q54, .ref q55, .int 0])), (q31, .inr (10, [.ref q56, .ref q57, .ref q58, .ref q59, .ref q60, .ref q61, .ref q62, .int 0, .ref q63, .ref q64, .ref q65, .ref q66, .ref q67, .ref q68, .ref q69, .ref q70, .ref q71, .int 0, .int (-1)]))] (fun v w => v = some (.int 0) ∧ w = [(q25, .inr (3, [.ref q3, .ref q30, .ref q31, .ref q32, .ref q33, .int 0, .int 0, .int 0, .int 0, .int 0, .int 0])), (q29, .inr (8, [.ref q30, .ref q31, .ref q32, .ref q33, .ref q34, .ref q35, .ref q36, .ref q37, .ref q38, .ref q39, .int 0, .int 0, .int 0, .ref q40, .int 0])), (q3, .inr (1, [.ref q4, .ref q5, .ref q6, .ref q7, .ref q8, .ref q9, .ref q10, .ref q11, .ref q12, .ref q13, .ref q14, .int 2])), (q8, .inl (K 0, 3016, .inl (upd (fun _ => 0) (1 : Int32).toNatClampNeg 0))), (q30, .inr (9, [.ref q41, .ref q42, .int 3, .ref q43, .ref q44, .ref q45, .ref q46, .ref q47, .ref q48, .ref q49, .int 0, .ref q50, .ref q51, .ref q52, .int 0, .ref q53, .ref q54, .ref q55, .int 0])), (q31, .inr (10, [.ref q56, .ref q57, .ref q58, .ref q59, .ref q60, .ref q61, .ref q62, .int 0, .ref q63, .ref q64, .ref q65, .ref q66, .ref q67, .ref q68, .ref q69, .ref q70, .ref q71, .int 0, .int (-1)]))]) := by
  refine Con.of (by decide +kernel) (Nat.le_of_ble_eq_true rfl) ?_
  intro X hXl hXD hXK C hR hQ hnm
  subst hXl; subst hXD; subst hXK
  refine g_lv (l2 := [(0, .ref q25), (1, .ref q29), (2, .int 0)]) [0, 1, 2] rfl ?_
  refine g_aload_n (z := 1) C dX0_check_0 0 rfl rfl rfl ?_
  refine g_aload_n (z := 2) C dX0_check_1 1 rfl rfl rfl ?_
  refine g_getN (z := 5) C kX5 dX0_check_2 1 rfl 0 (by decide) nw_39 rfl rfl rfl ?_
  refine g_put (w2 := [(q25, .inr (3, [.ref q3, .ref q30, .null, .null, .null, .int 0, .int 0, .int 0, .int 0, .int 0, .int 0])), (q29, .inr (8, [.ref q30, .ref q31, .ref q32, .ref q33, .ref q34, .ref q35, .ref q36, .ref q37, .ref q38, .ref q39, .int 0, .int 0, .int 0, .ref q40, .int 0])), (q3, .inr (1, [.ref q4, .ref q5, .ref q6, .ref q7, .ref q8, .ref q9, .ref q10, .ref q11, .ref q12, .ref q13, .ref q14, .int 2])), (q8, .inl (gK X 0, 3016, .inl (upd (fun _ => 0) (1 : Int32).toNatClampNeg 0))), (q30, .inr (9, [.ref q41, .ref q42, .int 3, .ref q43, .ref q44, .ref q45, .ref q46, .ref q47, .ref q48, .ref q49, .int 0, .ref q50, .ref q51, .ref q52, .int 0, .ref q53, .ref q54, .ref q55, .int 0])), (q31, .inr (10, [.ref q56, .ref q57, .ref q58, .ref q59, .ref q60, .ref q61, .ref q62, .int 0, .ref q63, .ref q64, .ref q65, .ref q66, .ref q67, .ref q68, .ref q69, .ref q70, .ref q71, .int 0, .int (-1)]))]) (z := 8) C kX0 dX0_check_5 0 rfl 1 (by decide) w_189 rfl rfl rfl rfl (Nat.le_of_ble_eq_true rfl) rfl rfl ?_
  refine g_aload_n (z := 9) C dX0_check_8 0 rfl rfl rfl ?_
  refine g_aload_n (z := 10) C dX0_check_9 1 rfl rfl rfl ?_
  refine g_getN (z := 13) C kX5 dX0_check_10 1 rfl 1 (by decide) nw_40 rfl rfl rfl ?_
  refine g_put (w2 := [(q25, .inr (3, [.ref q3, .ref q30, .ref q31, .null, .null, .int 0, .int 0, .int 0, .int 0, .int 0, .int 0])), (q29, .inr (8, [.ref q30, .ref q31, .ref q32, .ref q33, .ref q34, .ref q35, .ref q36, .ref q37, .ref q38, .ref q39, .int 0, .int 0, .int 0, .ref q40, .int 0])), (q3, .inr (1, [.ref q4, .ref q5, .ref q6, .ref q7, .ref q8, .ref q9, .ref q10, .ref q11, .ref q12, .ref q13, .ref q14, .int 2])), (q8, .inl (gK X 0, 3016, .inl (upd (fun _ => 0) (1 : Int32).toNatClampNeg 0))), (q30, .inr (9, [.ref q41, .ref q42, .int 3, .ref q43, .ref q44, .ref q45, .ref q46, .ref q47, .ref q48, .ref q49, .int 0, .ref q50, .ref q51, .ref q52, .int 0, .ref q53, .ref q54, .ref q55, .int 0])), (q31, .inr (10, [.ref q56, .ref q57, .ref q58, .ref q59, .ref q60, .ref q61, .ref q62, .int 0, .ref q63, .ref q64, .ref q65, .ref q66, .ref q67, .ref q68, .ref q69, .ref q70, .ref q71, .int 0, .int (-1)]))]) (z := 16) C kX0 dX0_check_13 0 rfl 2 (by decide) w_190 rfl rfl rfl rfl (Nat.le_of_ble_eq_true rfl) rfl rfl ?_
  refine g_aload_n (z := 17) C dX0_check_16 0 rfl rfl rfl ?_
  refine g_aload_n (z := 18) C dX0_check_17 1 rfl rfl rfl ?_
  refine g_getN (z := 21) C kX5 dX0_check_18 1 rfl 2 (by decide) nw_41 rfl rfl rfl ?_
  refine g_put (w2 := [(q25, .inr (3, [.ref q3, .ref q30, .ref q31, .ref q32, .null, .int 0, .int 0, .int 0, .int 0, .int 0, .int 0])), (q29, .inr (8, [.ref q30, .ref q31, .ref q32, .ref q33, .ref q34, .ref q35, .ref q36, .ref q37, .ref q38, .ref q39, .int 0, .int 0, .int 0, .ref q40, .int 0])), (q3, .inr (1, [.ref q4, .ref q5, .ref q6, .ref q7, .ref q8, .ref q9, .ref q10, .ref q11, .ref q12, .ref q13, .ref q14, .int 2])), (q8, .inl (gK X 0, 3016, .inl (upd (fun _ => 0) (1 : Int32).toNatClampNeg 0))), (q30, .inr (9, [.ref q41, .ref q42, .int 3, .ref q43, .ref q44, .ref q45, .ref q46, .ref q47, .ref q48, .ref q49, .int 0, .ref q50, .ref q51, .ref q52, .int 0, .ref q53, .ref q54, .ref q55, .int 0])), (q31, .inr (10, [.ref q56, .ref q57, .ref q58, .ref q59, .ref q60, .ref q61, .ref q62, .int 0, .ref q63, .ref q64, .ref q65, .ref q66, .ref q67, .ref q68, .ref q69, .ref q70, .ref q71, .int 0, .int (-1)]))]) (z := 24) C kX0 dX0_check_21 0 rfl 3 (by decide) w_191 rfl rfl rfl rfl (Nat.le_of_ble_eq_true rfl) rfl rfl ?_
  refine g_aload_n (z := 25) C dX0_check_24 0 rfl rfl rfl ?_
  refine g_aload_n (z := 26) C dX0_check_25 1 rfl rfl rfl ?_
  refine g_getN (z := 29) C kX5 dX0_check_26 1 rfl 3 (by decide) nw_42 rfl rfl rfl ?_
  refine g_put (w2 := [(q25, .inr (3, [.ref q3, .ref q30, .ref q31, .ref q32, .ref q33, .int 0, .int 0, .int 0, .int 0, .int 0, .int 0])), (q29, .inr (8, [.ref q30, .ref q31, .ref q32, .ref q33, .ref q34, .ref q35, .ref q36, .ref q37, .ref q38, .ref q39, .int 0, .int 0, .int 0, .ref q40, .int 0])), (q3, .inr (1, [.ref q4, .ref q5, .ref q6, .ref q7, .ref q8, .ref q9, .ref q10, .ref q11, .ref q12, .ref q13, .ref q14, .int 2])), (q8, .inl (gK X 0, 3016, .inl (upd (fun _ => 0) (1 : Int32).toNatClampNeg 0))), (q30, .inr (9, [.ref q41, .ref q42, .int 3, .ref q43, .ref q44, .ref q45, .ref q46, .ref q47, .ref q48, .ref q49, .int 0, .ref q50, .ref q51, .ref q52, .int 0, .ref q53, .ref q54, .ref q55, .int 0])), (q31, .inr (10, [.ref q56, .ref q57, .ref q58, .ref q59, .ref q60, .ref q61, .ref q62, .int 0, .ref q63, .ref q64, .ref q65, .ref q66, .ref q67, .ref q68, .ref q69, .ref q70, .ref q71, .int 0, .int (-1)]))]) (z := 32) C kX0 dX0_check_29 0 rfl 4 (by decide) w_192 rfl rfl rfl rfl (Nat.le_of_ble_eq_true rfl) rfl rfl ?_
  refine g_aload_n (z := 33) C dX0_check_32 0 rfl rfl rfl ?_
  refine g_ldc (v := 1073741824) (z := 35) C dX0_check_33 w_193 rfl ?_
  refine g_put (w2 := [(q25, .inr (3, [.ref q3, .ref q30, .ref q31, .ref q32, .ref q33, .int 1073741824, .int 0, .int 0, .int 0, .int 0, .int 0])), (q29, .inr (8, [.ref q30, .ref q31, .ref q32, .ref q33, .ref q34, .ref q35, .ref q36, .ref q37, .ref q38, .ref q39, .int 0, .int 0, .int 0, .ref q40, .int 0])), (q3, .inr (1, [.ref q4, .ref q5, .ref q6, .ref q7, .ref q8, .ref q9, .ref q10, .ref q11, .ref q12, .ref q13, .ref q14, .int 2])), (q8, .inl (gK X 0, 3016, .inl (upd (fun _ => 0) (1 : Int32).toNatClampNeg 0))), (q30, .inr (9, [.ref q41, .ref q42, .int 3, .ref q43, .ref q44, .ref q45, .ref q46, .ref q47, .ref q48, .ref q49, .int 0, .ref q50, .ref q51, .ref q52, .int 0, .ref q53, .ref q54, .ref q55, .int 0])), (q31, .inr (10, [.ref q56, .ref q57, .ref q58, .ref q59, .ref q60, .ref q61, .ref q62, .int 0, .ref q63, .ref q64, .ref q65, .ref q66, .ref q67, .ref q68, .ref q69, .ref q70, .ref q71, .int 0, .int (-1)]))]) (z := 38) C kX0 dX0_check_35 0 rfl 5 (by decide) w_194 rfl rfl rfl rfl (Nat.le_of_ble_eq_true rfl) rfl rfl ?_
  refine g_aload_n (z := 39) C dX0_check_38 0 rfl rfl rfl ?_
  refine g_get (z := 42) C kX0 dX0_check_39 0 rfl 0 (by decide) w_185 rfl rfl rfl ?_
  refine g_getN (z := 45) C kX8 dX0_check_42 2 rfl 4 (by decide) nw_43 rfl rfl rfl ?_
  refine g_iconst (v := 1) (z := 46) C dX0_check_45 (by decide) rfl ?_
  refine g_iald (v := 0) (z := 47) C dX0_check_46 3 rfl (by unfold vp_in; decide) pk_us rfl ?_
  refine g_istore_n (l2 := [(3, .int 0), (0, .ref q25), (1, .ref q29), (2, .int 0)]) (z := 48) C dX0_check_47 rfl (by decide) rfl rfl ?_
  refine g_aload_n (z := 49) C dX0_check_48 1 rfl rfl rfl ?_
  refine g_iload_n (z := 50) C dX0_check_49 0 rfl rfl rfl ?_
  refine g_callV (n := 1) (As := [.int 0]) (rest := []) (wr := [(q25, .inr (3, [.ref q3, .ref q30, .ref q31, .ref q32, .ref q33, .int 1073741824, .int 0, .int 0, .int 0, .int 0, .int 0])), (q29, .inr (8, [.ref q30, .ref q31, .ref q32, .ref q33, .ref q34, .ref q35, .ref q36, .ref q37, .ref q38, .ref q39, .int 0, .int 0, .int 0, .ref q40, .int 0])), (q3, .inr (1, [.ref q4, .ref q5, .ref q6, .ref q7, .ref q8, .ref q9, .ref q10, .ref q11, .ref q12, .ref q13, .ref q14, .int 2])), (q8, .inl (gK X 0, 3016, .inl (upd (fun _ => 0) (1 : Int32).toNatClampNeg 0))), (q30, .inr (9, [.ref q41, .ref q42, .int 3, .ref q43, .ref q44, .ref q45, .ref q46, .ref q47, .ref q48, .ref q49, .int 0, .ref q50, .ref q51, .ref q52, .int 0, .ref q53, .ref q54, .ref q55, .int 0])), (q31, .inr (10, [.ref q56, .ref q57, .ref q58, .ref q59, .ref q60, .ref q61, .ref q62, .int 0, .ref q63, .ref q64, .ref q65, .ref q66, .ref q67, .ref q68, .ref q69, .ref q70, .ref q71, .int 0, .int (-1)]))]) (a2 := 0) (b2 := 0) (z := 53) C hR (k_declareAll (gl X) (gD X) (gK X) q25) dX0_check_50 w_195 w_199 w_200 w_198 w_20 ⟨by decide +kernel, by decide +kernel, by decide +kernel⟩ [] [0, 1, 2, 3, 4, 5] rfl rfl rfl rfl rfl (by decide) ⟨(Nat.le_of_ble_eq_true rfl), (Nat.le_of_ble_eq_true rfl)⟩ rfl rfl (Nat.le_of_ble_eq_true rfl) (Nat.le_of_ble_eq_true rfl) (Nat.le_of_ble_eq_true rfl) rfl rfl 0 kX0 rfl rfl rfl rfl (fun v ws' hp => ?_)
  obtain ⟨rfl, rfl⟩ := hp
  refine g_ws (w2 := [(q25, .inr (3, [.ref q3, .ref q30, .ref q31, .ref q32, .ref q33, .int 1073741824, .int 0, .int 0, .int 0, .int 0, .int 0])), (q29, .inr (8, [.ref q30, .ref q31, .ref q32, .ref q33, .ref q34, .ref q35, .ref q36, .ref q37, .ref q38, .ref q39, .int 0, .int 0, .int 0, .ref q40, .int 0])), (q3, .inr (1, [.ref q4, .ref q5, .ref q6, .ref q7, .ref q8, .ref q9, .ref q10, .ref q11, .ref q12, .ref q13, .ref q14, .int 2])), (q8, .inl (gK X 0, 3016, .inl (upd (fun _ => 0) (1 : Int32).toNatClampNeg 0))), (q30, .inr (9, [.ref q41, .ref q42, .int 3, .ref q43, .ref q44, .ref q45, .ref q46, .ref q47, .ref q48, .ref q49, .int 0, .ref q50, .ref q51, .ref q52, .int 0, .ref q53, .ref q54, .ref q55, .int 0])), (q31, .inr (10, [.ref q56, .ref q57, .ref q58, .ref q59, .ref q60, .ref q61, .ref q62, .int 0, .ref q63, .ref q64, .ref q65, .ref q66, .ref q67, .ref q68, .ref q69, .ref q70, .ref q71, .int 0, .int (-1)]))]) rfl ?_
  refine g_st (s2 := []) rfl ?_
  refine g_iconst (v := 0) (z := 54) C dX0_check_53 (by decide) rfl ?_
  refine g_istore (l2 := [(4, .int 0), (3, .int 0), (0, .ref q25), (1, .ref q29), (2, .int 0)]) (z := 56) C dX0_check_54 (by decide) rfl rfl ?_
  refine g_iload_n (z := 57) C dX0_check_56 1 rfl rfl rfl ?_
  refine g_istore (l2 := [(5, .int 0), (4, .int 0), (3, .int 0), (0, .ref q25), (1, .ref q29), (2, .int 0)]) (z := 59) C dX0_check_57 (by decide) rfl rfl ?_
  refine g_iload (z := 61) C dX0_check_59 0 rfl rfl ?_
  refine g_if_eq_t (z := 106) C dX0_check_61 (by decide) (by decide) ?_
  refine g_aload_n (z := 107) C dX0_check_106 3 rfl rfl rfl ?_
  refine g_get (z := 110) C kX0 dX0_check_107 0 rfl 1 (by decide) w_189 rfl rfl rfl ?_
  refine g_callVN (n := 0) (As := []) (rest := []) (wr := [(q25, .inr (3, [.ref q3, .ref q30, .ref q31, .ref q32, .ref q33, .int 1073741824, .int 0, .int 0, .int 0, .int 0, .int 0])), (q29, .inr (8, [.ref q30, .ref q31, .ref q32, .ref q33, .ref q34, .ref q35, .ref q36, .ref q37, .ref q38, .ref q39, .int 0, .int 0, .int 0, .ref q40, .int 0])), (q3, .inr (1, [.ref q4, .ref q5, .ref q6, .ref q7, .ref q8, .ref q9, .ref q10, .ref q11, .ref q12, .ref q13, .ref q14, .int 2])), (q8, .inl (gK X 0, 3016, .inl (upd (fun _ => 0) (1 : Int32).toNatClampNeg 0))), (q31, .inr (10, [.ref q56, .ref q57, .ref q58, .ref q59, .ref q60, .ref q61, .ref q62, .int 0, .ref q63, .ref q64, .ref q65, .ref q66, .ref q67, .ref q68, .ref q69, .ref q70, .ref q71, .int 0, .int (-1)]))]) (a2 := 0) (b2 := 0) (z := 113) C hR (k_X9_measure (gl X) (gD X) (gK X) q30 q41 q42 q43 q44 q45 q46 q47 q48 q49 q50 q51 q52 q53 q54 q55) dX0_check_110 nw_46 w_310 w_311 w_309 w_256 ⟨by decide +kernel, by decide +kernel, by decide +kernel⟩ [4] [0, 1, 2, 3, 5] rfl rfl rfl rfl rfl (by decide) ⟨(Nat.le_of_ble_eq_true rfl), (Nat.le_of_ble_eq_true rfl)⟩ rfl rfl (Nat.le_of_ble_eq_true rfl) (Nat.le_of_ble_eq_true rfl) (Nat.le_of_ble_eq_true rfl) rfl rfl 4 kX9 rfl rfl rfl rfl (fun v ws' hp => ?_)
  obtain ⟨rfl, rfl⟩ := hp
  refine g_ws (w2 := [(q25, .inr (3, [.ref q3, .ref q30, .ref q31, .ref q32, .ref q33, .int 1073741824, .int 0, .int 0, .int 0, .int 0, .int 0])), (q29, .inr (8, [.ref q30, .ref q31, .ref q32, .ref q33, .ref q34, .ref q35, .ref q36, .ref q37, .ref q38, .ref q39, .int 0, .int 0, .int 0, .ref q40, .int 0])), (q3, .inr (1, [.ref q4, .ref q5, .ref q6, .ref q7, .ref q8, .ref q9, .ref q10, .ref q11, .ref q12, .ref q13, .ref q14, .int 2])), (q8, .inl (gK X 0, 3016, .inl (upd (fun _ => 0) (1 : Int32).toNatClampNeg 0))), (q31, .inr (10, [.ref q56, .ref q57, .ref q58, .ref q59, .ref q60, .ref q61, .ref q62, .int 0, .ref q63, .ref q64, .ref q65, .ref q66, .ref q67, .ref q68, .ref q69, .ref q70, .ref q71, .int 0, .int (-1)])), (q30, .inr (9, [.ref q41, .ref q42, .int 3, .ref q43, .ref q44, .ref q45, .ref q46, .ref q47, .ref q48, .ref q49, .int 0, .ref q50, .ref q51, .ref q52, .int 0, .ref q53, .ref q54, .ref q55, .int 0]))]) rfl ?_
  refine g_st (s2 := []) rfl ?_
  refine g_aload_n (z := 114) C dX0_check_113 3 rfl rfl rfl ?_
  refine g_iload_n (z := 115) C dX0_check_114 2 rfl rfl rfl ?_
  refine g_callV (n := 1) (As := [.int 0]) (rest := []) (wr := [(q25, .inr (3, [.ref q3, .ref q30, .ref q31, .ref q32, .ref q33, .int 1073741824, .int 0, .int 0, .int 0, .int 0, .int 0])), (q29, .inr (8, [.ref q30, .ref q31, .ref q32, .ref q33, .ref q34, .ref q35, .ref q36, .ref q37, .ref q38, .ref q39, .int 0, .int 0, .int 0, .ref q40, .int 0])), (q3, .inr (1, [.ref q4, .ref q5, .ref q6, .ref q7, .ref q8, .ref q9, .ref q10, .ref q11, .ref q12, .ref q13, .ref q14, .int 2])), (q8, .inl (gK X 0, 3016, .inl (upd (fun _ => 0) (1 : Int32).toNatClampNeg 0))), (q31, .inr (10, [.ref q56, .ref q57, .ref q58, .ref q59, .ref q60, .ref q61, .ref q62, .int 0, .ref q63, .ref q64, .ref q65, .ref q66, .ref q67, .ref q68, .ref q69, .ref q70, .ref q71, .int 0, .int (-1)])), (q30, .inr (9, [.ref q41, .ref q42, .int 3, .ref q43, .ref q44, .ref q45, .ref q46, .ref q47, .ref q48, .ref q49, .int 0, .ref q50, .ref q51, .ref q52, .int 0, .ref q53, .ref q54, .ref q55, .int 0]))]) (a2 := 0) (b2 := 0) (z := 118) C hR (k_measures (gl X) (gD X) (gK X) q25) dX0_check_115 w_196 w_202 w_203 w_201 w_20 ⟨by decide +kernel, by decide +kernel, by decide +kernel⟩ [] [0, 1, 2, 3, 4, 5] rfl rfl rfl rfl rfl (by decide) ⟨(Nat.le_of_ble_eq_true rfl), (Nat.le_of_ble_eq_true rfl)⟩ rfl rfl (Nat.le_of_ble_eq_true rfl) (Nat.le_of_ble_eq_true rfl) (Nat.le_of_ble_eq_true rfl) rfl rfl 0 kX0 rfl rfl rfl rfl (fun v ws' hp => ?_)
  obtain ⟨rfl, rfl⟩ := hp
  refine g_ws (w2 := [(q25, .inr (3, [.ref q3, .ref q30, .ref q31, .ref q32, .ref q33, .int 1073741824, .int 0, .int 0, .int 0, .int 0, .int 0])), (q29, .inr (8, [.ref q30, .ref q31, .ref q32, .ref q33, .ref q34, .ref q35, .ref q36, .ref q37, .ref q38, .ref q39, .int 0, .int 0, .int 0, .ref q40, .int 0])), (q3, .inr (1, [.ref q4, .ref q5, .ref q6, .ref q7, .ref q8, .ref q9, .ref q10, .ref q11, .ref q12, .ref q13, .ref q14, .int 2])), (q8, .inl (gK X 0, 3016, .inl (upd (fun _ => 0) (1 : Int32).toNatClampNeg 0))), (q31, .inr (10, [.ref q56, .ref q57, .ref q58, .ref q59, .ref q60, .ref q61, .ref q62, .int 0, .ref q63, .ref q64, .ref q65, .ref q66, .ref q67, .ref q68, .ref q69, .ref q70, .ref q71, .int 0, .int (-1)])), (q30, .inr (9, [.ref q41, .ref q42, .int 3, .ref q43, .ref q44, .ref q45, .ref q46, .ref q47, .ref q48, .ref q49, .int 0, .ref q50, .ref q51, .ref q52, .int 0, .ref q53, .ref q54, .ref q55, .int 0]))]) rfl ?_
  refine g_st (s2 := []) rfl ?_
  refine g_iconst (v := 0) (z := 119) C dX0_check_118 (by decide) rfl ?_
  refine g_istore (l2 := [(5, .int 0), (4, .int 0), (3, .int 0), (0, .ref q25), (1, .ref q29), (2, .int 0)]) (z := 121) C dX0_check_119 (by decide) rfl rfl ?_
  refine g_iload (z := 123) C dX0_check_121 0 rfl rfl ?_
  refine g_aload_n (z := 124) C dX0_check_123 3 rfl rfl rfl ?_
  refine g_get (z := 127) C kX0 dX0_check_124 0 rfl 2 (by decide) w_190 rfl rfl rfl ?_
  refine g_getN (z := 130) C kX2 dX0_check_127 4 rfl 17 (by decide) nw_47 rfl rfl rfl ?_
  refine g_icmp_ge_t (z := 145) C dX0_check_130 (by decide) (by decide) ?_
  refine g_iconst (v := 0) (z := 146) C dX0_check_145 (by decide) rfl ?_
  refine g_istore (l2 := [(5, .int 0), (4, .int 0), (3, .int 0), (0, .ref q25), (1, .ref q29), (2, .int 0)]) (z := 148) C dX0_check_146 (by decide) rfl rfl ?_
  refine g_iload (z := 150) C dX0_check_148 0 rfl rfl ?_
  refine g_aload_n (z := 151) C dX0_check_150 3 rfl rfl rfl ?_
  refine g_get (z := 154) C kX0 dX0_check_151 0 rfl 2 (by decide) w_190 rfl rfl rfl ?_
  refine g_getN (z := 157) C kX2 dX0_check_154 4 rfl 17 (by decide) nw_47 rfl rfl rfl ?_
  refine g_icmp_ge_t (z := 172) C dX0_check_157 (by decide) (by decide) ?_
  refine g_aload_n (z := 173) C dX0_check_172 3 rfl rfl rfl ?_
  refine g_iload_n (z := 174) C dX0_check_173 5 rfl rfl rfl ?_
  refine g_callV (n := 1) (As := [.int 0]) (rest := []) (wr := [(q29, .inr (8, [.ref q30, .ref q31, .ref q32, .ref q33, .ref q34, .ref q35, .ref q36, .ref q37, .ref q38, .ref q39, .int 0, .int 0, .int 0, .ref q40, .int 0])), (q3, .inr (1, [.ref q4, .ref q5, .ref q6, .ref q7, .ref q8, .ref q9, .ref q10, .ref q11, .ref q12, .ref q13, .ref q14, .int 2])), (q8, .inl (gK X 0, 3016, .inl (upd (fun _ => 0) (1 : Int32).toNatClampNeg 0))), (q30, .inr (9, [.ref q41, .ref q42, .int 3, .ref q43, .ref q44, .ref q45, .ref q46, .ref q47, .ref q48, .ref q49, .int 0, .ref q50, .ref q51, .ref q52, .int 0, .ref q53, .ref q54, .ref q55, .int 0]))]) (a2 := 0) (b2 := 0) (z := 177) C hR (k_mainFunction (gl X) (gD X) (gK X) q25 q3 q30 q31 q32 q33 q56 q57 q58 q59 q60 q61 q62 q63 q64 q65 q66 q67 q68 q69 q70 q71) dX0_check_174 w_197 w_206 w_207 w_205 w_20 ⟨by decide +kernel, by decide +kernel, by decide +kernel⟩ [0, 4] [1, 2, 3, 5] rfl rfl rfl rfl rfl (by decide) ⟨(Nat.le_of_ble_eq_true rfl), (Nat.le_of_ble_eq_true rfl)⟩ rfl rfl (Nat.le_of_ble_eq_true rfl) (Nat.le_of_ble_eq_true rfl) (Nat.le_of_ble_eq_true rfl) rfl rfl 0 kX0 rfl rfl rfl rfl (fun v ws' hp => ?_)
  obtain ⟨rfl, rfl⟩ := hp
  refine g_ws (w2 := [(q29, .inr (8, [.ref q30, .ref q31, .ref q32, .ref q33, .ref q34, .ref q35, .ref q36, .ref q37, .ref q38, .ref q39, .int 0, .int 0, .int 0, .ref q40, .int 0])), (q3, .inr (1, [.ref q4, .ref q5, .ref q6, .ref q7, .ref q8, .ref q9, .ref q10, .ref q11, .ref q12, .ref q13, .ref q14, .int 2])), (q8, .inl (gK X 0, 3016, .inl (upd (fun _ => 0) (1 : Int32).toNatClampNeg 0))), (q30, .inr (9, [.ref q41, .ref q42, .int 3, .ref q43, .ref q44, .ref q45, .ref q46, .ref q47, .ref q48, .ref q49, .int 0, .ref q50, .ref q51, .ref q52, .int 0, .ref q53, .ref q54, .ref q55, .int 0])), (q25, .inr (3, [.ref q3, .ref q30, .ref q31, .ref q32, .ref q33, .int 0, .int 0, .int 0, .int 0, .int 0, .int 0])), (q31, .inr (10, [.ref q56, .ref q57, .ref q58, .ref q59, .ref q60, .ref q61, .ref q62, .int 0, .ref q63, .ref q64, .ref q65, .ref q66, .ref q67, .ref q68, .ref q69, .ref q70, .ref q71, .int 0, .int (-1)]))]) rfl ?_
  refine g_st (s2 := []) rfl ?_
  refine g_aload_n (z := 178) C dX0_check_177 3 rfl rfl rfl ?_
  refine g_get (z := 181) C kX0 dX0_check_178 4 rfl 5 (by decide) w_194 rfl rfl rfl ?_
  refine g_ldc (v := 1073741824) (z := 183) C dX0_check_181 w_193 rfl ?_
  refine g_icmp_ne_t (z := 190) C dX0_check_183 (by decide) (by decide) ?_
  refine g_aload_n (z := 191) C dX0_check_190 3 rfl rfl rfl ?_
  refine g_get (z := 194) C kX0 dX0_check_191 4 rfl 5 (by decide) w_194 rfl rfl rfl ?_
  refine g_sub (w2 := [(q25, .inr (3, [.ref q3, .ref q30, .ref q31, .ref q32, .ref q33, .int 0, .int 0, .int 0, .int 0, .int 0, .int 0])), (q29, .inr (8, [.ref q30, .ref q31, .ref q32, .ref q33, .ref q34, .ref q35, .ref q36, .ref q37, .ref q38, .ref q39, .int 0, .int 0, .int 0, .ref q40, .int 0])), (q3, .inr (1, [.ref q4, .ref q5, .ref q6, .ref q7, .ref q8, .ref q9, .ref q10, .ref q11, .ref q12, .ref q13, .ref q14, .int 2])), (q8, .inl (gK X 0, 3016, .inl (upd (fun _ => 0) (1 : Int32).toNatClampNeg 0))), (q30, .inr (9, [.ref q41, .ref q42, .int 3, .ref q43, .ref q44, .ref q45, .ref q46, .ref q47, .ref q48, .ref q49, .int 0, .ref q50, .ref q51, .ref q52, .int 0, .ref q53, .ref q54, .ref q55, .int 0])), (q31, .inr (10, [.ref q56, .ref q57, .ref q58, .ref q59, .ref q60, .ref q61, .ref q62, .int 0, .ref q63, .ref q64, .ref q65, .ref q66, .ref q67, .ref q68, .ref q69, .ref q70, .ref q71, .int 0, .int (-1)]))]) [4, 0, 1, 2, 3, 5] rfl rfl rfl ?_
  exact g_iret C hQ dX0_check_194 rfl (Nat.le_of_ble_eq_true rfl) (Nat.le_of_ble_eq_true rfl) ⟨rfl, rfl⟩
set_option maxHeartbeats 4000000 in
set_option maxRecDepth 100000 in
/-- judgeTree(0): FAULT 2 -/
theorem k_judgeTree (l : Launch) (D : va_G) (K : KS) (h0 q1 q2 q3 q15 q25 q26 q27 q28 q29 q30 q31 q32 q33 q34 q35 q36 q37 q38 q39 q40 q4 q5 q6 q7 q8 q9 q10 q11 q12 q13 q14 q41 q42 q43 q44 q45 q46 q47 q48 q49 q50 q51 q52 q53 q54 q55 q56 q57 q58 q59 q60 q61 q62 q63 q64 q65 q66 q67 q68 q69 q70 q71 q72 q73 q74 q75 q76 q77 q78 q79 q80 q81 q82 q83 q84 q85 q86 q87 q88 q89 q90 q91 q92 q93 q94 q95 q96 q97 q98 : Nat) : Con l D K yX12_judgeTree cX12_judgeTree 3 (some .int) 4 83 0 0 [.ref h0, .int 0] [(h0, .inr (0, [.ref q1, .int 0, .ref q2, .int 0, .ref q3, .ref q15, .ref q25, .ref q26, .ref q27, .ref q28, .ref q29, .null, .int 0, .int 0, .int (-1), .int (-1), .int (-1)])), (q25, .inr (3, [.ref q3, .null, .null, .null, .null, .int 0, .int 0, .int 0, .int 0, .int 0, .int 0])), (q29, .inr (8, [.ref q30, .ref q31, .ref q32, .ref q33, .ref q34, .ref q35, .ref q36, .ref q37, .ref q38, .ref q39, .int 0, .int 0, .int 0, .ref q40, .int 0])), (q3, .inr (1, [.ref q4, .ref q5, .ref q6, .ref q7, .ref q8, .ref q9, .ref q10, .ref q11, .ref q12, .ref q13, .ref q14, .int 2])), (q8, .inl (K 0, 3016, .inl (upd (fun _ => 0) (1 : Int32).toNatClampNeg 0))), (q30, .inr (9, [.ref q41, .ref q42, .int 0, .ref q43, .ref q44, .ref q45, .ref q46, .ref q47, .ref q48, .ref q49, .int 0, .ref q50, .ref q51, .ref q52, .int 0, .ref q53, .ref q54, .ref q55, .int 0])), (q41, .inl (K 0, 1504, .inl (fun _ => 0))), (q31, .inr (10, [.ref q56, .ref q57, .ref q58, .ref q59, .ref q60, .ref q61, .ref q62, .int 0, .ref q63, .ref q64, .ref q65, .ref q66, .ref q67, .ref q68, .ref q69, .ref q70, .ref q71, .int 0, .int 0])), (q32, .inr (11, [.ref q72, .ref q73, .ref q74, .ref q75, .ref q76, .ref q77, .ref q78, .ref q79, .int 0, .ref q80, .ref q81, .int 0])), (q33, .inr (12, [.ref q82, .ref q83, .ref q84, .ref q85, .ref q86, .ref q87, .ref q88, .ref q89, .ref q90, .ref q91, .ref q92, .ref q93, .int 0, .ref q94, .ref q95, .ref q96, .int 0, .ref q97, .ref q98, .int 0]))] (fun v w => v = some (.int 2) ∧ w = [(h0, .inr (0, [.ref q1, .int 0, .ref q2, .int 0, .ref q3, .ref q15, .ref q25, .ref q26, .ref q27, .ref q28, .ref q29, .null, .int 0, .int 0, .int (-1), .int 0, .int (-1)])), (q25, .inr (3, [.ref q3, .ref q30, .ref q31, .ref q32, .ref q33, .int 0, .int 0, .int 0, .int 0, .int 0, .int 0])), (q29, .inr (8, [.ref q30, .ref q31, .ref q32, .ref q33, .ref q34, .ref q35, .ref q36, .ref q37, .ref q38, .ref q39, .int 0, .int 0, .int 0, .ref q40, .int 0])), (q3, .inr (1, [.ref q4, .ref q5, .ref q6, .ref q7, .ref q8, .ref q9, .ref q10, .ref q11, .ref q12, .ref q13, .ref q14, .int 2])), (q8, .inl (K 0, 3016, .inl (upd (fun _ => 0) (1 : Int32).toNatClampNeg 0))), (q30, .inr (9, [.ref q41, .ref q42, .int 3, .ref q43, .ref q44, .ref q45, .ref q46, .ref q47, .ref q48, .ref q49, .int 0, .ref q50, .ref q51, .ref q52, .int 0, .ref q53, .ref q54, .ref q55, .int 0])), (q41, .inl (K 0, 1504, .inl (upd (upd (upd (fun _ => 0) (0 : Int32).toNatClampNeg 0) (1 : Int32).toNatClampNeg 1) (2 : Int32).toNatClampNeg 2))), (q31, .inr (10, [.ref q56, .ref q57, .ref q58, .ref q59, .ref q60, .ref q61, .ref q62, .int 0, .ref q63, .ref q64, .ref q65, .ref q66, .ref q67, .ref q68, .ref q69, .ref q70, .ref q71, .int 0, .int (-1)])), (q32, .inr (11, [.ref q72, .ref q73, .ref q74, .ref q75, .ref q76, .ref q77, .ref q78, .ref q79, .int 0, .ref q80, .ref q81, .int 0])), (q33, .inr (12, [.ref q82, .ref q83, .ref q84, .ref q85, .ref q86, .ref q87, .ref q88, .ref q89, .ref q90, .ref q91, .ref q92, .ref q93, .int 0, .ref q94, .ref q95, .ref q96, .int 0, .ref q97, .ref q98, .int 0]))]) := by
  refine Con.of (by decide +kernel) (Nat.le_of_ble_eq_true rfl) ?_
  intro X hXl hXD hXK C hR hQ hnm
  subst hXl; subst hXD; subst hXK
  refine g_lv (l2 := [(0, .ref h0), (1, .int 0)]) [0, 1] rfl ?_
  refine g_aload_n (z := 1) C dX12_judgeTree_0 0 rfl rfl rfl ?_
  refine g_get (z := 4) C kX12 dX12_judgeTree_1 0 rfl 12 (by decide) w_56 rfl rfl rfl ?_
  refine g_if_eq_t (z := 25) C dX12_judgeTree_4 (by decide) (by decide) ?_
  refine g_aload_n (z := 26) C dX12_judgeTree_25 0 rfl rfl rfl ?_
  refine g_get (z := 29) C kX12 dX12_judgeTree_26 0 rfl 12 (by decide) w_56 rfl rfl rfl ?_
  refine g_if_eq_t (z := 39) C dX12_judgeTree_29 (by decide) (by decide) ?_
  refine g_aload_n (z := 40) C dX12_judgeTree_39 0 rfl rfl rfl ?_
  refine g_get (z := 43) C kX12 dX12_judgeTree_40 0 rfl 10 (by decide) w_37 rfl rfl rfl ?_
  refine g_astore_n (l2 := [(2, .ref q29), (0, .ref h0), (1, .int 0)]) (z := 44) C dX12_judgeTree_43 rfl (by decide) rfl rfl ?_
  refine g_aload_n (z := 45) C dX12_judgeTree_44 0 rfl rfl rfl ?_
  refine g_callVN (n := 0) (As := []) (rest := []) (wr := [(h0, .inr (0, [.ref q1, .int 0, .ref q2, .int 0, .ref q3, .ref q15, .ref q25, .ref q26, .ref q27, .ref q28, .ref q29, .null, .int 0, .int 0, .int (-1), .int (-1), .int (-1)])), (q25, .inr (3, [.ref q3, .null, .null, .null, .null, .int 0, .int 0, .int 0, .int 0, .int 0, .int 0])), (q3, .inr (1, [.ref q4, .ref q5, .ref q6, .ref q7, .ref q8, .ref q9, .ref q10, .ref q11, .ref q12, .ref q13, .ref q14, .int 2])), (q8, .inl (gK X 0, 3016, .inl (upd (fun _ => 0) (1 : Int32).toNatClampNeg 0)))]) (a2 := 0) (b2 := 0) (z := 48) C hR (k_X5_clear (gl X) (gD X) (gK X) q29 q30 q31 q32 q33 q34 q35 q36 q37 q38 q39 q40 q41 q42 q43 q44 q45 q46 q47 q48 q49 q50 q51 q52 q53 q54 q55 q56 q57 q58 q59 q60 q61 q62 q63 q64 q65 q66 q67 q68 q69 q70 q71 q72 q73 q74 q75 q76 q77 q78 q79 q80 q81 q82 q83 q84 q85 q86 q87 q88 q89 q90 q91 q92 q93 q94 q95 q96 q97 q98) dX12_judgeTree_45 nw_8 w_278 w_279 w_277 w_36 ⟨by decide +kernel, by decide +kernel, by decide +kernel⟩ [2, 5, 6, 7, 8, 9] [0, 1, 3, 4] rfl rfl rfl rfl rfl (by decide) ⟨(Nat.le_of_ble_eq_true rfl), (Nat.le_of_ble_eq_true rfl)⟩ rfl rfl (Nat.le_of_ble_eq_true rfl) (Nat.le_of_ble_eq_true rfl) (Nat.le_of_ble_eq_true rfl) rfl rfl 2 kX5 rfl rfl rfl rfl (fun v ws' hp => ?_)
  obtain ⟨rfl, rfl⟩ := hp
  refine g_ws (w2 := [(h0, .inr (0, [.ref q1, .int 0, .ref q2, .int 0, .ref q3, .ref q15, .ref q25, .ref q26, .ref q27, .ref q28, .ref q29, .null, .int 0, .int 0, .int (-1), .int (-1), .int (-1)])), (q25, .inr (3, [.ref q3, .null, .null, .null, .null, .int 0, .int 0, .int 0, .int 0, .int 0, .int 0])), (q3, .inr (1, [.ref q4, .ref q5, .ref q6, .ref q7, .ref q8, .ref q9, .ref q10, .ref q11, .ref q12, .ref q13, .ref q14, .int 2])), (q8, .inl (gK X 0, 3016, .inl (upd (fun _ => 0) (1 : Int32).toNatClampNeg 0))), (q29, .inr (8, [.ref q30, .ref q31, .ref q32, .ref q33, .ref q34, .ref q35, .ref q36, .ref q37, .ref q38, .ref q39, .int 0, .int 0, .int 0, .ref q40, .int 0])), (q30, .inr (9, [.ref q41, .ref q42, .int 3, .ref q43, .ref q44, .ref q45, .ref q46, .ref q47, .ref q48, .ref q49, .int 0, .ref q50, .ref q51, .ref q52, .int 0, .ref q53, .ref q54, .ref q55, .int 0])), (q41, .inl (gK X 0, 1504, .inl (upd (upd (upd (fun _ => 0) (0 : Int32).toNatClampNeg 0) (1 : Int32).toNatClampNeg 1) (2 : Int32).toNatClampNeg 2))), (q31, .inr (10, [.ref q56, .ref q57, .ref q58, .ref q59, .ref q60, .ref q61, .ref q62, .int 0, .ref q63, .ref q64, .ref q65, .ref q66, .ref q67, .ref q68, .ref q69, .ref q70, .ref q71, .int 0, .int (-1)])), (q32, .inr (11, [.ref q72, .ref q73, .ref q74, .ref q75, .ref q76, .ref q77, .ref q78, .ref q79, .int 0, .ref q80, .ref q81, .int 0])), (q33, .inr (12, [.ref q82, .ref q83, .ref q84, .ref q85, .ref q86, .ref q87, .ref q88, .ref q89, .ref q90, .ref q91, .ref q92, .ref q93, .int 0, .ref q94, .ref q95, .ref q96, .int 0, .ref q97, .ref q98, .int 0]))]) rfl ?_
  refine g_st (s2 := []) rfl ?_
  refine g_aload_n (z := 49) C dX12_judgeTree_48 1 rfl rfl rfl ?_
  refine g_aload_n (z := 50) C dX12_judgeTree_49 1 rfl rfl rfl ?_
  refine g_get (z := 53) C kX12 dX12_judgeTree_50 0 rfl 6 (by decide) w_21 rfl rfl rfl ?_
  refine g_aload_n (z := 54) C dX12_judgeTree_53 0 rfl rfl rfl ?_
  refine g_iload_n (z := 55) C dX12_judgeTree_54 2 rfl rfl rfl ?_
  refine g_callVN (n := 2) (As := [.ref q29, .int 0]) (rest := [.ref h0]) (wr := [(h0, .inr (0, [.ref q1, .int 0, .ref q2, .int 0, .ref q3, .ref q15, .ref q25, .ref q26, .ref q27, .ref q28, .ref q29, .null, .int 0, .int 0, .int (-1), .int (-1), .int (-1)])), (q41, .inl (gK X 0, 1504, .inl (upd (upd (upd (fun _ => 0) (0 : Int32).toNatClampNeg 0) (1 : Int32).toNatClampNeg 1) (2 : Int32).toNatClampNeg 2))), (q32, .inr (11, [.ref q72, .ref q73, .ref q74, .ref q75, .ref q76, .ref q77, .ref q78, .ref q79, .int 0, .ref q80, .ref q81, .int 0])), (q33, .inr (12, [.ref q82, .ref q83, .ref q84, .ref q85, .ref q86, .ref q87, .ref q88, .ref q89, .ref q90, .ref q91, .ref q92, .ref q93, .int 0, .ref q94, .ref q95, .ref q96, .int 0, .ref q97, .ref q98, .int 0]))]) (a2 := 0) (b2 := 0) (z := 58) C hR (k_check (gl X) (gD X) (gK X) q25 q3 q29 q30 q31 q32 q33 q34 q35 q36 q37 q38 q39 q40 q4 q5 q6 q7 q8 q9 q10 q11 q12 q13 q14 q41 q42 q43 q44 q45 q46 q47 q48 q49 q50 q51 q52 q53 q54 q55 q56 q57 q58 q59 q60 q61 q62 q63 q64 q65 q66 q67 q68 q69 q70 q71) dX12_judgeTree_55 nw_9 w_187 w_188 w_186 w_20 ⟨by decide +kernel, by decide +kernel, by decide +kernel⟩ [1, 4, 2, 3, 5, 7] [0, 6, 8, 9] rfl rfl rfl rfl rfl (by decide) ⟨(Nat.le_of_ble_eq_true rfl), (Nat.le_of_ble_eq_true rfl)⟩ rfl rfl (Nat.le_of_ble_eq_true rfl) (Nat.le_of_ble_eq_true rfl) (Nat.le_of_ble_eq_true rfl) rfl rfl 1 kX0 rfl rfl rfl rfl (fun v ws' hp => ?_)
  obtain ⟨rfl, rfl⟩ := hp
  refine g_ws (w2 := [(h0, .inr (0, [.ref q1, .int 0, .ref q2, .int 0, .ref q3, .ref q15, .ref q25, .ref q26, .ref q27, .ref q28, .ref q29, .null, .int 0, .int 0, .int (-1), .int (-1), .int (-1)])), (q41, .inl (gK X 0, 1504, .inl (upd (upd (upd (fun _ => 0) (0 : Int32).toNatClampNeg 0) (1 : Int32).toNatClampNeg 1) (2 : Int32).toNatClampNeg 2))), (q32, .inr (11, [.ref q72, .ref q73, .ref q74, .ref q75, .ref q76, .ref q77, .ref q78, .ref q79, .int 0, .ref q80, .ref q81, .int 0])), (q33, .inr (12, [.ref q82, .ref q83, .ref q84, .ref q85, .ref q86, .ref q87, .ref q88, .ref q89, .ref q90, .ref q91, .ref q92, .ref q93, .int 0, .ref q94, .ref q95, .ref q96, .int 0, .ref q97, .ref q98, .int 0])), (q25, .inr (3, [.ref q3, .ref q30, .ref q31, .ref q32, .ref q33, .int 0, .int 0, .int 0, .int 0, .int 0, .int 0])), (q29, .inr (8, [.ref q30, .ref q31, .ref q32, .ref q33, .ref q34, .ref q35, .ref q36, .ref q37, .ref q38, .ref q39, .int 0, .int 0, .int 0, .ref q40, .int 0])), (q3, .inr (1, [.ref q4, .ref q5, .ref q6, .ref q7, .ref q8, .ref q9, .ref q10, .ref q11, .ref q12, .ref q13, .ref q14, .int 2])), (q8, .inl (gK X 0, 3016, .inl (upd (fun _ => 0) (1 : Int32).toNatClampNeg 0))), (q30, .inr (9, [.ref q41, .ref q42, .int 3, .ref q43, .ref q44, .ref q45, .ref q46, .ref q47, .ref q48, .ref q49, .int 0, .ref q50, .ref q51, .ref q52, .int 0, .ref q53, .ref q54, .ref q55, .int 0])), (q31, .inr (10, [.ref q56, .ref q57, .ref q58, .ref q59, .ref q60, .ref q61, .ref q62, .int 0, .ref q63, .ref q64, .ref q65, .ref q66, .ref q67, .ref q68, .ref q69, .ref q70, .ref q71, .int 0, .int (-1)]))]) rfl ?_
  refine g_st (s2 := [.int 0, .ref h0]) rfl ?_
  refine g_put (w2 := [(h0, .inr (0, [.ref q1, .int 0, .ref q2, .int 0, .ref q3, .ref q15, .ref q25, .ref q26, .ref q27, .ref q28, .ref q29, .null, .int 0, .int 0, .int (-1), .int 0, .int (-1)])), (q41, .inl (gK X 0, 1504, .inl (upd (upd (upd (fun _ => 0) (0 : Int32).toNatClampNeg 0) (1 : Int32).toNatClampNeg 1) (2 : Int32).toNatClampNeg 2))), (q32, .inr (11, [.ref q72, .ref q73, .ref q74, .ref q75, .ref q76, .ref q77, .ref q78, .ref q79, .int 0, .ref q80, .ref q81, .int 0])), (q33, .inr (12, [.ref q82, .ref q83, .ref q84, .ref q85, .ref q86, .ref q87, .ref q88, .ref q89, .ref q90, .ref q91, .ref q92, .ref q93, .int 0, .ref q94, .ref q95, .ref q96, .int 0, .ref q97, .ref q98, .int 0])), (q25, .inr (3, [.ref q3, .ref q30, .ref q31, .ref q32, .ref q33, .int 0, .int 0, .int 0, .int 0, .int 0, .int 0])), (q29, .inr (8, [.ref q30, .ref q31, .ref q32, .ref q33, .ref q34, .ref q35, .ref q36, .ref q37, .ref q38, .ref q39, .int 0, .int 0, .int 0, .ref q40, .int 0])), (q3, .inr (1, [.ref q4, .ref q5, .ref q6, .ref q7, .ref q8, .ref q9, .ref q10, .ref q11, .ref q12, .ref q13, .ref q14, .int 2])), (q8, .inl (gK X 0, 3016, .inl (upd (fun _ => 0) (1 : Int32).toNatClampNeg 0))), (q30, .inr (9, [.ref q41, .ref q42, .int 3, .ref q43, .ref q44, .ref q45, .ref q46, .ref q47, .ref q48, .ref q49, .int 0, .ref q50, .ref q51, .ref q52, .int 0, .ref q53, .ref q54, .ref q55, .int 0])), (q31, .inr (10, [.ref q56, .ref q57, .ref q58, .ref q59, .ref q60, .ref q61, .ref q62, .int 0, .ref q63, .ref q64, .ref q65, .ref q66, .ref q67, .ref q68, .ref q69, .ref q70, .ref q71, .int 0, .int (-1)]))]) (z := 61) C kX12 dX12_judgeTree_58 0 rfl 15 (by decide) w_39 rfl rfl rfl rfl (Nat.le_of_ble_eq_true rfl) rfl rfl ?_
  refine g_aload_n (z := 62) C dX12_judgeTree_61 1 rfl rfl rfl ?_
  refine g_get (z := 65) C kX12 dX12_judgeTree_62 0 rfl 15 (by decide) w_39 rfl rfl rfl ?_
  refine g_if_lt_f (z := 68) 70 C dX12_judgeTree_65 (by decide) (by decide) rfl ?_
  refine g_iconst (v := 2) (z := 69) C dX12_judgeTree_68 (by decide) rfl ?_
  refine g_sub (w2 := [(h0, .inr (0, [.ref q1, .int 0, .ref q2, .int 0, .ref q3, .ref q15, .ref q25, .ref q26, .ref q27, .ref q28, .ref q29, .null, .int 0, .int 0, .int (-1), .int 0, .int (-1)])), (q25, .inr (3, [.ref q3, .ref q30, .ref q31, .ref q32, .ref q33, .int 0, .int 0, .int 0, .int 0, .int 0, .int 0])), (q29, .inr (8, [.ref q30, .ref q31, .ref q32, .ref q33, .ref q34, .ref q35, .ref q36, .ref q37, .ref q38, .ref q39, .int 0, .int 0, .int 0, .ref q40, .int 0])), (q3, .inr (1, [.ref q4, .ref q5, .ref q6, .ref q7, .ref q8, .ref q9, .ref q10, .ref q11, .ref q12, .ref q13, .ref q14, .int 2])), (q8, .inl (gK X 0, 3016, .inl (upd (fun _ => 0) (1 : Int32).toNatClampNeg 0))), (q30, .inr (9, [.ref q41, .ref q42, .int 3, .ref q43, .ref q44, .ref q45, .ref q46, .ref q47, .ref q48, .ref q49, .int 0, .ref q50, .ref q51, .ref q52, .int 0, .ref q53, .ref q54, .ref q55, .int 0])), (q41, .inl (gK X 0, 1504, .inl (upd (upd (upd (fun _ => 0) (0 : Int32).toNatClampNeg 0) (1 : Int32).toNatClampNeg 1) (2 : Int32).toNatClampNeg 2))), (q31, .inr (10, [.ref q56, .ref q57, .ref q58, .ref q59, .ref q60, .ref q61, .ref q62, .int 0, .ref q63, .ref q64, .ref q65, .ref q66, .ref q67, .ref q68, .ref q69, .ref q70, .ref q71, .int 0, .int (-1)])), (q32, .inr (11, [.ref q72, .ref q73, .ref q74, .ref q75, .ref q76, .ref q77, .ref q78, .ref q79, .int 0, .ref q80, .ref q81, .int 0])), (q33, .inr (12, [.ref q82, .ref q83, .ref q84, .ref q85, .ref q86, .ref q87, .ref q88, .ref q89, .ref q90, .ref q91, .ref q92, .ref q93, .int 0, .ref q94, .ref q95, .ref q96, .int 0, .ref q97, .ref q98, .int 0]))]) [0, 4, 5, 6, 7, 8, 1, 9, 2, 3] rfl rfl rfl ?_
  exact g_iret C hQ dX12_judgeTree_69 rfl (Nat.le_of_ble_eq_true rfl) (Nat.le_of_ble_eq_true rfl) ⟨rfl, rfl⟩
def aJ (n : Int32) : Int32 := if n = 0 then 2 else -1
theorem aJ_neg {n : Int32} (h : n < 0) : aJ n = -1 := if_neg (fun e => by rw [e] at h; exact absurd h (by decide))
theorem aJ_pos {n : Int32} (h : ¬ n ≤ 0) : aJ n = -1 := if_neg (fun e => h (by rw [e]; decide))
theorem aJ_zero {n : Int32} (h0 : ¬ n < 0) (h1 : n ≤ 0) : n = 0 := by
  rw [Int32.lt_iff_toInt_lt, Int32.toInt_zero] at h0
  rw [Int32.le_iff_toInt_le, Int32.toInt_zero] at h1
  exact Int32.toInt_inj.mp (by rw [Int32.toInt_zero]; omega)
set_option maxHeartbeats 4000000 in
set_option maxRecDepth 100000 in
/-- judge(n) of a fresh house -/
theorem k_judge (l : Launch) (D : va_G) (K : KS) (f24 : Nat → Int32) (h0 q1 q2 q3 q15 q25 q26 q27 q28 q29 q4 q5 q6 q7 q8 q9 q10 q11 q12 q13 q14 q16 q17 q18 q19 q20 q21 q22 q23 q30 q31 q32 q33 q34 q35 q36 q37 q38 q39 q40 q41 q42 q43 q44 q45 q46 q47 q48 q49 q50 q51 q52 q53 q54 q55 q56 q57 q58 q59 q60 q61 q62 q63 q64 q65 q66 q67 q68 q69 q70 q71 q72 q73 q74 q75 q76 q77 q78 q79 q80 q81 q82 q83 q84 q85 q86 q87 q88 q89 q90 q91 q92 q93 q94 q95 q96 q97 q98 : Nat) (n : Int32) : Con l D K yX12_judge cX12_judge 2 (some .int) 6 134 0 0 [.ref h0, .int n] [(h0, .inr (0, [.ref q1, .int 0, .ref q2, .int 0, .ref q3, .ref q15, .ref q25, .ref q26, .ref q27, .ref q28, .ref q29, .null, .int 0, .int 0, .int (-1), .int (-1), .int (-1)])), (q1, .inl (K 2, 3000, .inl (fun _ => 0))), (q2, .inl (K 1, 200, .inr (.inl (fun _ => 0)))), (q3, .inr (1, [.ref q4, .ref q5, .ref q6, .ref q7, .ref q8, .ref q9, .ref q10, .ref q11, .ref q12, .ref q13, .ref q14, .int 1])), (q4, .inl (K 0, 3016, .inl (fun _ => 0))), (q5, .inl (K 0, 3016, .inl (fun _ => 0))), (q6, .inl (K 0, 3016, .inl (fun _ => 0))), (q7, .inl (K 0, 3016, .inl (fun _ => 0))), (q8, .inl (K 0, 3016, .inl (fun _ => 0))), (q9, .inl (K 0, 3016, .inl (fun _ => 0))), (q10, .inl (K 0, 3016, .inl (fun _ => 0))), (q11, .inl (K 0, 3016, .inl (fun _ => 0))), (q12, .inl (K 1, 3016, .inr (.inl (fun _ => 0)))), (q13, .inl (K 0, 3016, .inl (fun _ => 0))), (q14, .inl (K 0, 3016, .inl (fun _ => 0))), (q15, .inr (2, [.ref q3, .ref q16, .ref q17, .ref q18, .ref q19, .ref q20, .int 0, .int 0, .int 0, .ref q21, .ref q22, .ref q23, .int 0, .int 0, .int 0, .int 0, .int 0, .int 0])), (q16, .inl (K 2, 3157, .inl (f24))), (q17, .inl (K 0, 1544, .inl (fun _ => 0))), (q18, .inl (K 0, 1544, .inl (fun _ => 0))), (q19, .inl (K 0, 1544, .inl (fun _ => 0))), (q20, .inl (K 0, 256, .inl (fun _ => 0))), (q21, .inl (K 0, 3001, .inl (fun _ => 0))), (q22, .inl (K 0, 3001, .inl (fun _ => 0))), (q25, .inr (3, [.ref q3, .null, .null, .null, .null, .int 0, .int 0, .int 0, .int 0, .int 0, .int 0])), (q26, .inr (4, [.ref q3, .null, .null, .null, .null, .null, .int 0, .int 0, .int 0, .int 0])), (q29, .inr (8, [.ref q30, .ref q31, .ref q32, .ref q33, .ref q34, .ref q35, .ref q36, .ref q37, .ref q38, .ref q39, .int 0, .int 0, .int 0, .ref q40, .int 0])), (q30, .inr (9, [.ref q41, .ref q42, .int 0, .ref q43, .ref q44, .ref q45, .ref q46, .ref q47, .ref q48, .ref q49, .int 0, .ref q50, .ref q51, .ref q52, .int 0, .ref q53, .ref q54, .ref q55, .int 0])), (q41, .inl (K 0, 1504, .inl (fun _ => 0))), (q31, .inr (10, [.ref q56, .ref q57, .ref q58, .ref q59, .ref q60, .ref q61, .ref q62, .int 0, .ref q63, .ref q64, .ref q65, .ref q66, .ref q67, .ref q68, .ref q69, .ref q70, .ref q71, .int 0, .int 0])), (q32, .inr (11, [.ref q72, .ref q73, .ref q74, .ref q75, .ref q76, .ref q77, .ref q78, .ref q79, .int 0, .ref q80, .ref q81, .int 0])), (q33, .inr (12, [.ref q82, .ref q83, .ref q84, .ref q85, .ref q86, .ref q87, .ref q88, .ref q89, .ref q90, .ref q91, .ref q92, .ref q93, .int 0, .ref q94, .ref q95, .ref q96, .int 0, .ref q97, .ref q98, .int 0]))] (fun v _ => v = some (.int (aJ n))) := by
  refine Con.of (by decide +kernel) (Nat.le_of_ble_eq_true rfl) ?_
  intro X hXl hXD hXK C hR hQ hnm
  subst hXl; subst hXD; subst hXK
  refine g_lv (l2 := [(0, .ref h0), (1, .int n)]) [0, 1] rfl ?_
  refine g_iload_n (z := 1) C dX12_judge_0 1 rfl rfl rfl ?_
  refine g_if_lt (z2 := 12) (z := 4) C dX12_judge_1 (by decide) rfl (fun h0n => ?_) (fun h0n => ?_)
  · refine g_iconst (v := (-1)) (z := 13) C dX12_judge_12 (by decide) rfl ?_
    exact g_iret C hQ dX12_judge_13 rfl (Nat.le_of_ble_eq_true rfl) (Nat.le_of_ble_eq_true rfl) (by rw [aJ_neg h0n])
  · refine g_iload_n (z := 5) C dX12_judge_4 1 rfl rfl rfl ?_
    refine g_aload_n (z := 6) C dX12_judge_5 0 rfl rfl rfl ?_
    refine g_get (z := 9) C kX12 dX12_judge_6 0 rfl 1 (by decide) w_44 rfl rfl rfl ?_
    refine g_icmp_le (z2 := 14) (z := 12) C dX12_judge_9 (by decide) rfl (fun h1n => ?_) (fun h1n => ?_)
    · have e0 : n = 0 := aJ_zero h0n h1n
      subst e0
      refine g_aload_n (z := 15) C dX12_judge_14 0 rfl rfl rfl ?_
      refine g_iconst (v := 0) (z := 16) C dX12_judge_15 (by decide) rfl ?_
      refine g_put (w2 := [(h0, .inr (0, [.ref q1, .int 0, .ref q2, .int 0, .ref q3, .ref q15, .ref q25, .ref q26, .ref q27, .ref q28, .ref q29, .null, .int 0, .int 0, .int (-1), .int (-1), .int (-1)])), (q1, .inl (gK X 2, 3000, .inl (fun _ => 0))), (q2, .inl (gK X 1, 200, .inr (.inl (fun _ => 0)))), (q3, .inr (1, [.ref q4, .ref q5, .ref q6, .ref q7, .ref q8, .ref q9, .ref q10, .ref q11, .ref q12, .ref q13, .ref q14, .int 1])), (q4, .inl (gK X 0, 3016, .inl (fun _ => 0))), (q5, .inl (gK X 0, 3016, .inl (fun _ => 0))), (q6, .inl (gK X 0, 3016, .inl (fun _ => 0))), (q7, .inl (gK X 0, 3016, .inl (fun _ => 0))), (q8, .inl (gK X 0, 3016, .inl (fun _ => 0))), (q9, .inl (gK X 0, 3016, .inl (fun _ => 0))), (q10, .inl (gK X 0, 3016, .inl (fun _ => 0))), (q11, .inl (gK X 0, 3016, .inl (fun _ => 0))), (q12, .inl (gK X 1, 3016, .inr (.inl (fun _ => 0)))), (q13, .inl (gK X 0, 3016, .inl (fun _ => 0))), (q14, .inl (gK X 0, 3016, .inl (fun _ => 0))), (q15, .inr (2, [.ref q3, .ref q16, .ref q17, .ref q18, .ref q19, .ref q20, .int 0, .int 0, .int 0, .ref q21, .ref q22, .ref q23, .int 0, .int 0, .int 0, .int 0, .int 0, .int 0])), (q16, .inl (gK X 2, 3157, .inl (f24))), (q17, .inl (gK X 0, 1544, .inl (fun _ => 0))), (q18, .inl (gK X 0, 1544, .inl (fun _ => 0))), (q19, .inl (gK X 0, 1544, .inl (fun _ => 0))), (q20, .inl (gK X 0, 256, .inl (fun _ => 0))), (q21, .inl (gK X 0, 3001, .inl (fun _ => 0))), (q22, .inl (gK X 0, 3001, .inl (fun _ => 0))), (q25, .inr (3, [.ref q3, .null, .null, .null, .null, .int 0, .int 0, .int 0, .int 0, .int 0, .int 0])), (q26, .inr (4, [.ref q3, .null, .null, .null, .null, .null, .int 0, .int 0, .int 0, .int 0])), (q29, .inr (8, [.ref q30, .ref q31, .ref q32, .ref q33, .ref q34, .ref q35, .ref q36, .ref q37, .ref q38, .ref q39, .int 0, .int 0, .int 0, .ref q40, .int 0])), (q30, .inr (9, [.ref q41, .ref q42, .int 0, .ref q43, .ref q44, .ref q45, .ref q46, .ref q47, .ref q48, .ref q49, .int 0, .ref q50, .ref q51, .ref q52, .int 0, .ref q53, .ref q54, .ref q55, .int 0])), (q41, .inl (gK X 0, 1504, .inl (fun _ => 0))), (q31, .inr (10, [.ref q56, .ref q57, .ref q58, .ref q59, .ref q60, .ref q61, .ref q62, .int 0, .ref q63, .ref q64, .ref q65, .ref q66, .ref q67, .ref q68, .ref q69, .ref q70, .ref q71, .int 0, .int 0])), (q32, .inr (11, [.ref q72, .ref q73, .ref q74, .ref q75, .ref q76, .ref q77, .ref q78, .ref q79, .int 0, .ref q80, .ref q81, .int 0])), (q33, .inr (12, [.ref q82, .ref q83, .ref q84, .ref q85, .ref q86, .ref q87, .ref q88, .ref q89, .ref q90, .ref q91, .ref q92, .ref q93, .int 0, .ref q94, .ref q95, .ref q96, .int 0, .ref q97, .ref q98, .int 0]))]) (z := 19) C kX12 dX12_judge_16 0 rfl 1 (by decide) w_44 rfl rfl rfl rfl (Nat.le_of_ble_eq_true rfl) rfl rfl ?_
      refine g_aload_n (z := 20) C dX12_judge_19 0 rfl rfl rfl ?_
      refine g_iconst (v := (-1)) (z := 21) C dX12_judge_20 (by decide) rfl ?_
      refine g_put (w2 := [(h0, .inr (0, [.ref q1, .int 0, .ref q2, .int 0, .ref q3, .ref q15, .ref q25, .ref q26, .ref q27, .ref q28, .ref q29, .null, .int 0, .int 0, .int (-1), .int (-1), .int (-1)])), (q1, .inl (gK X 2, 3000, .inl (fun _ => 0))), (q2, .inl (gK X 1, 200, .inr (.inl (fun _ => 0)))), (q3, .inr (1, [.ref q4, .ref q5, .ref q6, .ref q7, .ref q8, .ref q9, .ref q10, .ref q11, .ref q12, .ref q13, .ref q14, .int 1])), (q4, .inl (gK X 0, 3016, .inl (fun _ => 0))), (q5, .inl (gK X 0, 3016, .inl (fun _ => 0))), (q6, .inl (gK X 0, 3016, .inl (fun _ => 0))), (q7, .inl (gK X 0, 3016, .inl (fun _ => 0))), (q8, .inl (gK X 0, 3016, .inl (fun _ => 0))), (q9, .inl (gK X 0, 3016, .inl (fun _ => 0))), (q10, .inl (gK X 0, 3016, .inl (fun _ => 0))), (q11, .inl (gK X 0, 3016, .inl (fun _ => 0))), (q12, .inl (gK X 1, 3016, .inr (.inl (fun _ => 0)))), (q13, .inl (gK X 0, 3016, .inl (fun _ => 0))), (q14, .inl (gK X 0, 3016, .inl (fun _ => 0))), (q15, .inr (2, [.ref q3, .ref q16, .ref q17, .ref q18, .ref q19, .ref q20, .int 0, .int 0, .int 0, .ref q21, .ref q22, .ref q23, .int 0, .int 0, .int 0, .int 0, .int 0, .int 0])), (q16, .inl (gK X 2, 3157, .inl (f24))), (q17, .inl (gK X 0, 1544, .inl (fun _ => 0))), (q18, .inl (gK X 0, 1544, .inl (fun _ => 0))), (q19, .inl (gK X 0, 1544, .inl (fun _ => 0))), (q20, .inl (gK X 0, 256, .inl (fun _ => 0))), (q21, .inl (gK X 0, 3001, .inl (fun _ => 0))), (q22, .inl (gK X 0, 3001, .inl (fun _ => 0))), (q25, .inr (3, [.ref q3, .null, .null, .null, .null, .int 0, .int 0, .int 0, .int 0, .int 0, .int 0])), (q26, .inr (4, [.ref q3, .null, .null, .null, .null, .null, .int 0, .int 0, .int 0, .int 0])), (q29, .inr (8, [.ref q30, .ref q31, .ref q32, .ref q33, .ref q34, .ref q35, .ref q36, .ref q37, .ref q38, .ref q39, .int 0, .int 0, .int 0, .ref q40, .int 0])), (q30, .inr (9, [.ref q41, .ref q42, .int 0, .ref q43, .ref q44, .ref q45, .ref q46, .ref q47, .ref q48, .ref q49, .int 0, .ref q50, .ref q51, .ref q52, .int 0, .ref q53, .ref q54, .ref q55, .int 0])), (q41, .inl (gK X 0, 1504, .inl (fun _ => 0))), (q31, .inr (10, [.ref q56, .ref q57, .ref q58, .ref q59, .ref q60, .ref q61, .ref q62, .int 0, .ref q63, .ref q64, .ref q65, .ref q66, .ref q67, .ref q68, .ref q69, .ref q70, .ref q71, .int 0, .int 0])), (q32, .inr (11, [.ref q72, .ref q73, .ref q74, .ref q75, .ref q76, .ref q77, .ref q78, .ref q79, .int 0, .ref q80, .ref q81, .int 0])), (q33, .inr (12, [.ref q82, .ref q83, .ref q84, .ref q85, .ref q86, .ref q87, .ref q88, .ref q89, .ref q90, .ref q91, .ref q92, .ref q93, .int 0, .ref q94, .ref q95, .ref q96, .int 0, .ref q97, .ref q98, .int 0]))]) (z := 24) C kX12 dX12_judge_21 0 rfl 16 (by decide) w_40 rfl rfl rfl rfl (Nat.le_of_ble_eq_true rfl) rfl rfl ?_
      refine g_aload_n (z := 25) C dX12_judge_24 0 rfl rfl rfl ?_
      refine g_aload_n (z := 26) C dX12_judge_25 0 rfl rfl rfl ?_
      refine g_get (z := 29) C kX12 dX12_judge_26 0 rfl 5 (by decide) w_17 rfl rfl rfl ?_
      refine g_aload_n (z := 30) C dX12_judge_29 0 rfl rfl rfl ?_
      refine g_get (z := 33) C kX12 dX12_judge_30 0 rfl 0 (by decide) w_7 rfl rfl rfl ?_
      refine g_iload_n (z := 34) C dX12_judge_33 1 rfl rfl rfl ?_
      refine g_callVN (n := 2) (As := [.ref q1, .int 0]) (rest := [.ref h0]) (wr := [(h0, .inr (0, [.ref q1, .int 0, .ref q2, .int 0, .ref q3, .ref q15, .ref q25, .ref q26, .ref q27, .ref q28, .ref q29, .null, .int 0, .int 0, .int (-1), .int (-1), .int (-1)])), (q2, .inl (gK X 1, 200, .inr (.inl (fun _ => 0)))), (q25, .inr (3, [.ref q3, .null, .null, .null, .null, .int 0, .int 0, .int 0, .int 0, .int 0, .int 0])), (q26, .inr (4, [.ref q3, .null, .null, .null, .null, .null, .int 0, .int 0, .int 0, .int 0])), (q29, .inr (8, [.ref q30, .ref q31, .ref q32, .ref q33, .ref q34, .ref q35, .ref q36, .ref q37, .ref q38, .ref q39, .int 0, .int 0, .int 0, .ref q40, .int 0])), (q30, .inr (9, [.ref q41, .ref q42, .int 0, .ref q43, .ref q44, .ref q45, .ref q46, .ref q47, .ref q48, .ref q49, .int 0, .ref q50, .ref q51, .ref q52, .int 0, .ref q53, .ref q54, .ref q55, .int 0])), (q41, .inl (gK X 0, 1504, .inl (fun _ => 0))), (q31, .inr (10, [.ref q56, .ref q57, .ref q58, .ref q59, .ref q60, .ref q61, .ref q62, .int 0, .ref q63, .ref q64, .ref q65, .ref q66, .ref q67, .ref q68, .ref q69, .ref q70, .ref q71, .int 0, .int 0])), (q32, .inr (11, [.ref q72, .ref q73, .ref q74, .ref q75, .ref q76, .ref q77, .ref q78, .ref q79, .int 0, .ref q80, .ref q81, .int 0])), (q33, .inr (12, [.ref q82, .ref q83, .ref q84, .ref q85, .ref q86, .ref q87, .ref q88, .ref q89, .ref q90, .ref q91, .ref q92, .ref q93, .int 0, .ref q94, .ref q95, .ref q96, .int 0, .ref q97, .ref q98, .int 0]))]) (a2 := 0) (b2 := 0) (z := 37) C hR (k_read (gl X) (gD X) (gK X) q15 q3 q16 q17 q18 q19 q20 q21 q22 q23 q4 q5 q6 q7 q8 q9 q10 q11 q12 q13 q14 q1 f24 (fun _ => 0) (fun _ => 0) (fun _ => 0) (fun _ => 0) (fun _ => 0)) dX12_judge_34 nw_7 w_143 w_144 w_142 w_16 ⟨by decide +kernel, by decide +kernel, by decide +kernel⟩ [15, 16, 17, 18, 19, 20, 21, 22, 3, 4, 5, 6, 7, 8, 9, 10, 11, 12, 13, 14, 1] [0, 2, 23, 24, 25, 26, 27, 28, 29, 30] rfl rfl rfl rfl rfl (by decide) ⟨(Nat.le_of_ble_eq_true rfl), (Nat.le_of_ble_eq_true rfl)⟩ rfl rfl (Nat.le_of_ble_eq_true rfl) (Nat.le_of_ble_eq_true rfl) (Nat.le_of_ble_eq_true rfl) rfl rfl 15 kX6 rfl rfl rfl rfl (fun v ws' hp => ?_)
      obtain ⟨rfl, xn, f2, gS, gL, gN, gH, rfl⟩ := hp
      refine g_ws (w2 := [(h0, .inr (0, [.ref q1, .int 0, .ref q2, .int 0, .ref q3, .ref q15, .ref q25, .ref q26, .ref q27, .ref q28, .ref q29, .null, .int 0, .int 0, .int (-1), .int (-1), .int (-1)])), (q2, .inl (gK X 1, 200, .inr (.inl (fun _ => 0)))), (q25, .inr (3, [.ref q3, .null, .null, .null, .null, .int 0, .int 0, .int 0, .int 0, .int 0, .int 0])), (q26, .inr (4, [.ref q3, .null, .null, .null, .null, .null, .int 0, .int 0, .int 0, .int 0])), (q29, .inr (8, [.ref q30, .ref q31, .ref q32, .ref q33, .ref q34, .ref q35, .ref q36, .ref q37, .ref q38, .ref q39, .int 0, .int 0, .int 0, .ref q40, .int 0])), (q30, .inr (9, [.ref q41, .ref q42, .int 0, .ref q43, .ref q44, .ref q45, .ref q46, .ref q47, .ref q48, .ref q49, .int 0, .ref q50, .ref q51, .ref q52, .int 0, .ref q53, .ref q54, .ref q55, .int 0])), (q41, .inl (gK X 0, 1504, .inl (fun _ => 0))), (q31, .inr (10, [.ref q56, .ref q57, .ref q58, .ref q59, .ref q60, .ref q61, .ref q62, .int 0, .ref q63, .ref q64, .ref q65, .ref q66, .ref q67, .ref q68, .ref q69, .ref q70, .ref q71, .int 0, .int 0])), (q32, .inr (11, [.ref q72, .ref q73, .ref q74, .ref q75, .ref q76, .ref q77, .ref q78, .ref q79, .int 0, .ref q80, .ref q81, .int 0])), (q33, .inr (12, [.ref q82, .ref q83, .ref q84, .ref q85, .ref q86, .ref q87, .ref q88, .ref q89, .ref q90, .ref q91, .ref q92, .ref q93, .int 0, .ref q94, .ref q95, .ref q96, .int 0, .ref q97, .ref q98, .int 0])), (q15, .inr (2, [.ref q3, .ref q16, .ref q17, .ref q18, .ref q19, .ref q20, .int xn, .int 157, .int 157, .ref q21, .ref q22, .ref q23, .int 1, .int 0, .int 0, .int 0, .int 0, .int (-1)])), (q16, .inl (gK X 2, 3157, .inl (f2))), (q17, .inl (gK X 0, 1544, .inl (gS))), (q18, .inl (gK X 0, 1544, .inl (gL))), (q19, .inl (gK X 0, 1544, .inl (gN))), (q20, .inl (gK X 0, 256, .inl (gH))), (q21, .inl (gK X 0, 3001, .inl (upd (fun _ => 0) (0 : Int32).toNatClampNeg 0))), (q22, .inl (gK X 0, 3001, .inl (upd (fun _ => 0) (0 : Int32).toNatClampNeg 0))), (q3, .inr (1, [.ref q4, .ref q5, .ref q6, .ref q7, .ref q8, .ref q9, .ref q10, .ref q11, .ref q12, .ref q13, .ref q14, .int 2])), (q4, .inl (gK X 0, 3016, .inl (upd (fun _ => 0) (1 : Int32).toNatClampNeg 300))), (q5, .inl (gK X 0, 3016, .inl (upd (fun _ => 0) (1 : Int32).toNatClampNeg 0))), (q6, .inl (gK X 0, 3016, .inl (upd (fun _ => 0) (1 : Int32).toNatClampNeg 0))), (q7, .inl (gK X 0, 3016, .inl (upd (fun _ => 0) (1 : Int32).toNatClampNeg 0))), (q8, .inl (gK X 0, 3016, .inl (upd (fun _ => 0) (1 : Int32).toNatClampNeg 0))), (q9, .inl (gK X 0, 3016, .inl (upd (fun _ => 0) (1 : Int32).toNatClampNeg 0))), (q10, .inl (gK X 0, 3016, .inl (upd (fun _ => 0) (1 : Int32).toNatClampNeg 0))), (q11, .inl (gK X 0, 3016, .inl (upd (fun _ => 0) (1 : Int32).toNatClampNeg 0))), (q12, .inl (gK X 1, 3016, .inr (.inl (vp_updL (fun _ => 0) (1 : Int32).toNatClampNeg 0)))), (q13, .inl (gK X 0, 3016, .inl (upd (fun _ => 0) (1 : Int32).toNatClampNeg 0))), (q14, .inl (gK X 0, 3016, .inl (upd (fun _ => 0) (1 : Int32).toNatClampNeg 0))), (q1, .inl (gK X 2, 3000, .inl (fun _ => 0)))]) rfl ?_
      refine g_st (s2 := [.int (-1), .ref h0]) rfl ?_
      refine g_put (w2 := [(h0, .inr (0, [.ref q1, .int 0, .ref q2, .int 0, .ref q3, .ref q15, .ref q25, .ref q26, .ref q27, .ref q28, .ref q29, .null, .int 0, .int 0, .int (-1), .int (-1), .int (-1)])), (q2, .inl (gK X 1, 200, .inr (.inl (fun _ => 0)))), (q25, .inr (3, [.ref q3, .null, .null, .null, .null, .int 0, .int 0, .int 0, .int 0, .int 0, .int 0])), (q26, .inr (4, [.ref q3, .null, .null, .null, .null, .null, .int 0, .int 0, .int 0, .int 0])), (q29, .inr (8, [.ref q30, .ref q31, .ref q32, .ref q33, .ref q34, .ref q35, .ref q36, .ref q37, .ref q38, .ref q39, .int 0, .int 0, .int 0, .ref q40, .int 0])), (q30, .inr (9, [.ref q41, .ref q42, .int 0, .ref q43, .ref q44, .ref q45, .ref q46, .ref q47, .ref q48, .ref q49, .int 0, .ref q50, .ref q51, .ref q52, .int 0, .ref q53, .ref q54, .ref q55, .int 0])), (q41, .inl (gK X 0, 1504, .inl (fun _ => 0))), (q31, .inr (10, [.ref q56, .ref q57, .ref q58, .ref q59, .ref q60, .ref q61, .ref q62, .int 0, .ref q63, .ref q64, .ref q65, .ref q66, .ref q67, .ref q68, .ref q69, .ref q70, .ref q71, .int 0, .int 0])), (q32, .inr (11, [.ref q72, .ref q73, .ref q74, .ref q75, .ref q76, .ref q77, .ref q78, .ref q79, .int 0, .ref q80, .ref q81, .int 0])), (q33, .inr (12, [.ref q82, .ref q83, .ref q84, .ref q85, .ref q86, .ref q87, .ref q88, .ref q89, .ref q90, .ref q91, .ref q92, .ref q93, .int 0, .ref q94, .ref q95, .ref q96, .int 0, .ref q97, .ref q98, .int 0])), (q15, .inr (2, [.ref q3, .ref q16, .ref q17, .ref q18, .ref q19, .ref q20, .int xn, .int 157, .int 157, .ref q21, .ref q22, .ref q23, .int 1, .int 0, .int 0, .int 0, .int 0, .int (-1)])), (q16, .inl (gK X 2, 3157, .inl (f2))), (q17, .inl (gK X 0, 1544, .inl (gS))), (q18, .inl (gK X 0, 1544, .inl (gL))), (q19, .inl (gK X 0, 1544, .inl (gN))), (q20, .inl (gK X 0, 256, .inl (gH))), (q21, .inl (gK X 0, 3001, .inl (upd (fun _ => 0) (0 : Int32).toNatClampNeg 0))), (q22, .inl (gK X 0, 3001, .inl (upd (fun _ => 0) (0 : Int32).toNatClampNeg 0))), (q3, .inr (1, [.ref q4, .ref q5, .ref q6, .ref q7, .ref q8, .ref q9, .ref q10, .ref q11, .ref q12, .ref q13, .ref q14, .int 2])), (q4, .inl (gK X 0, 3016, .inl (upd (fun _ => 0) (1 : Int32).toNatClampNeg 300))), (q5, .inl (gK X 0, 3016, .inl (upd (fun _ => 0) (1 : Int32).toNatClampNeg 0))), (q6, .inl (gK X 0, 3016, .inl (upd (fun _ => 0) (1 : Int32).toNatClampNeg 0))), (q7, .inl (gK X 0, 3016, .inl (upd (fun _ => 0) (1 : Int32).toNatClampNeg 0))), (q8, .inl (gK X 0, 3016, .inl (upd (fun _ => 0) (1 : Int32).toNatClampNeg 0))), (q9, .inl (gK X 0, 3016, .inl (upd (fun _ => 0) (1 : Int32).toNatClampNeg 0))), (q10, .inl (gK X 0, 3016, .inl (upd (fun _ => 0) (1 : Int32).toNatClampNeg 0))), (q11, .inl (gK X 0, 3016, .inl (upd (fun _ => 0) (1 : Int32).toNatClampNeg 0))), (q12, .inl (gK X 1, 3016, .inr (.inl (vp_updL (fun _ => 0) (1 : Int32).toNatClampNeg 0)))), (q13, .inl (gK X 0, 3016, .inl (upd (fun _ => 0) (1 : Int32).toNatClampNeg 0))), (q14, .inl (gK X 0, 3016, .inl (upd (fun _ => 0) (1 : Int32).toNatClampNeg 0))), (q1, .inl (gK X 2, 3000, .inl (fun _ => 0)))]) (z := 40) C kX12 dX12_judge_37 0 rfl 15 (by decide) w_39 rfl rfl rfl rfl (Nat.le_of_ble_eq_true rfl) rfl rfl ?_
      refine g_aload_n (z := 41) C dX12_judge_40 0 rfl rfl rfl ?_
      refine g_aload_n (z := 42) C dX12_judge_41 0 rfl rfl rfl ?_
      refine g_get (z := 45) C kX12 dX12_judge_42 0 rfl 15 (by decide) w_39 rfl rfl rfl ?_
      refine g_if_lt_t (z := 52) C dX12_judge_45 (by decide) (by decide) ?_
      refine g_aload_n (z := 53) C dX12_judge_52 0 rfl rfl rfl ?_
      refine g_iload_n (z := 54) C dX12_judge_53 1 rfl rfl rfl ?_
      refine g_callV (n := 1) (As := [.int 0]) (rest := [.ref h0]) (wr := [(q2, .inl (gK X 1, 200, .inr (.inl (fun _ => 0)))), (q26, .inr (4, [.ref q3, .null, .null, .null, .null, .null, .int 0, .int 0, .int 0, .int 0])), (q15, .inr (2, [.ref q3, .ref q16, .ref q17, .ref q18, .ref q19, .ref q20, .int xn, .int 157, .int 157, .ref q21, .ref q22, .ref q23, .int 1, .int 0, .int 0, .int 0, .int 0, .int (-1)])), (q16, .inl (gK X 2, 3157, .inl (f2))), (q17, .inl (gK X 0, 1544, .inl (gS))), (q18, .inl (gK X 0, 1544, .inl (gL))), (q19, .inl (gK X 0, 1544, .inl (gN))), (q20, .inl (gK X 0, 256, .inl (gH))), (q21, .inl (gK X 0, 3001, .inl (upd (fun _ => 0) (0 : Int32).toNatClampNeg 0))), (q22, .inl (gK X 0, 3001, .inl (upd (fun _ => 0) (0 : Int32).toNatClampNeg 0))), (q4, .inl (gK X 0, 3016, .inl (upd (fun _ => 0) (1 : Int32).toNatClampNeg 300))), (q5, .inl (gK X 0, 3016, .inl (upd (fun _ => 0) (1 : Int32).toNatClampNeg 0))), (q6, .inl (gK X 0, 3016, .inl (upd (fun _ => 0) (1 : Int32).toNatClampNeg 0))), (q7, .inl (gK X 0, 3016, .inl (upd (fun _ => 0) (1 : Int32).toNatClampNeg 0))), (q9, .inl (gK X 0, 3016, .inl (upd (fun _ => 0) (1 : Int32).toNatClampNeg 0))), (q10, .inl (gK X 0, 3016, .inl (upd (fun _ => 0) (1 : Int32).toNatClampNeg 0))), (q11, .inl (gK X 0, 3016, .inl (upd (fun _ => 0) (1 : Int32).toNatClampNeg 0))), (q12, .inl (gK X 1, 3016, .inr (.inl (vp_updL (fun _ => 0) (1 : Int32).toNatClampNeg 0)))), (q13, .inl (gK X 0, 3016, .inl (upd (fun _ => 0) (1 : Int32).toNatClampNeg 0))), (q14, .inl (gK X 0, 3016, .inl (upd (fun _ => 0) (1 : Int32).toNatClampNeg 0))), (q1, .inl (gK X 2, 3000, .inl (fun _ => 0)))]) (a2 := 0) (b2 := 0) (z := 57) C hR (k_judgeTree (gl X) (gD X) (gK X) h0 q1 q2 q3 q15 q25 q26 q27 q28 q29 q30 q31 q32 q33 q34 q35 q36 q37 q38 q39 q40 q4 q5 q6 q7 q8 q9 q10 q11 q12 q13 q14 q41 q42 q43 q44 q45 q46 q47 q48 q49 q50 q51 q52 q53 q54 q55 q56 q57 q58 q59 q60 q61 q62 q63 q64 q65 q66 q67 q68 q69 q70 q71 q72 q73 q74 q75 q76 q77 q78 q79 q80 q81 q82 q83 q84 q85 q86 q87 q88 q89 q90 q91 q92 q93 q94 q95 q96 q97 q98) dX12_judge_54 w_52 w_54 w_55 w_53 w_3 ⟨by decide +kernel, by decide +kernel, by decide +kernel⟩ [0, 2, 4, 18, 23, 5, 6, 7, 8, 9] [1, 3, 10, 11, 12, 13, 14, 15, 16, 17, 19, 20, 21, 22, 24, 25, 26, 27, 28, 29, 30] rfl rfl rfl rfl rfl (by decide) ⟨(Nat.le_of_ble_eq_true rfl), (Nat.le_of_ble_eq_true rfl)⟩ rfl rfl (Nat.le_of_ble_eq_true rfl) (Nat.le_of_ble_eq_true rfl) (Nat.le_of_ble_eq_true rfl) rfl rfl 0 kX12 rfl rfl rfl rfl (fun v ws' hp => ?_)
      obtain ⟨rfl, rfl⟩ := hp
      refine g_ws (w2 := [(q2, .inl (gK X 1, 200, .inr (.inl (fun _ => 0)))), (q26, .inr (4, [.ref q3, .null, .null, .null, .null, .null, .int 0, .int 0, .int 0, .int 0])), (q15, .inr (2, [.ref q3, .ref q16, .ref q17, .ref q18, .ref q19, .ref q20, .int xn, .int 157, .int 157, .ref q21, .ref q22, .ref q23, .int 1, .int 0, .int 0, .int 0, .int 0, .int (-1)])), (q16, .inl (gK X 2, 3157, .inl (f2))), (q17, .inl (gK X 0, 1544, .inl (gS))), (q18, .inl (gK X 0, 1544, .inl (gL))), (q19, .inl (gK X 0, 1544, .inl (gN))), (q20, .inl (gK X 0, 256, .inl (gH))), (q21, .inl (gK X 0, 3001, .inl (upd (fun _ => 0) (0 : Int32).toNatClampNeg 0))), (q22, .inl (gK X 0, 3001, .inl (upd (fun _ => 0) (0 : Int32).toNatClampNeg 0))), (q4, .inl (gK X 0, 3016, .inl (upd (fun _ => 0) (1 : Int32).toNatClampNeg 300))), (q5, .inl (gK X 0, 3016, .inl (upd (fun _ => 0) (1 : Int32).toNatClampNeg 0))), (q6, .inl (gK X 0, 3016, .inl (upd (fun _ => 0) (1 : Int32).toNatClampNeg 0))), (q7, .inl (gK X 0, 3016, .inl (upd (fun _ => 0) (1 : Int32).toNatClampNeg 0))), (q9, .inl (gK X 0, 3016, .inl (upd (fun _ => 0) (1 : Int32).toNatClampNeg 0))), (q10, .inl (gK X 0, 3016, .inl (upd (fun _ => 0) (1 : Int32).toNatClampNeg 0))), (q11, .inl (gK X 0, 3016, .inl (upd (fun _ => 0) (1 : Int32).toNatClampNeg 0))), (q12, .inl (gK X 1, 3016, .inr (.inl (vp_updL (fun _ => 0) (1 : Int32).toNatClampNeg 0)))), (q13, .inl (gK X 0, 3016, .inl (upd (fun _ => 0) (1 : Int32).toNatClampNeg 0))), (q14, .inl (gK X 0, 3016, .inl (upd (fun _ => 0) (1 : Int32).toNatClampNeg 0))), (q1, .inl (gK X 2, 3000, .inl (fun _ => 0))), (h0, .inr (0, [.ref q1, .int 0, .ref q2, .int 0, .ref q3, .ref q15, .ref q25, .ref q26, .ref q27, .ref q28, .ref q29, .null, .int 0, .int 0, .int (-1), .int 0, .int (-1)])), (q25, .inr (3, [.ref q3, .ref q30, .ref q31, .ref q32, .ref q33, .int 0, .int 0, .int 0, .int 0, .int 0, .int 0])), (q29, .inr (8, [.ref q30, .ref q31, .ref q32, .ref q33, .ref q34, .ref q35, .ref q36, .ref q37, .ref q38, .ref q39, .int 0, .int 0, .int 0, .ref q40, .int 0])), (q3, .inr (1, [.ref q4, .ref q5, .ref q6, .ref q7, .ref q8, .ref q9, .ref q10, .ref q11, .ref q12, .ref q13, .ref q14, .int 2])), (q8, .inl (gK X 0, 3016, .inl (upd (fun _ => 0) (1 : Int32).toNatClampNeg 0))), (q30, .inr (9, [.ref q41, .ref q42, .int 3, .ref q43, .ref q44, .ref q45, .ref q46, .ref q47, .ref q48, .ref q49, .int 0, .ref q50, .ref q51, .ref q52, .int 0, .ref q53, .ref q54, .ref q55, .int 0])), (q41, .inl (gK X 0, 1504, .inl (upd (upd (upd (fun _ => 0) (0 : Int32).toNatClampNeg 0) (1 : Int32).toNatClampNeg 1) (2 : Int32).toNatClampNeg 2))), (q31, .inr (10, [.ref q56, .ref q57, .ref q58, .ref q59, .ref q60, .ref q61, .ref q62, .int 0, .ref q63, .ref q64, .ref q65, .ref q66, .ref q67, .ref q68, .ref q69, .ref q70, .ref q71, .int 0, .int (-1)])), (q32, .inr (11, [.ref q72, .ref q73, .ref q74, .ref q75, .ref q76, .ref q77, .ref q78, .ref q79, .int 0, .ref q80, .ref q81, .int 0])), (q33, .inr (12, [.ref q82, .ref q83, .ref q84, .ref q85, .ref q86, .ref q87, .ref q88, .ref q89, .ref q90, .ref q91, .ref q92, .ref q93, .int 0, .ref q94, .ref q95, .ref q96, .int 0, .ref q97, .ref q98, .int 0]))]) rfl ?_
      refine g_st (s2 := [.int 2, .ref h0]) rfl ?_
      refine g_put (w2 := [(q2, .inl (gK X 1, 200, .inr (.inl (fun _ => 0)))), (q26, .inr (4, [.ref q3, .null, .null, .null, .null, .null, .int 0, .int 0, .int 0, .int 0])), (q15, .inr (2, [.ref q3, .ref q16, .ref q17, .ref q18, .ref q19, .ref q20, .int xn, .int 157, .int 157, .ref q21, .ref q22, .ref q23, .int 1, .int 0, .int 0, .int 0, .int 0, .int (-1)])), (q16, .inl (gK X 2, 3157, .inl (f2))), (q17, .inl (gK X 0, 1544, .inl (gS))), (q18, .inl (gK X 0, 1544, .inl (gL))), (q19, .inl (gK X 0, 1544, .inl (gN))), (q20, .inl (gK X 0, 256, .inl (gH))), (q21, .inl (gK X 0, 3001, .inl (upd (fun _ => 0) (0 : Int32).toNatClampNeg 0))), (q22, .inl (gK X 0, 3001, .inl (upd (fun _ => 0) (0 : Int32).toNatClampNeg 0))), (q4, .inl (gK X 0, 3016, .inl (upd (fun _ => 0) (1 : Int32).toNatClampNeg 300))), (q5, .inl (gK X 0, 3016, .inl (upd (fun _ => 0) (1 : Int32).toNatClampNeg 0))), (q6, .inl (gK X 0, 3016, .inl (upd (fun _ => 0) (1 : Int32).toNatClampNeg 0))), (q7, .inl (gK X 0, 3016, .inl (upd (fun _ => 0) (1 : Int32).toNatClampNeg 0))), (q9, .inl (gK X 0, 3016, .inl (upd (fun _ => 0) (1 : Int32).toNatClampNeg 0))), (q10, .inl (gK X 0, 3016, .inl (upd (fun _ => 0) (1 : Int32).toNatClampNeg 0))), (q11, .inl (gK X 0, 3016, .inl (upd (fun _ => 0) (1 : Int32).toNatClampNeg 0))), (q12, .inl (gK X 1, 3016, .inr (.inl (vp_updL (fun _ => 0) (1 : Int32).toNatClampNeg 0)))), (q13, .inl (gK X 0, 3016, .inl (upd (fun _ => 0) (1 : Int32).toNatClampNeg 0))), (q14, .inl (gK X 0, 3016, .inl (upd (fun _ => 0) (1 : Int32).toNatClampNeg 0))), (q1, .inl (gK X 2, 3000, .inl (fun _ => 0))), (h0, .inr (0, [.ref q1, .int 0, .ref q2, .int 0, .ref q3, .ref q15, .ref q25, .ref q26, .ref q27, .ref q28, .ref q29, .null, .int 0, .int 0, .int 2, .int 0, .int (-1)])), (q25, .inr (3, [.ref q3, .ref q30, .ref q31, .ref q32, .ref q33, .int 0, .int 0, .int 0, .int 0, .int 0, .int 0])), (q29, .inr (8, [.ref q30, .ref q31, .ref q32, .ref q33, .ref q34, .ref q35, .ref q36, .ref q37, .ref q38, .ref q39, .int 0, .int 0, .int 0, .ref q40, .int 0])), (q3, .inr (1, [.ref q4, .ref q5, .ref q6, .ref q7, .ref q8, .ref q9, .ref q10, .ref q11, .ref q12, .ref q13, .ref q14, .int 2])), (q8, .inl (gK X 0, 3016, .inl (upd (fun _ => 0) (1 : Int32).toNatClampNeg 0))), (q30, .inr (9, [.ref q41, .ref q42, .int 3, .ref q43, .ref q44, .ref q45, .ref q46, .ref q47, .ref q48, .ref q49, .int 0, .ref q50, .ref q51, .ref q52, .int 0, .ref q53, .ref q54, .ref q55, .int 0])), (q41, .inl (gK X 0, 1504, .inl (upd (upd (upd (fun _ => 0) (0 : Int32).toNatClampNeg 0) (1 : Int32).toNatClampNeg 1) (2 : Int32).toNatClampNeg 2))), (q31, .inr (10, [.ref q56, .ref q57, .ref q58, .ref q59, .ref q60, .ref q61, .ref q62, .int 0, .ref q63, .ref q64, .ref q65, .ref q66, .ref q67, .ref q68, .ref q69, .ref q70, .ref q71, .int 0, .int (-1)])), (q32, .inr (11, [.ref q72, .ref q73, .ref q74, .ref q75, .ref q76, .ref q77, .ref q78, .ref q79, .int 0, .ref q80, .ref q81, .int 0])), (q33, .inr (12, [.ref q82, .ref q83, .ref q84, .ref q85, .ref q86, .ref q87, .ref q88, .ref q89, .ref q90, .ref q91, .ref q92, .ref q93, .int 0, .ref q94, .ref q95, .ref q96, .int 0, .ref q97, .ref q98, .int 0]))]) (z := 60) C kX12 dX12_judge_57 21 rfl 14 (by decide) w_38 rfl rfl rfl rfl (Nat.le_of_ble_eq_true rfl) rfl rfl ?_
      refine g_aload_n (z := 61) C dX12_judge_60 0 rfl rfl rfl ?_
      refine g_get (z := 64) C kX12 dX12_judge_61 21 rfl 14 (by decide) w_38 rfl rfl rfl ?_
      refine g_if_ne_t (z := 76) C dX12_judge_64 (by decide) (by decide) ?_
      refine g_aload_n (z := 77) C dX12_judge_76 0 rfl rfl rfl ?_
      refine g_get (z := 80) C kX12 dX12_judge_77 21 rfl 14 (by decide) w_38 rfl rfl rfl ?_
      exact g_iret C hQ dX12_judge_80 rfl (Nat.le_of_ble_eq_true rfl) (Nat.le_of_ble_eq_true rfl) rfl
    · refine g_iconst (v := (-1)) (z := 13) C dX12_judge_12 (by decide) rfl ?_
      exact g_iret C hQ dX12_judge_13 rfl (Nat.le_of_ble_eq_true rfl) (Nat.le_of_ble_eq_true rfl) (by rw [aJ_pos h1n])

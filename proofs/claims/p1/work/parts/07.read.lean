theorem dX6_advance_0 : decode cX6_advance 0 = .ok (.aload_n 0, 1) := by decide +kernel
theorem dX6_advance_1 : decode cX6_advance 1 = .ok (.getfield 70, 3) := by decide +kernel
theorem dX6_advance_4 : decode cX6_advance 4 = .ok (.ifCond .ge 52, 3) := by decide +kernel
theorem dX6_advance_7 : decode cX6_advance 7 = .ok (.aload_n 0, 1) := by decide +kernel
theorem dX6_advance_8 : decode cX6_advance 8 = .ok (.getfield 84, 3) := by decide +kernel
theorem dX6_advance_11 : decode cX6_advance 11 = .ok (.iconst 1, 1) := by decide +kernel
theorem dX6_advance_12 : decode cX6_advance 12 = .ok (.iadd, 1) := by decide +kernel
theorem dX6_advance_13 : decode cX6_advance 13 = .ok (.aload_n 0, 1) := by decide +kernel
theorem dX6_advance_14 : decode cX6_advance 14 = .ok (.getfield 129, 3) := by decide +kernel
theorem dX6_advance_17 : decode cX6_advance 17 = .ok (.if_icmp .ge 39, 3) := by decide +kernel
theorem dX6_advance_20 : decode cX6_advance 20 = .ok (.aload_n 0, 1) := by decide +kernel
theorem dX6_advance_21 : decode cX6_advance 21 = .ok (.dup, 1) := by decide +kernel
theorem dX6_advance_22 : decode cX6_advance 22 = .ok (.getfield 84, 3) := by decide +kernel
theorem dX6_advance_25 : decode cX6_advance 25 = .ok (.iconst 1, 1) := by decide +kernel
theorem dX6_advance_26 : decode cX6_advance 26 = .ok (.iadd, 1) := by decide +kernel
theorem dX6_advance_27 : decode cX6_advance 27 = .ok (.putfield 84, 3) := by decide +kernel
theorem dX6_advance_30 : decode cX6_advance 30 = .ok (.aload_n 0, 1) := by decide +kernel
theorem dX6_advance_31 : decode cX6_advance 31 = .ok (.aload_n 0, 1) := by decide +kernel
theorem dX6_advance_32 : decode cX6_advance 32 = .ok (.getfield 36, 3) := by decide +kernel
theorem dX6_advance_35 : decode cX6_advance 35 = .ok (.aload_n 0, 1) := by decide +kernel
theorem dX6_advance_36 : decode cX6_advance 36 = .ok (.getfield 84, 3) := by decide +kernel
theorem dX6_advance_39 : decode cX6_advance 39 = .ok (.iaload, 1) := by decide +kernel
theorem dX6_advance_40 : decode cX6_advance 40 = .ok (.putfield 94, 3) := by decide +kernel
theorem dX6_advance_43 : decode cX6_advance 43 = .ok (.aload_n 0, 1) := by decide +kernel
theorem dX6_advance_44 : decode cX6_advance 44 = .ok (.aload_n 0, 1) := by decide +kernel
theorem dX6_advance_45 : decode cX6_advance 45 = .ok (.getfield 39, 3) := by decide +kernel
theorem dX6_advance_48 : decode cX6_advance 48 = .ok (.aload_n 0, 1) := by decide +kernel
theorem dX6_advance_49 : decode cX6_advance 49 = .ok (.getfield 84, 3) := by decide +kernel
theorem dX6_advance_52 : decode cX6_advance 52 = .ok (.iaload, 1) := by decide +kernel
theorem dX6_advance_53 : decode cX6_advance 53 = .ok (.putfield 97, 3) := by decide +kernel
theorem dX6_advance_56 : decode cX6_advance 56 = .ok (.return_, 1) := by decide +kernel
theorem dX6_read_0 : decode cX6_read 0 = .ok (.aload_n 1, 1) := by decide +kernel
theorem dX6_read_1 : decode cX6_read 1 = .ok (.iconst 0, 1) := by decide +kernel
theorem dX6_read_2 : decode cX6_read 2 = .ok (.aload_n 0, 1) := by decide +kernel
theorem dX6_read_3 : decode cX6_read 3 = .ok (.getfield 17, 3) := by decide +kernel
theorem dX6_read_6 : decode cX6_read 6 = .ok (.ldc 9, 2) := by decide +kernel
theorem dX6_read_8 : decode cX6_read 8 = .ok (.invokevirtual 11, 3) := by decide +kernel
theorem dX6_read_11 : decode cX6_read 11 = .ok (.iload_n 2, 1) := by decide +kernel
theorem dX6_read_12 : decode cX6_read 12 = .ok (.invokestatic 54, 3) := by decide +kernel
theorem dX6_read_15 : decode cX6_read 15 = .ok (.aload_n 0, 1) := by decide +kernel
theorem dX6_read_16 : decode cX6_read 16 = .ok (.ldc 9, 2) := by decide +kernel
theorem dX6_read_18 : decode cX6_read 18 = .ok (.invokevirtual 11, 3) := by decide +kernel
theorem dX6_read_21 : decode cX6_read 21 = .ok (.putfield 60, 3) := by decide +kernel
theorem dX6_read_24 : decode cX6_read 24 = .ok (.aload_n 0, 1) := by decide +kernel
theorem dX6_read_25 : decode cX6_read 25 = .ok (.aload_n 0, 1) := by decide +kernel
theorem dX6_read_26 : decode cX6_read 26 = .ok (.getfield 60, 3) := by decide +kernel
theorem dX6_read_29 : decode cX6_read 29 = .ok (.iload_n 2, 1) := by decide +kernel
theorem dX6_read_30 : decode cX6_read 30 = .ok (.iadd, 1) := by decide +kernel
theorem dX6_read_31 : decode cX6_read 31 = .ok (.putfield 64, 3) := by decide +kernel
theorem dX6_read_34 : decode cX6_read 34 = .ok (.aload_n 0, 1) := by decide +kernel
theorem dX6_read_35 : decode cX6_read 35 = .ok (.iconst 0, 1) := by decide +kernel
theorem dX6_read_36 : decode cX6_read 36 = .ok (.putfield 67, 3) := by decide +kernel
theorem dX6_read_39 : decode cX6_read 39 = .ok (.aload_n 0, 1) := by decide +kernel
theorem dX6_read_40 : decode cX6_read 40 = .ok (.iconst (-1), 1) := by decide +kernel
theorem dX6_read_41 : decode cX6_read 41 = .ok (.putfield 70, 3) := by decide +kernel
theorem dX6_read_44 : decode cX6_read 44 = .ok (.aload_n 0, 1) := by decide +kernel
theorem dX6_read_45 : decode cX6_read 45 = .ok (.invokevirtual 73, 3) := by decide +kernel
theorem dX6_read_48 : decode cX6_read 48 = .ok (.aload_n 0, 1) := by decide +kernel
theorem dX6_read_49 : decode cX6_read 49 = .ok (.invokevirtual 76, 3) := by decide +kernel
theorem dX6_read_52 : decode cX6_read 52 = .ok (.aload_n 0, 1) := by decide +kernel
theorem dX6_read_53 : decode cX6_read 53 = .ok (.getfield 46, 3) := by decide +kernel
theorem dX6_read_56 : decode cX6_read 56 = .ok (.invokevirtual 79, 3) := by decide +kernel
theorem dX6_read_59 : decode cX6_read 59 = .ok (.aload_n 0, 1) := by decide +kernel
theorem dX6_read_60 : decode cX6_read 60 = .ok (.iconst (-1), 1) := by decide +kernel
theorem dX6_read_61 : decode cX6_read 61 = .ok (.putfield 84, 3) := by decide +kernel
theorem dX6_read_64 : decode cX6_read 64 = .ok (.aload_n 0, 1) := by decide +kernel
theorem dX6_read_65 : decode cX6_read 65 = .ok (.invokevirtual 87, 3) := by decide +kernel
theorem dX6_read_68 : decode cX6_read 68 = .ok (.aload_n 0, 1) := by decide +kernel
theorem dX6_read_69 : decode cX6_read 69 = .ok (.getfield 46, 3) := by decide +kernel
theorem dX6_read_72 : decode cX6_read 72 = .ok (.sipush 300, 3) := by decide +kernel
theorem dX6_read_75 : decode cX6_read 75 = .ok (.iconst 0, 1) := by decide +kernel
theorem dX6_read_76 : decode cX6_read 76 = .ok (.invokevirtual 90, 3) := by decide +kernel
theorem dX6_read_79 : decode cX6_read 79 = .ok (.istore_n 3, 1) := by decide +kernel
theorem dX6_read_80 : decode cX6_read 80 = .ok (.iconst 0, 1) := by decide +kernel
theorem dX6_read_81 : decode cX6_read 81 = .ok (.istore 4, 2) := by decide +kernel
theorem dX6_read_83 : decode cX6_read 83 = .ok (.iconst 0, 1) := by decide +kernel
theorem dX6_read_84 : decode cX6_read 84 = .ok (.istore 5, 2) := by decide +kernel
theorem dX6_read_86 : decode cX6_read 86 = .ok (.iload 5, 2) := by decide +kernel
theorem dX6_read_88 : decode cX6_read 88 = .ok (.sipush 3000, 3) := by decide +kernel
theorem dX6_read_91 : decode cX6_read 91 = .ok (.if_icmp .gt 119, 3) := by decide +kernel
theorem dX6_read_94 : decode cX6_read 94 = .ok (.aload_n 0, 1) := by decide +kernel
theorem dX6_read_95 : decode cX6_read 95 = .ok (.getfield 94, 3) := by decide +kernel
theorem dX6_read_98 : decode cX6_read 98 = .ok (.ifCond .eq 112, 3) := by decide +kernel
theorem dX6_read_210 : decode cX6_read 210 = .ok (.aload_n 0, 1) := by decide +kernel
theorem dX6_read_211 : decode cX6_read 211 = .ok (.getfield 70, 3) := by decide +kernel
theorem dX6_read_214 : decode cX6_read 214 = .ok (.ireturn, 1) := by decide +kernel
theorem dX6_skipBlanks_0 : decode cX6_skipBlanks 0 = .ok (.iconst 0, 1) := by decide +kernel
theorem dX6_skipBlanks_1 : decode cX6_skipBlanks 1 = .ok (.istore_n 1, 1) := by decide +kernel
theorem dX6_skipBlanks_2 : decode cX6_skipBlanks 2 = .ok (.aload_n 0, 1) := by decide +kernel
theorem dX6_skipBlanks_3 : decode cX6_skipBlanks 3 = .ok (.getfield 60, 3) := by decide +kernel
theorem dX6_skipBlanks_6 : decode cX6_skipBlanks 6 = .ok (.aload_n 0, 1) := by decide +kernel
theorem dX6_skipBlanks_7 : decode cX6_skipBlanks 7 = .ok (.getfield 64, 3) := by decide +kernel
theorem dX6_skipBlanks_10 : decode cX6_skipBlanks 10 = .ok (.if_icmp .ge 117, 3) := by decide +kernel
theorem dX6_skipBlanks_127 : decode cX6_skipBlanks 127 = .ok (.return_, 1) := by decide +kernel
theorem dX6_takeTokens_0 : decode cX6_takeTokens 0 = .ok (.aload_n 0, 1) := by decide +kernel
theorem dX6_takeTokens_1 : decode cX6_takeTokens 1 = .ok (.iconst 0, 1) := by decide +kernel
theorem dX6_takeTokens_2 : decode cX6_takeTokens 2 = .ok (.putfield 129, 3) := by decide +kernel
theorem dX6_takeTokens_5 : decode cX6_takeTokens 5 = .ok (.iconst 1, 1) := by decide +kernel
theorem dX6_takeTokens_6 : decode cX6_takeTokens 6 = .ok (.istore_n 1, 1) := by decide +kernel
theorem dX6_takeTokens_7 : decode cX6_takeTokens 7 = .ok (.iconst 0, 1) := by decide +kernel
theorem dX6_takeTokens_8 : decode cX6_takeTokens 8 = .ok (.istore_n 2, 1) := by decide +kernel
theorem dX6_takeTokens_9 : decode cX6_takeTokens 9 = .ok (.iload_n 2, 1) := by decide +kernel
theorem dX6_takeTokens_10 : decode cX6_takeTokens 10 = .ok (.sipush 3000, 3) := by decide +kernel
theorem dX6_takeTokens_13 : decode cX6_takeTokens 13 = .ok (.if_icmp .gt 127, 3) := by decide +kernel
theorem dX6_takeTokens_16 : decode cX6_takeTokens 16 = .ok (.iload_n 1, 1) := by decide +kernel
theorem dX6_takeTokens_17 : decode cX6_takeTokens 17 = .ok (.ifCond .eq 123, 3) := by decide +kernel
theorem dX6_takeTokens_20 : decode cX6_takeTokens 20 = .ok (.iload_n 1, 1) := by decide +kernel
theorem dX6_takeTokens_21 : decode cX6_takeTokens 21 = .ok (.iconst 3, 1) := by decide +kernel
theorem dX6_takeTokens_22 : decode cX6_takeTokens 22 = .ok (.if_icmp .eq 118, 3) := by decide +kernel
theorem dX6_takeTokens_25 : decode cX6_takeTokens 25 = .ok (.aload_n 0, 1) := by decide +kernel
theorem dX6_takeTokens_26 : decode cX6_takeTokens 26 = .ok (.invokevirtual 132, 3) := by decide +kernel
theorem dX6_takeTokens_29 : decode cX6_takeTokens 29 = .ok (.aload_n 0, 1) := by decide +kernel
theorem dX6_takeTokens_30 : decode cX6_takeTokens 30 = .ok (.getfield 39, 3) := by decide +kernel
theorem dX6_takeTokens_33 : decode cX6_takeTokens 33 = .ok (.aload_n 0, 1) := by decide +kernel
theorem dX6_takeTokens_34 : decode cX6_takeTokens 34 = .ok (.getfield 129, 3) := by decide +kernel
theorem dX6_takeTokens_37 : decode cX6_takeTokens 37 = .ok (.aload_n 0, 1) := by decide +kernel
theorem dX6_takeTokens_38 : decode cX6_takeTokens 38 = .ok (.getfield 60, 3) := by decide +kernel
theorem dX6_takeTokens_41 : decode cX6_takeTokens 41 = .ok (.ldc 9, 2) := by decide +kernel
theorem dX6_takeTokens_43 : decode cX6_takeTokens 43 = .ok (.invokevirtual 11, 3) := by decide +kernel
theorem dX6_takeTokens_46 : decode cX6_takeTokens 46 = .ok (.isub, 1) := by decide +kernel
theorem dX6_takeTokens_47 : decode cX6_takeTokens 47 = .ok (.iastore, 1) := by decide +kernel
theorem dX6_takeTokens_48 : decode cX6_takeTokens 48 = .ok (.aload_n 0, 1) := by decide +kernel
theorem dX6_takeTokens_49 : decode cX6_takeTokens 49 = .ok (.getfield 60, 3) := by decide +kernel
theorem dX6_takeTokens_52 : decode cX6_takeTokens 52 = .ok (.aload_n 0, 1) := by decide +kernel
theorem dX6_takeTokens_53 : decode cX6_takeTokens 53 = .ok (.getfield 64, 3) := by decide +kernel
theorem dX6_takeTokens_56 : decode cX6_takeTokens 56 = .ok (.if_icmp .lt 8, 3) := by decide +kernel
theorem dX6_takeTokens_59 : decode cX6_takeTokens 59 = .ok (.iconst 0, 1) := by decide +kernel
theorem dX6_takeTokens_60 : decode cX6_takeTokens 60 = .ok (.istore_n 1, 1) := by decide +kernel
theorem dX6_takeTokens_61 : decode cX6_takeTokens 61 = .ok (.goto 53, 3) := by decide +kernel
theorem dX6_takeTokens_114 : decode cX6_takeTokens 114 = .ok (.aload_n 0, 1) := by decide +kernel
theorem dX6_takeTokens_115 : decode cX6_takeTokens 115 = .ok (.getfield 36, 3) := by decide +kernel
theorem dX6_takeTokens_118 : decode cX6_takeTokens 118 = .ok (.aload_n 0, 1) := by decide +kernel
theorem dX6_takeTokens_119 : decode cX6_takeTokens 119 = .ok (.getfield 129, 3) := by decide +kernel
theorem dX6_takeTokens_122 : decode cX6_takeTokens 122 = .ok (.iload_n 1, 1) := by decide +kernel
theorem dX6_takeTokens_123 : decode cX6_takeTokens 123 = .ok (.iastore, 1) := by decide +kernel
theorem dX6_takeTokens_124 : decode cX6_takeTokens 124 = .ok (.aload_n 0, 1) := by decide +kernel
theorem dX6_takeTokens_125 : decode cX6_takeTokens 125 = .ok (.dup, 1) := by decide +kernel
theorem dX6_takeTokens_126 : decode cX6_takeTokens 126 = .ok (.getfield 129, 3) := by decide +kernel
theorem dX6_takeTokens_129 : decode cX6_takeTokens 129 = .ok (.iconst 1, 1) := by decide +kernel
theorem dX6_takeTokens_130 : decode cX6_takeTokens 130 = .ok (.iadd, 1) := by decide +kernel
theorem dX6_takeTokens_131 : decode cX6_takeTokens 131 = .ok (.putfield 129, 3) := by decide +kernel
theorem dX6_takeTokens_134 : decode cX6_takeTokens 134 = .ok (.iinc 2 1, 3) := by decide +kernel
theorem dX6_takeTokens_137 : decode cX6_takeTokens 137 = .ok (.goto (-128), 3) := by decide +kernel
theorem dX6_takeTokens_140 : decode cX6_takeTokens 140 = .ok (.return_, 1) := by decide +kernel
theorem dX6_takeWords_0 : decode cX6_takeWords 0 = .ok (.aload_n 0, 1) := by decide +kernel
theorem dX6_takeWords_1 : decode cX6_takeWords 1 = .ok (.iconst 0, 1) := by decide +kernel
theorem dX6_takeWords_2 : decode cX6_takeWords 2 = .ok (.putfield 119, 3) := by decide +kernel
theorem dX6_takeWords_5 : decode cX6_takeWords 5 = .ok (.iconst 0, 1) := by decide +kernel
theorem dX6_takeWords_6 : decode cX6_takeWords 6 = .ok (.istore_n 1, 1) := by decide +kernel
theorem dX6_takeWords_7 : decode cX6_takeWords 7 = .ok (.iload_n 1, 1) := by decide +kernel
theorem dX6_takeWords_8 : decode cX6_takeWords 8 = .ok (.aload_n 0, 1) := by decide +kernel
theorem dX6_takeWords_9 : decode cX6_takeWords 9 = .ok (.getfield 33, 3) := by decide +kernel
theorem dX6_takeWords_12 : decode cX6_takeWords 12 = .ok (.arraylength, 1) := by decide +kernel
theorem dX6_takeWords_13 : decode cX6_takeWords 13 = .ok (.if_icmp .ge 16, 3) := by decide +kernel
theorem dX6_takeWords_16 : decode cX6_takeWords 16 = .ok (.aload_n 0, 1) := by decide +kernel
theorem dX6_takeWords_17 : decode cX6_takeWords 17 = .ok (.getfield 33, 3) := by decide +kernel
theorem dX6_takeWords_20 : decode cX6_takeWords 20 = .ok (.iload_n 1, 1) := by decide +kernel
theorem dX6_takeWords_21 : decode cX6_takeWords 21 = .ok (.iconst (-1), 1) := by decide +kernel
theorem dX6_takeWords_22 : decode cX6_takeWords 22 = .ok (.iastore, 1) := by decide +kernel
theorem dX6_takeWords_23 : decode cX6_takeWords 23 = .ok (.iinc 1 1, 3) := by decide +kernel
theorem dX6_takeWords_26 : decode cX6_takeWords 26 = .ok (.goto (-19), 3) := by decide +kernel
theorem dX6_takeWords_29 : decode cX6_takeWords 29 = .ok (.iconst 0, 1) := by decide +kernel
theorem dX6_takeWords_30 : decode cX6_takeWords 30 = .ok (.istore_n 1, 1) := by decide +kernel
theorem dX6_takeWords_31 : decode cX6_takeWords 31 = .ok (.iconst 0, 1) := by decide +kernel
theorem dX6_takeWords_32 : decode cX6_takeWords 32 = .ok (.istore_n 2, 1) := by decide +kernel
theorem dX6_takeWords_33 : decode cX6_takeWords 33 = .ok (.iload_n 2, 1) := by decide +kernel
theorem dX6_takeWords_34 : decode cX6_takeWords 34 = .ok (.ldc 9, 2) := by decide +kernel
theorem dX6_takeWords_36 : decode cX6_takeWords 36 = .ok (.invokevirtual 11, 3) := by decide +kernel
theorem dX6_takeWords_39 : decode cX6_takeWords 39 = .ok (.if_icmp .gt 42, 3) := by decide +kernel
theorem dX6_takeWords_42 : decode cX6_takeWords 42 = .ok (.iload_n 2, 1) := by decide +kernel
theorem dX6_takeWords_43 : decode cX6_takeWords 43 = .ok (.ldc 9, 2) := by decide +kernel
theorem dX6_takeWords_45 : decode cX6_takeWords 45 = .ok (.invokevirtual 11, 3) := by decide +kernel
theorem dX6_takeWords_48 : decode cX6_takeWords 48 = .ok (.if_icmp .eq 14, 3) := by decide +kernel
theorem dX6_takeWords_51 : decode cX6_takeWords 51 = .ok (.ldc 9, 2) := by decide +kernel
theorem dX6_takeWords_53 : decode cX6_takeWords 53 = .ok (.iload_n 2, 1) := by decide +kernel
theorem dX6_takeWords_54 : decode cX6_takeWords 54 = .ok (.invokevirtual 50, 3) := by decide +kernel
theorem dX6_takeWords_57 : decode cX6_takeWords 57 = .ok (.bipush 32, 2) := by decide +kernel
theorem dX6_takeWords_59 : decode cX6_takeWords 59 = .ok (.if_icmp .ne 16, 3) := by decide +kernel
theorem dX6_takeWords_62 : decode cX6_takeWords 62 = .ok (.aload_n 0, 1) := by decide +kernel
theorem dX6_takeWords_63 : decode cX6_takeWords 63 = .ok (.iload_n 1, 1) := by decide +kernel
theorem dX6_takeWords_64 : decode cX6_takeWords 64 = .ok (.iload_n 2, 1) := by decide +kernel
theorem dX6_takeWords_65 : decode cX6_takeWords 65 = .ok (.iload_n 1, 1) := by decide +kernel
theorem dX6_takeWords_66 : decode cX6_takeWords 66 = .ok (.isub, 1) := by decide +kernel
theorem dX6_takeWords_67 : decode cX6_takeWords 67 = .ok (.invokevirtual 122, 3) := by decide +kernel
theorem dX6_takeWords_70 : decode cX6_takeWords 70 = .ok (.pop, 1) := by decide +kernel
theorem dX6_takeWords_71 : decode cX6_takeWords 71 = .ok (.iload_n 2, 1) := by decide +kernel
theorem dX6_takeWords_72 : decode cX6_takeWords 72 = .ok (.iconst 1, 1) := by decide +kernel
theorem dX6_takeWords_73 : decode cX6_takeWords 73 = .ok (.iadd, 1) := by decide +kernel
theorem dX6_takeWords_74 : decode cX6_takeWords 74 = .ok (.istore_n 1, 1) := by decide +kernel
theorem dX6_takeWords_75 : decode cX6_takeWords 75 = .ok (.iinc 2 1, 3) := by decide +kernel
theorem dX6_takeWords_78 : decode cX6_takeWords 78 = .ok (.goto (-45), 3) := by decide +kernel
theorem dX6_takeWords_81 : decode cX6_takeWords 81 = .ok (.return_, 1) := by decide +kernel
theorem dX8_add_0 : decode cX8_add 0 = .ok (.aload_n 0, 1) := by decide +kernel
theorem dX8_add_1 : decode cX8_add 1 = .ok (.getfield 46, 3) := by decide +kernel
theorem dX8_add_4 : decode cX8_add 4 = .ok (.sipush 3016, 3) := by decide +kernel
theorem dX8_add_7 : decode cX8_add 7 = .ok (.if_icmp .lt 5, 3) := by decide +kernel
theorem dX8_add_12 : decode cX8_add 12 = .ok (.aload_n 0, 1) := by decide +kernel
theorem dX8_add_13 : decode cX8_add 13 = .ok (.getfield 46, 3) := by decide +kernel
theorem dX8_add_16 : decode cX8_add 16 = .ok (.istore_n 3, 1) := by decide +kernel
theorem dX8_add_17 : decode cX8_add 17 = .ok (.aload_n 0, 1) := by decide +kernel
theorem dX8_add_18 : decode cX8_add 18 = .ok (.dup, 1) := by decide +kernel
theorem dX8_add_19 : decode cX8_add 19 = .ok (.getfield 46, 3) := by decide +kernel
theorem dX8_add_22 : decode cX8_add 22 = .ok (.iconst 1, 1) := by decide +kernel
theorem dX8_add_23 : decode cX8_add 23 = .ok (.iadd, 1) := by decide +kernel
theorem dX8_add_24 : decode cX8_add 24 = .ok (.putfield 46, 3) := by decide +kernel
theorem dX8_add_27 : decode cX8_add 27 = .ok (.aload_n 0, 1) := by decide +kernel
theorem dX8_add_28 : decode cX8_add 28 = .ok (.getfield 9, 3) := by decide +kernel
theorem dX8_add_31 : decode cX8_add 31 = .ok (.iload_n 3, 1) := by decide +kernel
theorem dX8_add_32 : decode cX8_add 32 = .ok (.iload_n 1, 1) := by decide +kernel
theorem dX8_add_33 : decode cX8_add 33 = .ok (.iastore, 1) := by decide +kernel
theorem dX8_add_34 : decode cX8_add 34 = .ok (.aload_n 0, 1) := by decide +kernel
theorem dX8_add_35 : decode cX8_add 35 = .ok (.getfield 15, 3) := by decide +kernel
theorem dX8_add_38 : decode cX8_add 38 = .ok (.iload_n 3, 1) := by decide +kernel
theorem dX8_add_39 : decode cX8_add 39 = .ok (.iload_n 2, 1) := by decide +kernel
theorem dX8_add_40 : decode cX8_add 40 = .ok (.iastore, 1) := by decide +kernel
theorem dX8_add_41 : decode cX8_add 41 = .ok (.aload_n 0, 1) := by decide +kernel
theorem dX8_add_42 : decode cX8_add 42 = .ok (.getfield 18, 3) := by decide +kernel
theorem dX8_add_45 : decode cX8_add 45 = .ok (.iload_n 3, 1) := by decide +kernel
theorem dX8_add_46 : decode cX8_add 46 = .ok (.iload_n 2, 1) := by decide +kernel
theorem dX8_add_47 : decode cX8_add 47 = .ok (.iastore, 1) := by decide +kernel
theorem dX8_add_48 : decode cX8_add 48 = .ok (.aload_n 0, 1) := by decide +kernel
theorem dX8_add_49 : decode cX8_add 49 = .ok (.getfield 21, 3) := by decide +kernel
theorem dX8_add_52 : decode cX8_add 52 = .ok (.iload_n 3, 1) := by decide +kernel
theorem dX8_add_53 : decode cX8_add 53 = .ok (.iconst 0, 1) := by decide +kernel
theorem dX8_add_54 : decode cX8_add 54 = .ok (.iastore, 1) := by decide +kernel
theorem dX8_add_55 : decode cX8_add 55 = .ok (.aload_n 0, 1) := by decide +kernel
theorem dX8_add_56 : decode cX8_add 56 = .ok (.getfield 24, 3) := by decide +kernel
theorem dX8_add_59 : decode cX8_add 59 = .ok (.iload_n 3, 1) := by decide +kernel
theorem dX8_add_60 : decode cX8_add 60 = .ok (.iconst 0, 1) := by decide +kernel
theorem dX8_add_61 : decode cX8_add 61 = .ok (.iastore, 1) := by decide +kernel
theorem dX8_add_62 : decode cX8_add 62 = .ok (.aload_n 0, 1) := by decide +kernel
theorem dX8_add_63 : decode cX8_add 63 = .ok (.getfield 27, 3) := by decide +kernel
theorem dX8_add_66 : decode cX8_add 66 = .ok (.iload_n 3, 1) := by decide +kernel
theorem dX8_add_67 : decode cX8_add 67 = .ok (.iconst 0, 1) := by decide +kernel
theorem dX8_add_68 : decode cX8_add 68 = .ok (.iastore, 1) := by decide +kernel
theorem dX8_add_69 : decode cX8_add 69 = .ok (.aload_n 0, 1) := by decide +kernel
theorem dX8_add_70 : decode cX8_add 70 = .ok (.getfield 30, 3) := by decide +kernel
theorem dX8_add_73 : decode cX8_add 73 = .ok (.iload_n 3, 1) := by decide +kernel
theorem dX8_add_74 : decode cX8_add 74 = .ok (.iconst 0, 1) := by decide +kernel
theorem dX8_add_75 : decode cX8_add 75 = .ok (.iastore, 1) := by decide +kernel
theorem dX8_add_76 : decode cX8_add 76 = .ok (.aload_n 0, 1) := by decide +kernel
theorem dX8_add_77 : decode cX8_add 77 = .ok (.getfield 33, 3) := by decide +kernel
theorem dX8_add_80 : decode cX8_add 80 = .ok (.iload_n 3, 1) := by decide +kernel
theorem dX8_add_81 : decode cX8_add 81 = .ok (.iconst 0, 1) := by decide +kernel
theorem dX8_add_82 : decode cX8_add 82 = .ok (.iastore, 1) := by decide +kernel
theorem dX8_add_83 : decode cX8_add 83 = .ok (.aload_n 0, 1) := by decide +kernel
theorem dX8_add_84 : decode cX8_add 84 = .ok (.getfield 36, 3) := by decide +kernel
theorem dX8_add_87 : decode cX8_add 87 = .ok (.iload_n 3, 1) := by decide +kernel
theorem dX8_add_88 : decode cX8_add 88 = .ok (.lconst 0, 1) := by decide +kernel
theorem dX8_add_89 : decode cX8_add 89 = .ok (.lastore, 1) := by decide +kernel
theorem dX8_add_90 : decode cX8_add 90 = .ok (.aload_n 0, 1) := by decide +kernel
theorem dX8_add_91 : decode cX8_add 91 = .ok (.getfield 40, 3) := by decide +kernel
theorem dX8_add_94 : decode cX8_add 94 = .ok (.iload_n 3, 1) := by decide +kernel
theorem dX8_add_95 : decode cX8_add 95 = .ok (.iconst 0, 1) := by decide +kernel
theorem dX8_add_96 : decode cX8_add 96 = .ok (.iastore, 1) := by decide +kernel
theorem dX8_add_97 : decode cX8_add 97 = .ok (.aload_n 0, 1) := by decide +kernel
theorem dX8_add_98 : decode cX8_add 98 = .ok (.getfield 43, 3) := by decide +kernel
theorem dX8_add_101 : decode cX8_add 101 = .ok (.iload_n 3, 1) := by decide +kernel
theorem dX8_add_102 : decode cX8_add 102 = .ok (.iconst 0, 1) := by decide +kernel
theorem dX8_add_103 : decode cX8_add 103 = .ok (.iastore, 1) := by decide +kernel
theorem dX8_add_104 : decode cX8_add 104 = .ok (.iload_n 3, 1) := by decide +kernel
theorem dX8_add_105 : decode cX8_add 105 = .ok (.ireturn, 1) := by decide +kernel
theorem dX8_clear_0 : decode cX8_clear 0 = .ok (.aload_n 0, 1) := by decide +kernel
theorem dX8_clear_1 : decode cX8_clear 1 = .ok (.iconst 1, 1) := by decide +kernel
theorem dX8_clear_2 : decode cX8_clear 2 = .ok (.putfield 46, 3) := by decide +kernel
theorem dX8_clear_5 : decode cX8_clear 5 = .ok (.return_, 1) := by decide +kernel
section G7
variable {X : GX} {cc : ByteArray} {nL : Nat} {own : String} {ret : Option FieldType} {a b : Nat} {ws : va_W} {lv : List (Nat × Value)} {pc z : Nat} {st : List Value}
theorem g_copyB {index o0 o1 n0 n1 fr lo mc ms : Nat} {f g : Nat → Int32} {sp dp n : Int32} {w2 : va_W} (C : GC X cc nL own ret) (hR : GR X fr lo mc ms) (hdg : decode cc pc = .ok (.invokestatic index, 3)) (hlk : Cond.methodLink own index arraycopyName ∈ TBL) (hnat : Cond.native arraycopyName ∈ TBL) (hstt : Cond.static arraycopyName ∈ TBL) (hini : Cond.initialized "java/lang/System" ∈ TBL) (j0 j1 : Nat) (he0 : ws[j0]? = some (o0, .inl (gK X 2, n0, .inl f))) (he1 : ws[j1]? = some (o1, .inl (gK X 2, n1, .inl g))) (h1 : ¬ sp < 0) (h2 : ¬ dp < 0) (h3 : ¬ n < 0) (h4 : sp.toNatClampNeg + n.toNatClampNeg ≤ n0) (h5 : dp.toNatClampNeg + n.toNatClampNeg ≤ n1) (hfit : ∀ i, i < n.toNatClampNeg → fits .byte (.int (f (sp.toNatClampNeg + i))) = true) (hfr : 1 ≤ fr) (hlo : (st.map fun v => v.category).sum + (nativeFrameWords "java/lang/System" "arraycopy" 5 + 11) ≤ lo) (hw2 : ws.set j1 (o1, .inl (gK X 2, n1, .inl (va_cpy f g sp.toNatClampNeg dp.toNatClampNeg n.toNatClampNeg))) = w2) (hz : pc + 3 = z) (k : G X a b w2 lv z st) : G X a b ws lv pc (.int n :: .int dp :: .ref o1 :: .int sp :: .ref o0 :: st) := fun H locs ls hP hD hS hl => by
  subst hz; subst hw2
  exact va_copyi C.1 C.2.1 (C.2.2.2.1.trans (C.2.2.2.2.1.symm.trans hl.1.symm)) C.2.2.2.2.2.1 (C.2.2.2.2.2.2.1 _ hlk) (C.2.2.2.2.2.2.1 _ hnat) (C.2.2.2.2.2.2.1 _ hstt) (C.2.2.2.2.2.2.1 _ hini) C.2.2.2.2.2.2.2.1 hP hD hS j0 j1 2 2 he0 he1 rfl rfl rfl h1 h2 h3 h4 h5 hfit (by rw [hR]; exact hfr) (by rw [hR]; exact hlo) hdg (fun H locs hP hD hS => k H locs ls hP hD hS hl)
theorem g_min {index fr lo mc ms : Nat} {x y v : Int32} (C : GC X cc nL own ret) (hR : GR X fr lo mc ms) (hdg : decode cc pc = .ok (.invokestatic index, 3)) (hlk : Cond.methodLink own index Lib.Math.min.name ∈ TBL) (hstt : Cond.static Lib.Math.min.name ∈ TBL) (hini : Cond.initialized "java/lang/Math" ∈ TBL) (hcd : Cond.code Lib.Math.min.name Lib.Math.min.code 2 (some .int) ∈ TBL) (hfr : 1 ≤ fr) (hlo : (st.map fun v => v.category).sum + 13 ≤ lo) (ha : a ≤ mc) (hb : b ≤ ms) (hv : (if y < x then y else x) = v) (hz : pc + 3 = z) (k : G X a b ws lv z (.int v :: st)) : G X a b ws lv pc (.int y :: .int x :: st) := fun H locs ls hP hD hS hl => by
  subst hz; subst hv
  exact va_mmin C.1 C.2.1 (C.2.2.2.1.trans (C.2.2.2.2.1.symm.trans hl.1.symm)) C.2.2.2.2.2.1 (C.2.2.2.2.2.2.1 _ hlk) (C.2.2.2.2.2.2.1 _ hstt) (C.2.2.2.2.2.2.1 _ hini) (C.2.2.2.2.2.2.1 _ hcd) (by rw [hR]; exact hfr) (by rw [hR]; exact hlo) (by rw [hR]; exact ha) (by rw [hR]; exact hb) hdg (k H locs ls hP hD hS hl)
end G7
set_option maxHeartbeats 4000000 in
set_option maxRecDepth 100000 in
/-- takeWords: it ends, within its rows -/
theorem k_takeWords (l : Launch) (D : va_G) (K : KS) (h0 h1 pP pS pL pN pH pK pO pV : Nat) (xat xend xtok xcur xkind xpos xopen xwrong : Int32) (xn : Int32) (f fS fL fN fH : Nat → Int32) : Con l D K yX6_takeWords cX6_takeWords 3 none 4 85 0 0 [.ref h0] [(h0, .inr (2, [.ref h1, .ref pP, .ref pS, .ref pL, .ref pN, .ref pH, .int xn, .int xat, .int xend, .ref pK, .ref pO, .ref pV, .int xtok, .int xcur, .int xkind, .int xpos, .int xopen, .int xwrong])), (pP, .inl (K 2, 3157, .inl (f))), (pS, .inl (K 0, 1544, .inl (fS))), (pL, .inl (K 0, 1544, .inl (fL))), (pN, .inl (K 0, 1544, .inl (fN))), (pH, .inl (K 0, 256, .inl (fH)))] (fun v w => v = none ∧ ∃ (n : Nat) (gS gL gN gH : Nat → Int32), w = [(h0, .inr (2, [.ref h1, .ref pP, .ref pS, .ref pL, .ref pN, .ref pH, .int (nI n), .int xat, .int xend, .ref pK, .ref pO, .ref pV, .int xtok, .int xcur, .int xkind, .int xpos, .int xopen, .int xwrong])), (pP, .inl (K 2, 3157, .inl (f))), (pS, .inl (K 0, 1544, .inl (gS))), (pL, .inl (K 0, 1544, .inl (gL))), (pN, .inl (K 0, 1544, .inl (gN))), (pH, .inl (K 0, 256, .inl (gH)))]) := by
  refine Con.of (by decide +kernel) (Nat.le_of_ble_eq_true rfl) ?_
  intro X hXl hXD hXK C hR hQ hnm
  subst hXl; subst hXD; subst hXK
  refine g_lv (l2 := [(0, .ref h0)]) [0] rfl ?_
  refine g_aload_n (z := 1) C dX6_takeWords_0 0 rfl rfl rfl ?_
  refine g_iconst (v := 0) (z := 2) C dX6_takeWords_1 (by decide) rfl ?_
  refine g_put (w2 := [(h0, .inr (2, [.ref h1, .ref pP, .ref pS, .ref pL, .ref pN, .ref pH, .int 0, .int xat, .int xend, .ref pK, .ref pO, .ref pV, .int xtok, .int xcur, .int xkind, .int xpos, .int xopen, .int xwrong])), (pP, .inl (gK X 2, 3157, .inl (f))), (pS, .inl (gK X 0, 1544, .inl (fS))), (pL, .inl (gK X 0, 1544, .inl (fL))), (pN, .inl (gK X 0, 1544, .inl (fN))), (pH, .inl (gK X 0, 256, .inl (fH)))]) (z := 5) C kX6 dX6_takeWords_2 0 rfl 6 (by decide) w_162 rfl rfl rfl rfl (Nat.le_of_ble_eq_true rfl) rfl rfl ?_
  refine g_iconst (v := 0) (z := 6) C dX6_takeWords_5 (by decide) rfl ?_
  refine g_istore_n (l2 := [(1, .int 0), (0, .ref h0)]) (z := 7) C dX6_takeWords_6 rfl (by decide) rfl rfl ?_
  have first : ∀ (k i : Nat) (x : Int32) (gH : Nat → Int32), x = nI i → i ≤ 256 → 257 ≤ i + k → (∀ j, j < i → gH j = -1) → G X 0 0 [(h0, .inr (2, [.ref h1, .ref pP, .ref pS, .ref pL, .ref pN, .ref pH, .int 0, .int xat, .int xend, .ref pK, .ref pO, .ref pV, .int xtok, .int xcur, .int xkind, .int xpos, .int xopen, .int xwrong])), (pP, .inl (gK X 2, 3157, .inl (f))), (pS, .inl (gK X 0, 1544, .inl (fS))), (pL, .inl (gK X 0, 1544, .inl (fL))), (pN, .inl (gK X 0, 1544, .inl (fN))), (pH, .inl (gK X 0, 256, .inl (gH)))] [(1, .int x), (0, .ref h0)] 7 [] := by
    intro k
    induction k with
    | zero => intro i x gH _ u1 u2; omega
    | succ k ih =>
      intro i x gH hx u1 u2 u3
      subst hx
      refine g_iload_n (z := 8) C dX6_takeWords_7 0 rfl rfl rfl ?_
      refine g_aload_n (z := 9) C dX6_takeWords_8 1 rfl rfl rfl ?_
      refine g_get (z := 12) C kX6 dX6_takeWords_9 0 rfl 5 (by decide) w_136 rfl rfl rfl ?_
      refine g_alen (v := 256) (z := 13) C dX6_takeWords_12 5 rfl 0 rfl (by decide) rfl ?_
      refine g_icmp_ge (z2 := 29) (z := 16) C dX6_takeWords_13 (by decide) rfl (fun hc => ?_) (fun hc => ?_)
      · have hi : i = 256 := by
          rcases Nat.lt_or_ge i 256 with q | q
          · exact absurd hc (nI_ge (a := i) (b := 256) q (by omega))
          · omega
        have hI0 : RI 0 fS fL fN gH := ⟨by omega, fun k hk => by omega, fun k hk => by omega, fun k hk => Or.inl (u3 k (by omega))⟩
        refine g_iconst (v := 0) (z := 30) C dX6_takeWords_29 (by decide) rfl ?_
        refine g_istore_n (l2 := [(1, .int 0), (0, .ref h0)]) (z := 31) C dX6_takeWords_30 rfl (by decide) rfl rfl ?_
        refine g_iconst (v := 0) (z := 32) C dX6_takeWords_31 (by decide) rfl ?_
        refine g_istore_n (l2 := [(2, .int 0), (1, .int 0), (0, .ref h0)]) (z := 33) C dX6_takeWords_32 rfl (by decide) rfl rfl ?_
        refine g_lv (l2 := [(2, .int 0), (1, .int 0), (0, .ref h0)]) [0, 1, 2] rfl ?_
        have second : ∀ (k i : Nat) (x y : Int32) (s n : Nat) (gS gL gN gG : Nat → Int32), x = nI i → y = nI s → i ≤ 158 → 159 ≤ i + k → s ≤ i → n ≤ i → RI n gS gL gN gG → G X 0 0 [(h0, .inr (2, [.ref h1, .ref pP, .ref pS, .ref pL, .ref pN, .ref pH, .int (nI n), .int xat, .int xend, .ref pK, .ref pO, .ref pV, .int xtok, .int xcur, .int xkind, .int xpos, .int xopen, .int xwrong])), (pP, .inl (gK X 2, 3157, .inl (f))), (pS, .inl (gK X 0, 1544, .inl (gS))), (pL, .inl (gK X 0, 1544, .inl (gL))), (pN, .inl (gK X 0, 1544, .inl (gN))), (pH, .inl (gK X 0, 256, .inl (gG)))] [(2, .int x), (1, .int y), (0, .ref h0)] 33 [] := by
          intro k
          induction k with
          | zero => intro i x y s n gS gL gN gG _ _ u1 u2; omega
          | succ k ih =>
            intro i x y s n gS gL gN gG hx hy u1 u2 hs hn hI
            subst hx; subst hy
            refine g_iload_n (z := 34) C dX6_takeWords_33 0 rfl rfl rfl ?_
            refine g_ldcS (z := 36) C dX6_takeWords_34 (evW C) rfl ?_
            refine g_callVE (n := 0) (As := []) (rest := [.int (nI i)]) (wr := [(h0, .inr (2, [.ref h1, .ref pP, .ref pS, .ref pL, .ref pN, .ref pH, .int (nI n), .int xat, .int xend, .ref pK, .ref pO, .ref pV, .int xtok, .int xcur, .int xkind, .int xpos, .int xopen, .int xwrong])), (pP, .inl (gK X 2, 3157, .inl (f))), (pS, .inl (gK X 0, 1544, .inl (gS))), (pL, .inl (gK X 0, 1544, .inl (gL))), (pN, .inl (gK X 0, 1544, .inl (gN))), (pH, .inl (gK X 0, 256, .inl (gG)))]) (a2 := 0) (b2 := 0) (z := 39) C hR (k_lengthW (gl X) (gD X) (gK X)) dX6_takeWords_36 w_131 w_721 w_722 w_720 w_391 ⟨by decide +kernel, by decide +kernel, by decide +kernel⟩ [] [0, 1, 2, 3, 4, 5] rfl rfl rfl rfl rfl (by decide) ⟨(Nat.le_of_ble_eq_true rfl), (Nat.le_of_ble_eq_true rfl)⟩ rfl rfl (Nat.le_of_ble_eq_true rfl) (Nat.le_of_ble_eq_true rfl) (Nat.le_of_ble_eq_true rfl) rfl rfl (evWo C) rfl rfl rfl (fun v ws' hp => ?_)
            obtain ⟨rfl, rfl⟩ := hp
            refine g_ws (w2 := [(h0, .inr (2, [.ref h1, .ref pP, .ref pS, .ref pL, .ref pN, .ref pH, .int (nI n), .int xat, .int xend, .ref pK, .ref pO, .ref pV, .int xtok, .int xcur, .int xkind, .int xpos, .int xopen, .int xwrong])), (pP, .inl (gK X 2, 3157, .inl (f))), (pS, .inl (gK X 0, 1544, .inl (gS))), (pL, .inl (gK X 0, 1544, .inl (gL))), (pN, .inl (gK X 0, 1544, .inl (gN))), (pH, .inl (gK X 0, 256, .inl (gG)))]) rfl ?_
            refine g_st (s2 := [.int 157, .int (nI i)]) rfl ?_
            refine g_icmp_gt (z2 := 81) (z := 42) C dX6_takeWords_39 (by decide) rfl (fun hc => ?_) (fun hc => ?_)
            · exact g_vret C hQ dX6_takeWords_81 (Nat.le_of_ble_eq_true rfl) (Nat.le_of_ble_eq_true rfl) ⟨rfl, n, gS, gL, gN, gG, rfl⟩
            · have hi : i ≤ 157 := by
                rcases Nat.lt_or_ge 157 i with q | q
                · exact absurd (nI_lt (a := 157) (b := i) q (by omega)) hc
                · exact q
              refine g_iload_n (z := 43) C dX6_takeWords_42 0 rfl rfl rfl ?_
              refine g_ldcS (z := 45) C dX6_takeWords_43 (evW C) rfl ?_
              refine g_callVE (n := 0) (As := []) (rest := [.int (nI i)]) (wr := [(h0, .inr (2, [.ref h1, .ref pP, .ref pS, .ref pL, .ref pN, .ref pH, .int (nI n), .int xat, .int xend, .ref pK, .ref pO, .ref pV, .int xtok, .int xcur, .int xkind, .int xpos, .int xopen, .int xwrong])), (pP, .inl (gK X 2, 3157, .inl (f))), (pS, .inl (gK X 0, 1544, .inl (gS))), (pL, .inl (gK X 0, 1544, .inl (gL))), (pN, .inl (gK X 0, 1544, .inl (gN))), (pH, .inl (gK X 0, 256, .inl (gG)))]) (a2 := 0) (b2 := 0) (z := 48) C hR (k_lengthW (gl X) (gD X) (gK X)) dX6_takeWords_45 w_131 w_721 w_722 w_720 w_391 ⟨by decide +kernel, by decide +kernel, by decide +kernel⟩ [] [0, 1, 2, 3, 4, 5] rfl rfl rfl rfl rfl (by decide) ⟨(Nat.le_of_ble_eq_true rfl), (Nat.le_of_ble_eq_true rfl)⟩ rfl rfl (Nat.le_of_ble_eq_true rfl) (Nat.le_of_ble_eq_true rfl) (Nat.le_of_ble_eq_true rfl) rfl rfl (evWo C) rfl rfl rfl (fun v ws' hp => ?_)
              obtain ⟨rfl, rfl⟩ := hp
              refine g_ws (w2 := [(h0, .inr (2, [.ref h1, .ref pP, .ref pS, .ref pL, .ref pN, .ref pH, .int (nI n), .int xat, .int xend, .ref pK, .ref pO, .ref pV, .int xtok, .int xcur, .int xkind, .int xpos, .int xopen, .int xwrong])), (pP, .inl (gK X 2, 3157, .inl (f))), (pS, .inl (gK X 0, 1544, .inl (gS))), (pL, .inl (gK X 0, 1544, .inl (gL))), (pN, .inl (gK X 0, 1544, .inl (gN))), (pH, .inl (gK X 0, 256, .inl (gG)))]) rfl ?_
              refine g_st (s2 := [.int 157, .int (nI i)]) rfl ?_
              refine g_icmp_eq (z2 := 62) (z := 51) C dX6_takeWords_48 (by decide) rfl (fun he => ?_) (fun he => ?_)
              · refine g_aload_n (z := 63) C dX6_takeWords_62 2 rfl rfl rfl ?_
                refine g_iload_n (z := 64) C dX6_takeWords_63 1 rfl rfl rfl ?_
                refine g_iload_n (z := 65) C dX6_takeWords_64 0 rfl rfl rfl ?_
                refine g_iload_n (z := 66) C dX6_takeWords_65 1 rfl rfl rfl ?_
                refine g_isub (v := nI (i - s)) (z := 67) C dX6_takeWords_66 (pk_sub hs) rfl ?_
                refine g_callV (n := 2) (As := [.int (nI s), .int (nI (i - s))]) (rest := []) (wr := []) (a2 := 0) (b2 := 0) (z := 70) C hR (k_nameOf (gl X) (gD X) (gK X) h0 h1 pP pS pL pN pH pK pO pV xat xend xtok xcur xkind xpos xopen xwrong f gS gL gN gG n s (i - s) hI (by omega) (by omega)) dX6_takeWords_67 w_163 w_165 w_166 w_164 w_16 ⟨by decide +kernel, by decide +kernel, by decide +kernel⟩ [0, 1, 2, 3, 4, 5] [] rfl rfl rfl rfl rfl (by decide) ⟨(Nat.le_of_ble_eq_true rfl), (Nat.le_of_ble_eq_true rfl)⟩ rfl rfl (Nat.le_of_ble_eq_true rfl) (Nat.le_of_ble_eq_true rfl) (Nat.le_of_ble_eq_true rfl) rfl rfl 0 kX6 rfl rfl rfl rfl (fun v ws' hp => ?_)
                obtain ⟨r, n2, jS, jL, jN, jG, hn2, hI2, rfl, rfl⟩ := hp
                refine g_ws (w2 := [(h0, .inr (2, [.ref h1, .ref pP, .ref pS, .ref pL, .ref pN, .ref pH, .int (nI n2), .int xat, .int xend, .ref pK, .ref pO, .ref pV, .int xtok, .int xcur, .int xkind, .int xpos, .int xopen, .int xwrong])), (pP, .inl (gK X 2, 3157, .inl (f))), (pS, .inl (gK X 0, 1544, .inl (jS))), (pL, .inl (gK X 0, 1544, .inl (jL))), (pN, .inl (gK X 0, 1544, .inl (jN))), (pH, .inl (gK X 0, 256, .inl (jG)))]) rfl ?_
                refine g_st (s2 := [.int r]) rfl ?_
                refine g_pop (z := 71) C dX6_takeWords_70 rfl rfl ?_
                refine g_iload_n (z := 72) C dX6_takeWords_71 0 rfl rfl rfl ?_
                refine g_iconst (v := 1) (z := 73) C dX6_takeWords_72 (by decide) rfl ?_
                refine g_iadd (v := nI (i + 1)) (z := 74) C dX6_takeWords_73 (nI_1 i) rfl ?_
                refine g_istore_n (l2 := [(1, .int (nI (i + 1))), (2, .int (nI i)), (0, .ref h0)]) (z := 75) C dX6_takeWords_74 rfl (by decide) rfl rfl ?_
                refine g_iinc (v := ((nI i) + 1)) (l2 := [(2, .int ((nI i) + 1)), (1, .int (nI (i + 1))), (0, .ref h0)]) (z := 78) C dX6_takeWords_75 1 rfl (by rfl) (by decide) rfl rfl ?_
                refine g_goto (z := 33) C dX6_takeWords_78 (by decide) ?_
                refine g_lv (l2 := [(2, .int ((nI i) + 1)), (1, .int (nI (i + 1))), (0, .ref h0)]) [0, 1, 2] rfl ?_
                exact ih (i + 1) _ _ (i + 1) n2 _ _ _ _ (nI_1 i) rfl (by omega) (by omega) (by omega) (by omega) hI2
              · have hi2 : i < 157 := by
                  rcases Nat.lt_or_ge i 157 with q | q
                  · exact q
                  · exact absurd (show nI i = 157 from by rw [show i = 157 by omega]; rfl) he
                refine g_ldcS (z := 53) C dX6_takeWords_51 (evW C) rfl ?_
                refine g_iload_n (z := 54) C dX6_takeWords_53 0 rfl rfl rfl ?_
                refine g_callVE (n := 1) (As := [.int (nI i)]) (rest := []) (wr := [(h0, .inr (2, [.ref h1, .ref pP, .ref pS, .ref pL, .ref pN, .ref pH, .int (nI n), .int xat, .int xend, .ref pK, .ref pO, .ref pV, .int xtok, .int xcur, .int xkind, .int xpos, .int xopen, .int xwrong])), (pP, .inl (gK X 2, 3157, .inl (f))), (pS, .inl (gK X 0, 1544, .inl (gS))), (pL, .inl (gK X 0, 1544, .inl (gL))), (pN, .inl (gK X 0, 1544, .inl (gN))), (pH, .inl (gK X 0, 256, .inl (gG)))]) (a2 := 0) (b2 := 0) (z := 57) C hR (k_charW (gl X) (gD X) (gK X) i hi2) dX6_takeWords_54 w_141 w_725 w_726 w_724 w_391 ⟨by decide +kernel, by decide +kernel, by decide +kernel⟩ [] [0, 1, 2, 3, 4, 5] rfl rfl rfl rfl rfl (by decide) ⟨(Nat.le_of_ble_eq_true rfl), (Nat.le_of_ble_eq_true rfl)⟩ rfl rfl (Nat.le_of_ble_eq_true rfl) (Nat.le_of_ble_eq_true rfl) (Nat.le_of_ble_eq_true rfl) rfl rfl (evWo C) rfl rfl rfl (fun v ws' hp => ?_)
                obtain ⟨⟨r, rfl⟩, rfl⟩ := hp
                refine g_ws (w2 := [(h0, .inr (2, [.ref h1, .ref pP, .ref pS, .ref pL, .ref pN, .ref pH, .int (nI n), .int xat, .int xend, .ref pK, .ref pO, .ref pV, .int xtok, .int xcur, .int xkind, .int xpos, .int xopen, .int xwrong])), (pP, .inl (gK X 2, 3157, .inl (f))), (pS, .inl (gK X 0, 1544, .inl (gS))), (pL, .inl (gK X 0, 1544, .inl (gL))), (pN, .inl (gK X 0, 1544, .inl (gN))), (pH, .inl (gK X 0, 256, .inl (gG)))]) rfl ?_
                refine g_st (s2 := [.int r]) rfl ?_
                refine g_bipush (v := 32) (z := 59) C dX6_takeWords_57 (by decide) rfl ?_
                refine g_icmp_ne (z2 := 75) (z := 62) C dX6_takeWords_59 (by decide) rfl (fun hb => ?_) (fun hb => ?_)
                · refine g_iinc (v := ((nI i) + 1)) (l2 := [(2, .int ((nI i) + 1)), (1, .int (nI s)), (0, .ref h0)]) (z := 78) C dX6_takeWords_75 0 rfl (by rfl) (by decide) rfl rfl ?_
                  refine g_goto (z := 33) C dX6_takeWords_78 (by decide) ?_
                  refine g_lv (l2 := [(2, .int ((nI i) + 1)), (1, .int (nI s)), (0, .ref h0)]) [0, 1, 2] rfl ?_
                  exact ih (i + 1) _ _ s n _ _ _ _ (nI_1 i) rfl (by omega) (by omega) (by omega) (by omega) hI
                · refine g_aload_n (z := 63) C dX6_takeWords_62 2 rfl rfl rfl ?_
                  refine g_iload_n (z := 64) C dX6_takeWords_63 1 rfl rfl rfl ?_
                  refine g_iload_n (z := 65) C dX6_takeWords_64 0 rfl rfl rfl ?_
                  refine g_iload_n (z := 66) C dX6_takeWords_65 1 rfl rfl rfl ?_
                  refine g_isub (v := nI (i - s)) (z := 67) C dX6_takeWords_66 (pk_sub hs) rfl ?_
                  refine g_callV (n := 2) (As := [.int (nI s), .int (nI (i - s))]) (rest := []) (wr := []) (a2 := 0) (b2 := 0) (z := 70) C hR (k_nameOf (gl X) (gD X) (gK X) h0 h1 pP pS pL pN pH pK pO pV xat xend xtok xcur xkind xpos xopen xwrong f gS gL gN gG n s (i - s) hI (by omega) (by omega)) dX6_takeWords_67 w_163 w_165 w_166 w_164 w_16 ⟨by decide +kernel, by decide +kernel, by decide +kernel⟩ [0, 1, 2, 3, 4, 5] [] rfl rfl rfl rfl rfl (by decide) ⟨(Nat.le_of_ble_eq_true rfl), (Nat.le_of_ble_eq_true rfl)⟩ rfl rfl (Nat.le_of_ble_eq_true rfl) (Nat.le_of_ble_eq_true rfl) (Nat.le_of_ble_eq_true rfl) rfl rfl 0 kX6 rfl rfl rfl rfl (fun v ws' hp => ?_)
                  obtain ⟨r, n2, jS, jL, jN, jG, hn2, hI2, rfl, rfl⟩ := hp
                  refine g_ws (w2 := [(h0, .inr (2, [.ref h1, .ref pP, .ref pS, .ref pL, .ref pN, .ref pH, .int (nI n2), .int xat, .int xend, .ref pK, .ref pO, .ref pV, .int xtok, .int xcur, .int xkind, .int xpos, .int xopen, .int xwrong])), (pP, .inl (gK X 2, 3157, .inl (f))), (pS, .inl (gK X 0, 1544, .inl (jS))), (pL, .inl (gK X 0, 1544, .inl (jL))), (pN, .inl (gK X 0, 1544, .inl (jN))), (pH, .inl (gK X 0, 256, .inl (jG)))]) rfl ?_
                  refine g_st (s2 := [.int r]) rfl ?_
                  refine g_pop (z := 71) C dX6_takeWords_70 rfl rfl ?_
                  refine g_iload_n (z := 72) C dX6_takeWords_71 0 rfl rfl rfl ?_
                  refine g_iconst (v := 1) (z := 73) C dX6_takeWords_72 (by decide) rfl ?_
                  refine g_iadd (v := nI (i + 1)) (z := 74) C dX6_takeWords_73 (nI_1 i) rfl ?_
                  refine g_istore_n (l2 := [(1, .int (nI (i + 1))), (2, .int (nI i)), (0, .ref h0)]) (z := 75) C dX6_takeWords_74 rfl (by decide) rfl rfl ?_
                  refine g_iinc (v := ((nI i) + 1)) (l2 := [(2, .int ((nI i) + 1)), (1, .int (nI (i + 1))), (0, .ref h0)]) (z := 78) C dX6_takeWords_75 1 rfl (by rfl) (by decide) rfl rfl ?_
                  refine g_goto (z := 33) C dX6_takeWords_78 (by decide) ?_
                  refine g_lv (l2 := [(2, .int ((nI i) + 1)), (1, .int (nI (i + 1))), (0, .ref h0)]) [0, 1, 2] rfl ?_
                  exact ih (i + 1) _ _ (i + 1) n2 _ _ _ _ (nI_1 i) rfl (by omega) (by omega) (by omega) (by omega) hI2
        exact second 159 0 0 0 0 0 _ _ _ _ nI_0.symm nI_0.symm (by omega) (by omega) (by omega) (by omega) hI0
      · have hi : i < 256 := by
          rcases Nat.lt_or_ge i 256 with q | q
          · exact q
          · exact absurd (nI_le (a := 256) (b := i) q (by omega)) hc
        refine g_aload_n (z := 17) C dX6_takeWords_16 1 rfl rfl rfl ?_
        refine g_get (z := 20) C kX6 dX6_takeWords_17 0 rfl 5 (by decide) w_136 rfl rfl rfl ?_
        refine g_iload_n (z := 21) C dX6_takeWords_20 0 rfl rfl rfl ?_
        refine g_iconst (v := (-1)) (z := 22) C dX6_takeWords_21 (by decide) rfl ?_
        refine g_iast (w2 := [(h0, .inr (2, [.ref h1, .ref pP, .ref pS, .ref pL, .ref pN, .ref pH, .int 0, .int xat, .int xend, .ref pK, .ref pO, .ref pV, .int xtok, .int xcur, .int xkind, .int xpos, .int xopen, .int xwrong])), (pP, .inl (gK X 2, 3157, .inl (f))), (pS, .inl (gK X 0, 1544, .inl (fS))), (pL, .inl (gK X 0, 1544, .inl (fL))), (pN, .inl (gK X 0, 1544, .inl (fN))), (pH, .inl (gK X 0, 256, .inl (upd (gH) ((nI i) : Int32).toNatClampNeg (-1))))]) (z := 23) C dX6_takeWords_22 5 rfl (vp_in_nI (by omega) (by omega)) rfl rfl ?_
        rw [nI_clamp (by omega : i < 2 ^ 31)]
        refine g_iinc (v := ((nI i) + 1)) (l2 := [(1, .int ((nI i) + 1)), (0, .ref h0)]) (z := 26) C dX6_takeWords_23 0 rfl (by rfl) (by decide) rfl rfl ?_
        refine g_goto (z := 7) C dX6_takeWords_26 (by decide) ?_
        refine ih (i + 1) _ _ (nI_1 i) (by omega) (by omega) ?_
        intro j hj
        by_cases e : j = i
        · rw [e, pk_us]
        · rw [pk_un e]; exact u3 j (by omega)
  exact first 257 0 0 _ nI_0.symm (by omega) (by omega) (fun j hj => by omega)
set_option maxHeartbeats 4000000 in
set_option maxRecDepth 100000 in
/-- skipBlanks at the end -/
theorem k_skip (l : Launch) (D : va_G) (K : KS) (h0 h1 pP pS pL pN pH pK pO pV : Nat) (xat xend xtok xcur xkind xpos xopen xwrong : Int32) (xn : Int32) : Con l D K yX6_skipBlanks cX6_skipBlanks 5 none 0 0 0 0 [.ref h0] [(h0, .inr (2, [.ref h1, .ref pP, .ref pS, .ref pL, .ref pN, .ref pH, .int xn, .int 157, .int 157, .ref pK, .ref pO, .ref pV, .int xtok, .int xcur, .int xkind, .int xpos, .int xopen, .int xwrong]))] (fun v w => v = none ∧ w = [(h0, .inr (2, [.ref h1, .ref pP, .ref pS, .ref pL, .ref pN, .ref pH, .int xn, .int 157, .int 157, .ref pK, .ref pO, .ref pV, .int xtok, .int xcur, .int xkind, .int xpos, .int xopen, .int xwrong]))]) := by
  refine Con.of (by decide +kernel) (Nat.le_of_ble_eq_true rfl) ?_
  intro X hXl hXD hXK C hR hQ hnm
  subst hXl; subst hXD; subst hXK
  refine g_lv (l2 := [(0, .ref h0)]) [0] rfl ?_
  refine g_iconst (v := 0) (z := 1) C dX6_skipBlanks_0 (by decide) rfl ?_
  refine g_istore_n (l2 := [(1, .int 0), (0, .ref h0)]) (z := 2) C dX6_skipBlanks_1 rfl (by decide) rfl rfl ?_
  refine g_aload_n (z := 3) C dX6_skipBlanks_2 1 rfl rfl rfl ?_
  refine g_get (z := 6) C kX6 dX6_skipBlanks_3 0 rfl 7 (by decide) w_149 rfl rfl rfl ?_
  refine g_aload_n (z := 7) C dX6_skipBlanks_6 1 rfl rfl rfl ?_
  refine g_get (z := 10) C kX6 dX6_skipBlanks_7 0 rfl 8 (by decide) w_150 rfl rfl rfl ?_
  refine g_icmp_ge_t (z := 127) C dX6_skipBlanks_10 (by decide) (by decide) ?_
  exact g_vret C hQ dX6_skipBlanks_127 (Nat.le_of_ble_eq_true rfl) (Nat.le_of_ble_eq_true rfl) ⟨rfl, rfl⟩
set_option maxHeartbeats 4000000 in
set_option maxRecDepth 100000 in
/-- takeTokens of no bytes: the end alone -/
theorem k_takeTokens (l : Launch) (D : va_G) (K : KS) (h0 h1 pP pS pL pN pH pK pO pV : Nat) (xat xend xtok xcur xkind xpos xopen xwrong : Int32) (xn : Int32) : Con l D K yX6_takeTokens cX6_takeTokens 3 none 2 40 0 0 [.ref h0] [(h0, .inr (2, [.ref h1, .ref pP, .ref pS, .ref pL, .ref pN, .ref pH, .int xn, .int 157, .int 157, .ref pK, .ref pO, .ref pV, .int xtok, .int xcur, .int xkind, .int xpos, .int xopen, .int xwrong])), (pK, .inl (K 0, 3001, .inl (fun _ => 0))), (pO, .inl (K 0, 3001, .inl (fun _ => 0)))] (fun v w => v = none ∧ w = [(h0, .inr (2, [.ref h1, .ref pP, .ref pS, .ref pL, .ref pN, .ref pH, .int xn, .int 157, .int 157, .ref pK, .ref pO, .ref pV, .int 1, .int xcur, .int xkind, .int xpos, .int xopen, .int xwrong])), (pK, .inl (K 0, 3001, .inl (upd (fun _ => 0) (0 : Int32).toNatClampNeg 0))), (pO, .inl (K 0, 3001, .inl (upd (fun _ => 0) (0 : Int32).toNatClampNeg 0)))]) := by
  refine Con.of (by decide +kernel) (Nat.le_of_ble_eq_true rfl) ?_
  intro X hXl hXD hXK C hR hQ hnm
  subst hXl; subst hXD; subst hXK
  refine g_lv (l2 := [(0, .ref h0)]) [0] rfl ?_
  refine g_aload_n (z := 1) C dX6_takeTokens_0 0 rfl rfl rfl ?_
  refine g_iconst (v := 0) (z := 2) C dX6_takeTokens_1 (by decide) rfl ?_
  refine g_put (w2 := [(h0, .inr (2, [.ref h1, .ref pP, .ref pS, .ref pL, .ref pN, .ref pH, .int xn, .int 157, .int 157, .ref pK, .ref pO, .ref pV, .int 0, .int xcur, .int xkind, .int xpos, .int xopen, .int xwrong])), (pK, .inl (gK X 0, 3001, .inl (fun _ => 0))), (pO, .inl (gK X 0, 3001, .inl (fun _ => 0)))]) (z := 5) C kX6 dX6_takeTokens_2 0 rfl 12 (by decide) w_174 rfl rfl rfl rfl (Nat.le_of_ble_eq_true rfl) rfl rfl ?_
  refine g_iconst (v := 1) (z := 6) C dX6_takeTokens_5 (by decide) rfl ?_
  refine g_istore_n (l2 := [(1, .int 1), (0, .ref h0)]) (z := 7) C dX6_takeTokens_6 rfl (by decide) rfl rfl ?_
  refine g_iconst (v := 0) (z := 8) C dX6_takeTokens_7 (by decide) rfl ?_
  refine g_istore_n (l2 := [(2, .int 0), (1, .int 1), (0, .ref h0)]) (z := 9) C dX6_takeTokens_8 rfl (by decide) rfl rfl ?_
  refine g_iload_n (z := 10) C dX6_takeTokens_9 0 rfl rfl rfl ?_
  refine g_sipush (v := 3000) (z := 13) C dX6_takeTokens_10 (by decide) rfl ?_
  refine g_icmp_gt_f (z := 16) 140 C dX6_takeTokens_13 (by decide) (by decide) rfl ?_
  refine g_iload_n (z := 17) C dX6_takeTokens_16 1 rfl rfl rfl ?_
  refine g_if_eq_f (z := 20) 140 C dX6_takeTokens_17 (by decide) (by decide) rfl ?_
  refine g_iload_n (z := 21) C dX6_takeTokens_20 1 rfl rfl rfl ?_
  refine g_iconst (v := 3) (z := 22) C dX6_takeTokens_21 (by decide) rfl ?_
  refine g_icmp_eq_f (z := 25) 140 C dX6_takeTokens_22 (by decide) (by decide) rfl ?_
  refine g_aload_n (z := 26) C dX6_takeTokens_25 2 rfl rfl rfl ?_
  refine g_callV (n := 0) (As := []) (rest := []) (wr := [(pK, .inl (gK X 0, 3001, .inl (fun _ => 0))), (pO, .inl (gK X 0, 3001, .inl (fun _ => 0)))]) (a2 := 0) (b2 := 0) (z := 29) C hR (k_skip (gl X) (gD X) (gK X) h0 h1 pP pS pL pN pH pK pO pV 157 157 0 xcur xkind xpos xopen xwrong xn) dX6_takeTokens_26 w_175 w_177 w_178 w_176 w_16 ⟨by decide +kernel, by decide +kernel, by decide +kernel⟩ [0] [1, 2] rfl rfl rfl rfl rfl (by decide) ⟨(Nat.le_of_ble_eq_true rfl), (Nat.le_of_ble_eq_true rfl)⟩ rfl rfl (Nat.le_of_ble_eq_true rfl) (Nat.le_of_ble_eq_true rfl) (Nat.le_of_ble_eq_true rfl) rfl rfl 0 kX6 rfl rfl rfl rfl (fun v ws' hp => ?_)
  obtain ⟨rfl, rfl⟩ := hp
  refine g_ws (w2 := [(pK, .inl (gK X 0, 3001, .inl (fun _ => 0))), (pO, .inl (gK X 0, 3001, .inl (fun _ => 0))), (h0, .inr (2, [.ref h1, .ref pP, .ref pS, .ref pL, .ref pN, .ref pH, .int xn, .int 157, .int 157, .ref pK, .ref pO, .ref pV, .int 0, .int xcur, .int xkind, .int xpos, .int xopen, .int xwrong]))]) rfl ?_
  refine g_st (s2 := []) rfl ?_
  refine g_sub (w2 := [(h0, .inr (2, [.ref h1, .ref pP, .ref pS, .ref pL, .ref pN, .ref pH, .int xn, .int 157, .int 157, .ref pK, .ref pO, .ref pV, .int 0, .int xcur, .int xkind, .int xpos, .int xopen, .int xwrong])), (pK, .inl (gK X 0, 3001, .inl (fun _ => 0))), (pO, .inl (gK X 0, 3001, .inl (fun _ => 0)))]) [2, 0, 1] rfl rfl rfl ?_
  refine g_aload_n (z := 30) C dX6_takeTokens_29 2 rfl rfl rfl ?_
  refine g_get (z := 33) C kX6 dX6_takeTokens_30 0 rfl 10 (by decide) w_138 rfl rfl rfl ?_
  refine g_aload_n (z := 34) C dX6_takeTokens_33 2 rfl rfl rfl ?_
  refine g_get (z := 37) C kX6 dX6_takeTokens_34 0 rfl 12 (by decide) w_174 rfl rfl rfl ?_
  refine g_aload_n (z := 38) C dX6_takeTokens_37 2 rfl rfl rfl ?_
  refine g_get (z := 41) C kX6 dX6_takeTokens_38 0 rfl 7 (by decide) w_149 rfl rfl rfl ?_
  refine g_ldcS (z := 43) C dX6_takeTokens_41 (evW C) rfl ?_
  refine g_callVE (n := 0) (As := []) (rest := [.int 157, .int 0, .ref pO]) (wr := [(h0, .inr (2, [.ref h1, .ref pP, .ref pS, .ref pL, .ref pN, .ref pH, .int xn, .int 157, .int 157, .ref pK, .ref pO, .ref pV, .int 0, .int xcur, .int xkind, .int xpos, .int xopen, .int xwrong])), (pK, .inl (gK X 0, 3001, .inl (fun _ => 0))), (pO, .inl (gK X 0, 3001, .inl (fun _ => 0)))]) (a2 := 0) (b2 := 0) (z := 46) C hR (k_lengthW (gl X) (gD X) (gK X)) dX6_takeTokens_43 w_131 w_721 w_722 w_720 w_391 ⟨by decide +kernel, by decide +kernel, by decide +kernel⟩ [] [0, 1, 2] rfl rfl rfl rfl rfl (by decide) ⟨(Nat.le_of_ble_eq_true rfl), (Nat.le_of_ble_eq_true rfl)⟩ rfl rfl (Nat.le_of_ble_eq_true rfl) (Nat.le_of_ble_eq_true rfl) (Nat.le_of_ble_eq_true rfl) rfl rfl (evWo C) rfl rfl rfl (fun v ws' hp => ?_)
  obtain ⟨rfl, rfl⟩ := hp
  refine g_ws (w2 := [(h0, .inr (2, [.ref h1, .ref pP, .ref pS, .ref pL, .ref pN, .ref pH, .int xn, .int 157, .int 157, .ref pK, .ref pO, .ref pV, .int 0, .int xcur, .int xkind, .int xpos, .int xopen, .int xwrong])), (pK, .inl (gK X 0, 3001, .inl (fun _ => 0))), (pO, .inl (gK X 0, 3001, .inl (fun _ => 0)))]) rfl ?_
  refine g_st (s2 := [.int 157, .int 157, .int 0, .ref pO]) rfl ?_
  refine g_isub (v := 0) (z := 47) C dX6_takeTokens_46 (by decide) rfl ?_
  refine g_iast (w2 := [(h0, .inr (2, [.ref h1, .ref pP, .ref pS, .ref pL, .ref pN, .ref pH, .int xn, .int 157, .int 157, .ref pK, .ref pO, .ref pV, .int 0, .int xcur, .int xkind, .int xpos, .int xopen, .int xwrong])), (pK, .inl (gK X 0, 3001, .inl (fun _ => 0))), (pO, .inl (gK X 0, 3001, .inl (upd (fun _ => 0) (0 : Int32).toNatClampNeg 0)))]) (z := 48) C dX6_takeTokens_47 2 rfl (by unfold vp_in; decide) rfl rfl ?_
  refine g_aload_n (z := 49) C dX6_takeTokens_48 2 rfl rfl rfl ?_
  refine g_get (z := 52) C kX6 dX6_takeTokens_49 0 rfl 7 (by decide) w_149 rfl rfl rfl ?_
  refine g_aload_n (z := 53) C dX6_takeTokens_52 2 rfl rfl rfl ?_
  refine g_get (z := 56) C kX6 dX6_takeTokens_53 0 rfl 8 (by decide) w_150 rfl rfl rfl ?_
  refine g_icmp_lt_f (z := 59) 64 C dX6_takeTokens_56 (by decide) (by decide) rfl ?_
  refine g_iconst (v := 0) (z := 60) C dX6_takeTokens_59 (by decide) rfl ?_
  refine g_istore_n (l2 := [(1, .int 0), (2, .int 0), (0, .ref h0)]) (z := 61) C dX6_takeTokens_60 rfl (by decide) rfl rfl ?_
  refine g_goto (z := 114) C dX6_takeTokens_61 (by decide) ?_
  refine g_aload_n (z := 115) C dX6_takeTokens_114 2 rfl rfl rfl ?_
  refine g_get (z := 118) C kX6 dX6_takeTokens_115 0 rfl 9 (by decide) w_137 rfl rfl rfl ?_
  refine g_aload_n (z := 119) C dX6_takeTokens_118 2 rfl rfl rfl ?_
  refine g_get (z := 122) C kX6 dX6_takeTokens_119 0 rfl 12 (by decide) w_174 rfl rfl rfl ?_
  refine g_iload_n (z := 123) C dX6_takeTokens_122 0 rfl rfl rfl ?_
  refine g_iast (w2 := [(h0, .inr (2, [.ref h1, .ref pP, .ref pS, .ref pL, .ref pN, .ref pH, .int xn, .int 157, .int 157, .ref pK, .ref pO, .ref pV, .int 0, .int xcur, .int xkind, .int xpos, .int xopen, .int xwrong])), (pK, .inl (gK X 0, 3001, .inl (upd (fun _ => 0) (0 : Int32).toNatClampNeg 0))), (pO, .inl (gK X 0, 3001, .inl (upd (fun _ => 0) (0 : Int32).toNatClampNeg 0)))]) (z := 124) C dX6_takeTokens_123 1 rfl (by unfold vp_in; decide) rfl rfl ?_
  refine g_aload_n (z := 125) C dX6_takeTokens_124 2 rfl rfl rfl ?_
  refine g_dup (z := 126) C dX6_takeTokens_125 rfl rfl ?_
  refine g_get (z := 129) C kX6 dX6_takeTokens_126 0 rfl 12 (by decide) w_174 rfl rfl rfl ?_
  refine g_iconst (v := 1) (z := 130) C dX6_takeTokens_129 (by decide) rfl ?_
  refine g_iadd (v := 1) (z := 131) C dX6_takeTokens_130 (by decide) rfl ?_
  refine g_put (w2 := [(h0, .inr (2, [.ref h1, .ref pP, .ref pS, .ref pL, .ref pN, .ref pH, .int xn, .int 157, .int 157, .ref pK, .ref pO, .ref pV, .int 1, .int xcur, .int xkind, .int xpos, .int xopen, .int xwrong])), (pK, .inl (gK X 0, 3001, .inl (upd (fun _ => 0) (0 : Int32).toNatClampNeg 0))), (pO, .inl (gK X 0, 3001, .inl (upd (fun _ => 0) (0 : Int32).toNatClampNeg 0)))]) (z := 134) C kX6 dX6_takeTokens_131 0 rfl 12 (by decide) w_174 rfl rfl rfl rfl (Nat.le_of_ble_eq_true rfl) rfl rfl ?_
  refine g_iinc (v := 1) (l2 := [(2, .int 1), (1, .int 0), (0, .ref h0)]) (z := 137) C dX6_takeTokens_134 1 rfl (by decide) (by decide) rfl rfl ?_
  refine g_goto (z := 9) C dX6_takeTokens_137 (by decide) ?_
  refine g_iload_n (z := 10) C dX6_takeTokens_9 0 rfl rfl rfl ?_
  refine g_sipush (v := 3000) (z := 13) C dX6_takeTokens_10 (by decide) rfl ?_
  refine g_icmp_gt_f (z := 16) 140 C dX6_takeTokens_13 (by decide) (by decide) rfl ?_
  refine g_iload_n (z := 17) C dX6_takeTokens_16 1 rfl rfl rfl ?_
  refine g_if_eq_t (z := 140) C dX6_takeTokens_17 (by decide) (by decide) ?_
  exact g_vret C hQ dX6_takeTokens_140 (Nat.le_of_ble_eq_true rfl) (Nat.le_of_ble_eq_true rfl) ⟨rfl, rfl⟩
set_option maxHeartbeats 4000000 in
set_option maxRecDepth 100000 in
/-- advance onto the end -/
theorem k_advance (l : Launch) (D : va_G) (K : KS) (h0 h1 pP pS pL pN pH pK pO pV : Nat) (xat xend xtok xcur xkind xpos xopen xwrong : Int32) (xn : Int32) : Con l D K yX6_advance cX6_advance 1 none 0 0 0 0 [.ref h0] [(h0, .inr (2, [.ref h1, .ref pP, .ref pS, .ref pL, .ref pN, .ref pH, .int xn, .int xat, .int xend, .ref pK, .ref pO, .ref pV, .int 1, .int (-1), .int xkind, .int xpos, .int xopen, .int (-1)])), (pK, .inl (K 0, 3001, .inl (upd (fun _ => 0) (0 : Int32).toNatClampNeg 0))), (pO, .inl (K 0, 3001, .inl (upd (fun _ => 0) (0 : Int32).toNatClampNeg 0)))] (fun v w => v = none ∧ w = [(h0, .inr (2, [.ref h1, .ref pP, .ref pS, .ref pL, .ref pN, .ref pH, .int xn, .int xat, .int xend, .ref pK, .ref pO, .ref pV, .int 1, .int 0, .int 0, .int 0, .int xopen, .int (-1)])), (pK, .inl (K 0, 3001, .inl (upd (fun _ => 0) (0 : Int32).toNatClampNeg 0))), (pO, .inl (K 0, 3001, .inl (upd (fun _ => 0) (0 : Int32).toNatClampNeg 0)))]) := by
  refine Con.of (by decide +kernel) (Nat.le_of_ble_eq_true rfl) ?_
  intro X hXl hXD hXK C hR hQ hnm
  subst hXl; subst hXD; subst hXK
  refine g_lv (l2 := [(0, .ref h0)]) [0] rfl ?_
  refine g_aload_n (z := 1) C dX6_advance_0 0 rfl rfl rfl ?_
  refine g_get (z := 4) C kX6 dX6_advance_1 0 rfl 17 (by decide) w_152 rfl rfl rfl ?_
  refine g_if_ge_f (z := 7) 56 C dX6_advance_4 (by decide) (by decide) rfl ?_
  refine g_aload_n (z := 8) C dX6_advance_7 0 rfl rfl rfl ?_
  refine g_get (z := 11) C kX6 dX6_advance_8 0 rfl 13 (by decide) w_155 rfl rfl rfl ?_
  refine g_iconst (v := 1) (z := 12) C dX6_advance_11 (by decide) rfl ?_
  refine g_iadd (v := 0) (z := 13) C dX6_advance_12 (by decide) rfl ?_
  refine g_aload_n (z := 14) C dX6_advance_13 0 rfl rfl rfl ?_
  refine g_get (z := 17) C kX6 dX6_advance_14 0 rfl 12 (by decide) w_174 rfl rfl rfl ?_
  refine g_icmp_ge_f (z := 20) 56 C dX6_advance_17 (by decide) (by decide) rfl ?_
  refine g_aload_n (z := 21) C dX6_advance_20 0 rfl rfl rfl ?_
  refine g_dup (z := 22) C dX6_advance_21 rfl rfl ?_
  refine g_get (z := 25) C kX6 dX6_advance_22 0 rfl 13 (by decide) w_155 rfl rfl rfl ?_
  refine g_iconst (v := 1) (z := 26) C dX6_advance_25 (by decide) rfl ?_
  refine g_iadd (v := 0) (z := 27) C dX6_advance_26 (by decide) rfl ?_
  refine g_put (w2 := [(h0, .inr (2, [.ref h1, .ref pP, .ref pS, .ref pL, .ref pN, .ref pH, .int xn, .int xat, .int xend, .ref pK, .ref pO, .ref pV, .int 1, .int 0, .int xkind, .int xpos, .int xopen, .int (-1)])), (pK, .inl (gK X 0, 3001, .inl (upd (fun _ => 0) (0 : Int32).toNatClampNeg 0))), (pO, .inl (gK X 0, 3001, .inl (upd (fun _ => 0) (0 : Int32).toNatClampNeg 0)))]) (z := 30) C kX6 dX6_advance_27 0 rfl 13 (by decide) w_155 rfl rfl rfl rfl (Nat.le_of_ble_eq_true rfl) rfl rfl ?_
  refine g_aload_n (z := 31) C dX6_advance_30 0 rfl rfl rfl ?_
  refine g_aload_n (z := 32) C dX6_advance_31 0 rfl rfl rfl ?_
  refine g_get (z := 35) C kX6 dX6_advance_32 0 rfl 9 (by decide) w_137 rfl rfl rfl ?_
  refine g_aload_n (z := 36) C dX6_advance_35 0 rfl rfl rfl ?_
  refine g_get (z := 39) C kX6 dX6_advance_36 0 rfl 13 (by decide) w_155 rfl rfl rfl ?_
  refine g_iald (v := 0) (z := 40) C dX6_advance_39 1 rfl (by unfold vp_in; decide) pk_us rfl ?_
  refine g_put (w2 := [(h0, .inr (2, [.ref h1, .ref pP, .ref pS, .ref pL, .ref pN, .ref pH, .int xn, .int xat, .int xend, .ref pK, .ref pO, .ref pV, .int 1, .int 0, .int 0, .int xpos, .int xopen, .int (-1)])), (pK, .inl (gK X 0, 3001, .inl (upd (fun _ => 0) (0 : Int32).toNatClampNeg 0))), (pO, .inl (gK X 0, 3001, .inl (upd (fun _ => 0) (0 : Int32).toNatClampNeg 0)))]) (z := 43) C kX6 dX6_advance_40 0 rfl 14 (by decide) w_157 rfl rfl rfl rfl (Nat.le_of_ble_eq_true rfl) rfl rfl ?_
  refine g_aload_n (z := 44) C dX6_advance_43 0 rfl rfl rfl ?_
  refine g_aload_n (z := 45) C dX6_advance_44 0 rfl rfl rfl ?_
  refine g_get (z := 48) C kX6 dX6_advance_45 0 rfl 10 (by decide) w_138 rfl rfl rfl ?_
  refine g_aload_n (z := 49) C dX6_advance_48 0 rfl rfl rfl ?_
  refine g_get (z := 52) C kX6 dX6_advance_49 0 rfl 13 (by decide) w_155 rfl rfl rfl ?_
  refine g_iald (v := 0) (z := 53) C dX6_advance_52 2 rfl (by unfold vp_in; decide) pk_us rfl ?_
  refine g_put (w2 := [(h0, .inr (2, [.ref h1, .ref pP, .ref pS, .ref pL, .ref pN, .ref pH, .int xn, .int xat, .int xend, .ref pK, .ref pO, .ref pV, .int 1, .int 0, .int 0, .int 0, .int xopen, .int (-1)])), (pK, .inl (gK X 0, 3001, .inl (upd (fun _ => 0) (0 : Int32).toNatClampNeg 0))), (pO, .inl (gK X 0, 3001, .inl (upd (fun _ => 0) (0 : Int32).toNatClampNeg 0)))]) (z := 56) C kX6 dX6_advance_53 0 rfl 15 (by decide) w_158 rfl rfl rfl rfl (Nat.le_of_ble_eq_true rfl) rfl rfl ?_
  exact g_vret C hQ dX6_advance_56 (Nat.le_of_ble_eq_true rfl) (Nat.le_of_ble_eq_true rfl) ⟨rfl, rfl⟩
set_option maxHeartbeats 4000000 in
set_option maxRecDepth 100000 in
/-- Tree.clear -/
theorem k_X8_clear (l : Launch) (D : va_G) (K : KS) (h1 t0 t1 t2 t3 t4 t5 t6 t7 t8 t9 t10 : Nat) : Con l D K yX8_clear cX8_clear 1 none 0 0 0 0 [.ref h1] [(h1, .inr (1, [.ref t0, .ref t1, .ref t2, .ref t3, .ref t4, .ref t5, .ref t6, .ref t7, .ref t8, .ref t9, .ref t10, .int 1]))] (fun v w => v = none ∧ w = [(h1, .inr (1, [.ref t0, .ref t1, .ref t2, .ref t3, .ref t4, .ref t5, .ref t6, .ref t7, .ref t8, .ref t9, .ref t10, .int 1]))]) := by
  refine Con.of (by decide +kernel) (Nat.le_of_ble_eq_true rfl) ?_
  intro X hXl hXD hXK C hR hQ hnm
  subst hXl; subst hXD; subst hXK
  refine g_lv (l2 := [(0, .ref h1)]) [0] rfl ?_
  refine g_aload_n (z := 1) C dX8_clear_0 0 rfl rfl rfl ?_
  refine g_iconst (v := 1) (z := 2) C dX8_clear_1 (by decide) rfl ?_
  refine g_put (w2 := [(h1, .inr (1, [.ref t0, .ref t1, .ref t2, .ref t3, .ref t4, .ref t5, .ref t6, .ref t7, .ref t8, .ref t9, .ref t10, .int 1]))]) (z := 5) C kX8 dX8_clear_2 0 rfl 11 (by decide) w_121 rfl rfl rfl rfl (Nat.le_of_ble_eq_true rfl) rfl rfl ?_
  exact g_vret C hQ dX8_clear_5 (Nat.le_of_ble_eq_true rfl) (Nat.le_of_ble_eq_true rfl) ⟨rfl, rfl⟩
set_option maxHeartbeats 4000000 in
set_option maxRecDepth 100000 in
/-- Tree.add of the root -/
theorem k_X8_add (l : Launch) (D : va_G) (K : KS) (h1 t0 t1 t2 t3 t4 t5 t6 t7 t8 t9 t10 : Nat) : Con l D K yX8_add cX8_add 4 (some .int) 0 0 0 0 [.ref h1, .int 300, .int 0] [(h1, .inr (1, [.ref t0, .ref t1, .ref t2, .ref t3, .ref t4, .ref t5, .ref t6, .ref t7, .ref t8, .ref t9, .ref t10, .int 1])), (t0, .inl (K 0, 3016, .inl (fun _ => 0))), (t1, .inl (K 0, 3016, .inl (fun _ => 0))), (t2, .inl (K 0, 3016, .inl (fun _ => 0))), (t3, .inl (K 0, 3016, .inl (fun _ => 0))), (t4, .inl (K 0, 3016, .inl (fun _ => 0))), (t5, .inl (K 0, 3016, .inl (fun _ => 0))), (t6, .inl (K 0, 3016, .inl (fun _ => 0))), (t7, .inl (K 0, 3016, .inl (fun _ => 0))), (t8, .inl (K 1, 3016, .inr (.inl (fun _ => 0)))), (t9, .inl (K 0, 3016, .inl (fun _ => 0))), (t10, .inl (K 0, 3016, .inl (fun _ => 0)))] (fun v w => v = some (.int 1) ∧ w = [(h1, .inr (1, [.ref t0, .ref t1, .ref t2, .ref t3, .ref t4, .ref t5, .ref t6, .ref t7, .ref t8, .ref t9, .ref t10, .int 2])), (t0, .inl (K 0, 3016, .inl (upd (fun _ => 0) (1 : Int32).toNatClampNeg 300))), (t1, .inl (K 0, 3016, .inl (upd (fun _ => 0) (1 : Int32).toNatClampNeg 0))), (t2, .inl (K 0, 3016, .inl (upd (fun _ => 0) (1 : Int32).toNatClampNeg 0))), (t3, .inl (K 0, 3016, .inl (upd (fun _ => 0) (1 : Int32).toNatClampNeg 0))), (t4, .inl (K 0, 3016, .inl (upd (fun _ => 0) (1 : Int32).toNatClampNeg 0))), (t5, .inl (K 0, 3016, .inl (upd (fun _ => 0) (1 : Int32).toNatClampNeg 0))), (t6, .inl (K 0, 3016, .inl (upd (fun _ => 0) (1 : Int32).toNatClampNeg 0))), (t7, .inl (K 0, 3016, .inl (upd (fun _ => 0) (1 : Int32).toNatClampNeg 0))), (t8, .inl (K 1, 3016, .inr (.inl (vp_updL (fun _ => 0) (1 : Int32).toNatClampNeg 0)))), (t9, .inl (K 0, 3016, .inl (upd (fun _ => 0) (1 : Int32).toNatClampNeg 0))), (t10, .inl (K 0, 3016, .inl (upd (fun _ => 0) (1 : Int32).toNatClampNeg 0)))]) := by
  refine Con.of (by decide +kernel) (Nat.le_of_ble_eq_true rfl) ?_
  intro X hXl hXD hXK C hR hQ hnm
  subst hXl; subst hXD; subst hXK
  refine g_lv (l2 := [(0, .ref h1), (1, .int 300), (2, .int 0)]) [0, 1, 2] rfl ?_
  refine g_aload_n (z := 1) C dX8_add_0 0 rfl rfl rfl ?_
  refine g_get (z := 4) C kX8 dX8_add_1 0 rfl 11 (by decide) w_121 rfl rfl rfl ?_
  refine g_sipush (v := 3016) (z := 7) C dX8_add_4 (by decide) rfl ?_
  refine g_icmp_lt_t (z := 12) C dX8_add_7 (by decide) (by decide) ?_
  refine g_aload_n (z := 13) C dX8_add_12 0 rfl rfl rfl ?_
  refine g_get (z := 16) C kX8 dX8_add_13 0 rfl 11 (by decide) w_121 rfl rfl rfl ?_
  refine g_istore_n (l2 := [(3, .int 1), (0, .ref h1), (1, .int 300), (2, .int 0)]) (z := 17) C dX8_add_16 rfl (by decide) rfl rfl ?_
  refine g_aload_n (z := 18) C dX8_add_17 1 rfl rfl rfl ?_
  refine g_dup (z := 19) C dX8_add_18 rfl rfl ?_
  refine g_get (z := 22) C kX8 dX8_add_19 0 rfl 11 (by decide) w_121 rfl rfl rfl ?_
  refine g_iconst (v := 1) (z := 23) C dX8_add_22 (by decide) rfl ?_
  refine g_iadd (v := 2) (z := 24) C dX8_add_23 (by decide) rfl ?_
  refine g_put (w2 := [(h1, .inr (1, [.ref t0, .ref t1, .ref t2, .ref t3, .ref t4, .ref t5, .ref t6, .ref t7, .ref t8, .ref t9, .ref t10, .int 2])), (t0, .inl (gK X 0, 3016, .inl (fun _ => 0))), (t1, .inl (gK X 0, 3016, .inl (fun _ => 0))), (t2, .inl (gK X 0, 3016, .inl (fun _ => 0))), (t3, .inl (gK X 0, 3016, .inl (fun _ => 0))), (t4, .inl (gK X 0, 3016, .inl (fun _ => 0))), (t5, .inl (gK X 0, 3016, .inl (fun _ => 0))), (t6, .inl (gK X 0, 3016, .inl (fun _ => 0))), (t7, .inl (gK X 0, 3016, .inl (fun _ => 0))), (t8, .inl (gK X 1, 3016, .inr (.inl (fun _ => 0)))), (t9, .inl (gK X 0, 3016, .inl (fun _ => 0))), (t10, .inl (gK X 0, 3016, .inl (fun _ => 0)))]) (z := 27) C kX8 dX8_add_24 0 rfl 11 (by decide) w_121 rfl rfl rfl rfl (Nat.le_of_ble_eq_true rfl) rfl rfl ?_
  refine g_aload_n (z := 28) C dX8_add_27 1 rfl rfl rfl ?_
  refine g_get (z := 31) C kX8 dX8_add_28 0 rfl 0 (by decide) w_110 rfl rfl rfl ?_
  refine g_iload_n (z := 32) C dX8_add_31 0 rfl rfl rfl ?_
  refine g_iload_n (z := 33) C dX8_add_32 2 rfl rfl rfl ?_
  refine g_iast (w2 := [(h1, .inr (1, [.ref t0, .ref t1, .ref t2, .ref t3, .ref t4, .ref t5, .ref t6, .ref t7, .ref t8, .ref t9, .ref t10, .int 2])), (t0, .inl (gK X 0, 3016, .inl (upd (fun _ => 0) (1 : Int32).toNatClampNeg 300))), (t1, .inl (gK X 0, 3016, .inl (fun _ => 0))), (t2, .inl (gK X 0, 3016, .inl (fun _ => 0))), (t3, .inl (gK X 0, 3016, .inl (fun _ => 0))), (t4, .inl (gK X 0, 3016, .inl (fun _ => 0))), (t5, .inl (gK X 0, 3016, .inl (fun _ => 0))), (t6, .inl (gK X 0, 3016, .inl (fun _ => 0))), (t7, .inl (gK X 0, 3016, .inl (fun _ => 0))), (t8, .inl (gK X 1, 3016, .inr (.inl (fun _ => 0)))), (t9, .inl (gK X 0, 3016, .inl (fun _ => 0))), (t10, .inl (gK X 0, 3016, .inl (fun _ => 0)))]) (z := 34) C dX8_add_33 1 rfl (by unfold vp_in; decide) rfl rfl ?_
  refine g_aload_n (z := 35) C dX8_add_34 1 rfl rfl rfl ?_
  refine g_get (z := 38) C kX8 dX8_add_35 0 rfl 1 (by decide) w_111 rfl rfl rfl ?_
  refine g_iload_n (z := 39) C dX8_add_38 0 rfl rfl rfl ?_
  refine g_iload_n (z := 40) C dX8_add_39 3 rfl rfl rfl ?_
  refine g_iast (w2 := [(h1, .inr (1, [.ref t0, .ref t1, .ref t2, .ref t3, .ref t4, .ref t5, .ref t6, .ref t7, .ref t8, .ref t9, .ref t10, .int 2])), (t0, .inl (gK X 0, 3016, .inl (upd (fun _ => 0) (1 : Int32).toNatClampNeg 300))), (t1, .inl (gK X 0, 3016, .inl (upd (fun _ => 0) (1 : Int32).toNatClampNeg 0))), (t2, .inl (gK X 0, 3016, .inl (fun _ => 0))), (t3, .inl (gK X 0, 3016, .inl (fun _ => 0))), (t4, .inl (gK X 0, 3016, .inl (fun _ => 0))), (t5, .inl (gK X 0, 3016, .inl (fun _ => 0))), (t6, .inl (gK X 0, 3016, .inl (fun _ => 0))), (t7, .inl (gK X 0, 3016, .inl (fun _ => 0))), (t8, .inl (gK X 1, 3016, .inr (.inl (fun _ => 0)))), (t9, .inl (gK X 0, 3016, .inl (fun _ => 0))), (t10, .inl (gK X 0, 3016, .inl (fun _ => 0)))]) (z := 41) C dX8_add_40 2 rfl (by unfold vp_in; decide) rfl rfl ?_
  refine g_aload_n (z := 42) C dX8_add_41 1 rfl rfl rfl ?_
  refine g_get (z := 45) C kX8 dX8_add_42 0 rfl 2 (by decide) w_112 rfl rfl rfl ?_
  refine g_iload_n (z := 46) C dX8_add_45 0 rfl rfl rfl ?_
  refine g_iload_n (z := 47) C dX8_add_46 3 rfl rfl rfl ?_
  refine g_iast (w2 := [(h1, .inr (1, [.ref t0, .ref t1, .ref t2, .ref t3, .ref t4, .ref t5, .ref t6, .ref t7, .ref t8, .ref t9, .ref t10, .int 2])), (t0, .inl (gK X 0, 3016, .inl (upd (fun _ => 0) (1 : Int32).toNatClampNeg 300))), (t1, .inl (gK X 0, 3016, .inl (upd (fun _ => 0) (1 : Int32).toNatClampNeg 0))), (t2, .inl (gK X 0, 3016, .inl (upd (fun _ => 0) (1 : Int32).toNatClampNeg 0))), (t3, .inl (gK X 0, 3016, .inl (fun _ => 0))), (t4, .inl (gK X 0, 3016, .inl (fun _ => 0))), (t5, .inl (gK X 0, 3016, .inl (fun _ => 0))), (t6, .inl (gK X 0, 3016, .inl (fun _ => 0))), (t7, .inl (gK X 0, 3016, .inl (fun _ => 0))), (t8, .inl (gK X 1, 3016, .inr (.inl (fun _ => 0)))), (t9, .inl (gK X 0, 3016, .inl (fun _ => 0))), (t10, .inl (gK X 0, 3016, .inl (fun _ => 0)))]) (z := 48) C dX8_add_47 3 rfl (by unfold vp_in; decide) rfl rfl ?_
  refine g_aload_n (z := 49) C dX8_add_48 1 rfl rfl rfl ?_
  refine g_get (z := 52) C kX8 dX8_add_49 0 rfl 3 (by decide) w_113 rfl rfl rfl ?_
  refine g_iload_n (z := 53) C dX8_add_52 0 rfl rfl rfl ?_
  refine g_iconst (v := 0) (z := 54) C dX8_add_53 (by decide) rfl ?_
  refine g_iast (w2 := [(h1, .inr (1, [.ref t0, .ref t1, .ref t2, .ref t3, .ref t4, .ref t5, .ref t6, .ref t7, .ref t8, .ref t9, .ref t10, .int 2])), (t0, .inl (gK X 0, 3016, .inl (upd (fun _ => 0) (1 : Int32).toNatClampNeg 300))), (t1, .inl (gK X 0, 3016, .inl (upd (fun _ => 0) (1 : Int32).toNatClampNeg 0))), (t2, .inl (gK X 0, 3016, .inl (upd (fun _ => 0) (1 : Int32).toNatClampNeg 0))), (t3, .inl (gK X 0, 3016, .inl (upd (fun _ => 0) (1 : Int32).toNatClampNeg 0))), (t4, .inl (gK X 0, 3016, .inl (fun _ => 0))), (t5, .inl (gK X 0, 3016, .inl (fun _ => 0))), (t6, .inl (gK X 0, 3016, .inl (fun _ => 0))), (t7, .inl (gK X 0, 3016, .inl (fun _ => 0))), (t8, .inl (gK X 1, 3016, .inr (.inl (fun _ => 0)))), (t9, .inl (gK X 0, 3016, .inl (fun _ => 0))), (t10, .inl (gK X 0, 3016, .inl (fun _ => 0)))]) (z := 55) C dX8_add_54 4 rfl (by unfold vp_in; decide) rfl rfl ?_
  refine g_aload_n (z := 56) C dX8_add_55 1 rfl rfl rfl ?_
  refine g_get (z := 59) C kX8 dX8_add_56 0 rfl 4 (by decide) w_114 rfl rfl rfl ?_
  refine g_iload_n (z := 60) C dX8_add_59 0 rfl rfl rfl ?_
  refine g_iconst (v := 0) (z := 61) C dX8_add_60 (by decide) rfl ?_
  refine g_iast (w2 := [(h1, .inr (1, [.ref t0, .ref t1, .ref t2, .ref t3, .ref t4, .ref t5, .ref t6, .ref t7, .ref t8, .ref t9, .ref t10, .int 2])), (t0, .inl (gK X 0, 3016, .inl (upd (fun _ => 0) (1 : Int32).toNatClampNeg 300))), (t1, .inl (gK X 0, 3016, .inl (upd (fun _ => 0) (1 : Int32).toNatClampNeg 0))), (t2, .inl (gK X 0, 3016, .inl (upd (fun _ => 0) (1 : Int32).toNatClampNeg 0))), (t3, .inl (gK X 0, 3016, .inl (upd (fun _ => 0) (1 : Int32).toNatClampNeg 0))), (t4, .inl (gK X 0, 3016, .inl (upd (fun _ => 0) (1 : Int32).toNatClampNeg 0))), (t5, .inl (gK X 0, 3016, .inl (fun _ => 0))), (t6, .inl (gK X 0, 3016, .inl (fun _ => 0))), (t7, .inl (gK X 0, 3016, .inl (fun _ => 0))), (t8, .inl (gK X 1, 3016, .inr (.inl (fun _ => 0)))), (t9, .inl (gK X 0, 3016, .inl (fun _ => 0))), (t10, .inl (gK X 0, 3016, .inl (fun _ => 0)))]) (z := 62) C dX8_add_61 5 rfl (by unfold vp_in; decide) rfl rfl ?_
  refine g_aload_n (z := 63) C dX8_add_62 1 rfl rfl rfl ?_
  refine g_get (z := 66) C kX8 dX8_add_63 0 rfl 5 (by decide) w_115 rfl rfl rfl ?_
  refine g_iload_n (z := 67) C dX8_add_66 0 rfl rfl rfl ?_
  refine g_iconst (v := 0) (z := 68) C dX8_add_67 (by decide) rfl ?_
  refine g_iast (w2 := [(h1, .inr (1, [.ref t0, .ref t1, .ref t2, .ref t3, .ref t4, .ref t5, .ref t6, .ref t7, .ref t8, .ref t9, .ref t10, .int 2])), (t0, .inl (gK X 0, 3016, .inl (upd (fun _ => 0) (1 : Int32).toNatClampNeg 300))), (t1, .inl (gK X 0, 3016, .inl (upd (fun _ => 0) (1 : Int32).toNatClampNeg 0))), (t2, .inl (gK X 0, 3016, .inl (upd (fun _ => 0) (1 : Int32).toNatClampNeg 0))), (t3, .inl (gK X 0, 3016, .inl (upd (fun _ => 0) (1 : Int32).toNatClampNeg 0))), (t4, .inl (gK X 0, 3016, .inl (upd (fun _ => 0) (1 : Int32).toNatClampNeg 0))), (t5, .inl (gK X 0, 3016, .inl (upd (fun _ => 0) (1 : Int32).toNatClampNeg 0))), (t6, .inl (gK X 0, 3016, .inl (fun _ => 0))), (t7, .inl (gK X 0, 3016, .inl (fun _ => 0))), (t8, .inl (gK X 1, 3016, .inr (.inl (fun _ => 0)))), (t9, .inl (gK X 0, 3016, .inl (fun _ => 0))), (t10, .inl (gK X 0, 3016, .inl (fun _ => 0)))]) (z := 69) C dX8_add_68 6 rfl (by unfold vp_in; decide) rfl rfl ?_
  refine g_aload_n (z := 70) C dX8_add_69 1 rfl rfl rfl ?_
  refine g_get (z := 73) C kX8 dX8_add_70 0 rfl 6 (by decide) w_116 rfl rfl rfl ?_
  refine g_iload_n (z := 74) C dX8_add_73 0 rfl rfl rfl ?_
  refine g_iconst (v := 0) (z := 75) C dX8_add_74 (by decide) rfl ?_
  refine g_iast (w2 := [(h1, .inr (1, [.ref t0, .ref t1, .ref t2, .ref t3, .ref t4, .ref t5, .ref t6, .ref t7, .ref t8, .ref t9, .ref t10, .int 2])), (t0, .inl (gK X 0, 3016, .inl (upd (fun _ => 0) (1 : Int32).toNatClampNeg 300))), (t1, .inl (gK X 0, 3016, .inl (upd (fun _ => 0) (1 : Int32).toNatClampNeg 0))), (t2, .inl (gK X 0, 3016, .inl (upd (fun _ => 0) (1 : Int32).toNatClampNeg 0))), (t3, .inl (gK X 0, 3016, .inl (upd (fun _ => 0) (1 : Int32).toNatClampNeg 0))), (t4, .inl (gK X 0, 3016, .inl (upd (fun _ => 0) (1 : Int32).toNatClampNeg 0))), (t5, .inl (gK X 0, 3016, .inl (upd (fun _ => 0) (1 : Int32).toNatClampNeg 0))), (t6, .inl (gK X 0, 3016, .inl (upd (fun _ => 0) (1 : Int32).toNatClampNeg 0))), (t7, .inl (gK X 0, 3016, .inl (fun _ => 0))), (t8, .inl (gK X 1, 3016, .inr (.inl (fun _ => 0)))), (t9, .inl (gK X 0, 3016, .inl (fun _ => 0))), (t10, .inl (gK X 0, 3016, .inl (fun _ => 0)))]) (z := 76) C dX8_add_75 7 rfl (by unfold vp_in; decide) rfl rfl ?_
  refine g_aload_n (z := 77) C dX8_add_76 1 rfl rfl rfl ?_
  refine g_get (z := 80) C kX8 dX8_add_77 0 rfl 7 (by decide) w_117 rfl rfl rfl ?_
  refine g_iload_n (z := 81) C dX8_add_80 0 rfl rfl rfl ?_
  refine g_iconst (v := 0) (z := 82) C dX8_add_81 (by decide) rfl ?_
  refine g_iast (w2 := [(h1, .inr (1, [.ref t0, .ref t1, .ref t2, .ref t3, .ref t4, .ref t5, .ref t6, .ref t7, .ref t8, .ref t9, .ref t10, .int 2])), (t0, .inl (gK X 0, 3016, .inl (upd (fun _ => 0) (1 : Int32).toNatClampNeg 300))), (t1, .inl (gK X 0, 3016, .inl (upd (fun _ => 0) (1 : Int32).toNatClampNeg 0))), (t2, .inl (gK X 0, 3016, .inl (upd (fun _ => 0) (1 : Int32).toNatClampNeg 0))), (t3, .inl (gK X 0, 3016, .inl (upd (fun _ => 0) (1 : Int32).toNatClampNeg 0))), (t4, .inl (gK X 0, 3016, .inl (upd (fun _ => 0) (1 : Int32).toNatClampNeg 0))), (t5, .inl (gK X 0, 3016, .inl (upd (fun _ => 0) (1 : Int32).toNatClampNeg 0))), (t6, .inl (gK X 0, 3016, .inl (upd (fun _ => 0) (1 : Int32).toNatClampNeg 0))), (t7, .inl (gK X 0, 3016, .inl (upd (fun _ => 0) (1 : Int32).toNatClampNeg 0))), (t8, .inl (gK X 1, 3016, .inr (.inl (fun _ => 0)))), (t9, .inl (gK X 0, 3016, .inl (fun _ => 0))), (t10, .inl (gK X 0, 3016, .inl (fun _ => 0)))]) (z := 83) C dX8_add_82 8 rfl (by unfold vp_in; decide) rfl rfl ?_
  refine g_aload_n (z := 84) C dX8_add_83 1 rfl rfl rfl ?_
  refine g_get (z := 87) C kX8 dX8_add_84 0 rfl 8 (by decide) w_118 rfl rfl rfl ?_
  refine g_iload_n (z := 88) C dX8_add_87 0 rfl rfl rfl ?_
  refine g_lconst (v := 0) (z := 89) C dX8_add_88 (by decide) rfl ?_
  refine g_last (w2 := [(h1, .inr (1, [.ref t0, .ref t1, .ref t2, .ref t3, .ref t4, .ref t5, .ref t6, .ref t7, .ref t8, .ref t9, .ref t10, .int 2])), (t0, .inl (gK X 0, 3016, .inl (upd (fun _ => 0) (1 : Int32).toNatClampNeg 300))), (t1, .inl (gK X 0, 3016, .inl (upd (fun _ => 0) (1 : Int32).toNatClampNeg 0))), (t2, .inl (gK X 0, 3016, .inl (upd (fun _ => 0) (1 : Int32).toNatClampNeg 0))), (t3, .inl (gK X 0, 3016, .inl (upd (fun _ => 0) (1 : Int32).toNatClampNeg 0))), (t4, .inl (gK X 0, 3016, .inl (upd (fun _ => 0) (1 : Int32).toNatClampNeg 0))), (t5, .inl (gK X 0, 3016, .inl (upd (fun _ => 0) (1 : Int32).toNatClampNeg 0))), (t6, .inl (gK X 0, 3016, .inl (upd (fun _ => 0) (1 : Int32).toNatClampNeg 0))), (t7, .inl (gK X 0, 3016, .inl (upd (fun _ => 0) (1 : Int32).toNatClampNeg 0))), (t8, .inl (gK X 1, 3016, .inr (.inl (vp_updL (fun _ => 0) (1 : Int32).toNatClampNeg 0)))), (t9, .inl (gK X 0, 3016, .inl (fun _ => 0))), (t10, .inl (gK X 0, 3016, .inl (fun _ => 0)))]) (z := 90) C dX8_add_89 9 rfl (by unfold vp_in; decide) rfl rfl ?_
  refine g_aload_n (z := 91) C dX8_add_90 1 rfl rfl rfl ?_
  refine g_get (z := 94) C kX8 dX8_add_91 0 rfl 9 (by decide) w_119 rfl rfl rfl ?_
  refine g_iload_n (z := 95) C dX8_add_94 0 rfl rfl rfl ?_
  refine g_iconst (v := 0) (z := 96) C dX8_add_95 (by decide) rfl ?_
  refine g_iast (w2 := [(h1, .inr (1, [.ref t0, .ref t1, .ref t2, .ref t3, .ref t4, .ref t5, .ref t6, .ref t7, .ref t8, .ref t9, .ref t10, .int 2])), (t0, .inl (gK X 0, 3016, .inl (upd (fun _ => 0) (1 : Int32).toNatClampNeg 300))), (t1, .inl (gK X 0, 3016, .inl (upd (fun _ => 0) (1 : Int32).toNatClampNeg 0))), (t2, .inl (gK X 0, 3016, .inl (upd (fun _ => 0) (1 : Int32).toNatClampNeg 0))), (t3, .inl (gK X 0, 3016, .inl (upd (fun _ => 0) (1 : Int32).toNatClampNeg 0))), (t4, .inl (gK X 0, 3016, .inl (upd (fun _ => 0) (1 : Int32).toNatClampNeg 0))), (t5, .inl (gK X 0, 3016, .inl (upd (fun _ => 0) (1 : Int32).toNatClampNeg 0))), (t6, .inl (gK X 0, 3016, .inl (upd (fun _ => 0) (1 : Int32).toNatClampNeg 0))), (t7, .inl (gK X 0, 3016, .inl (upd (fun _ => 0) (1 : Int32).toNatClampNeg 0))), (t8, .inl (gK X 1, 3016, .inr (.inl (vp_updL (fun _ => 0) (1 : Int32).toNatClampNeg 0)))), (t9, .inl (gK X 0, 3016, .inl (upd (fun _ => 0) (1 : Int32).toNatClampNeg 0))), (t10, .inl (gK X 0, 3016, .inl (fun _ => 0)))]) (z := 97) C dX8_add_96 10 rfl (by unfold vp_in; decide) rfl rfl ?_
  refine g_aload_n (z := 98) C dX8_add_97 1 rfl rfl rfl ?_
  refine g_get (z := 101) C kX8 dX8_add_98 0 rfl 10 (by decide) w_120 rfl rfl rfl ?_
  refine g_iload_n (z := 102) C dX8_add_101 0 rfl rfl rfl ?_
  refine g_iconst (v := 0) (z := 103) C dX8_add_102 (by decide) rfl ?_
  refine g_iast (w2 := [(h1, .inr (1, [.ref t0, .ref t1, .ref t2, .ref t3, .ref t4, .ref t5, .ref t6, .ref t7, .ref t8, .ref t9, .ref t10, .int 2])), (t0, .inl (gK X 0, 3016, .inl (upd (fun _ => 0) (1 : Int32).toNatClampNeg 300))), (t1, .inl (gK X 0, 3016, .inl (upd (fun _ => 0) (1 : Int32).toNatClampNeg 0))), (t2, .inl (gK X 0, 3016, .inl (upd (fun _ => 0) (1 : Int32).toNatClampNeg 0))), (t3, .inl (gK X 0, 3016, .inl (upd (fun _ => 0) (1 : Int32).toNatClampNeg 0))), (t4, .inl (gK X 0, 3016, .inl (upd (fun _ => 0) (1 : Int32).toNatClampNeg 0))), (t5, .inl (gK X 0, 3016, .inl (upd (fun _ => 0) (1 : Int32).toNatClampNeg 0))), (t6, .inl (gK X 0, 3016, .inl (upd (fun _ => 0) (1 : Int32).toNatClampNeg 0))), (t7, .inl (gK X 0, 3016, .inl (upd (fun _ => 0) (1 : Int32).toNatClampNeg 0))), (t8, .inl (gK X 1, 3016, .inr (.inl (vp_updL (fun _ => 0) (1 : Int32).toNatClampNeg 0)))), (t9, .inl (gK X 0, 3016, .inl (upd (fun _ => 0) (1 : Int32).toNatClampNeg 0))), (t10, .inl (gK X 0, 3016, .inl (upd (fun _ => 0) (1 : Int32).toNatClampNeg 0)))]) (z := 104) C dX8_add_103 11 rfl (by unfold vp_in; decide) rfl rfl ?_
  refine g_iload_n (z := 105) C dX8_add_104 0 rfl rfl rfl ?_
  exact g_iret C hQ dX8_add_105 rfl (Nat.le_of_ble_eq_true rfl) (Nat.le_of_ble_eq_true rfl) ⟨rfl, rfl⟩
set_option maxHeartbeats 4000000 in
set_option maxRecDepth 100000 in
/-- read of no bytes: no FAULT, the tree has its root alone -/
theorem k_read (l : Launch) (D : va_G) (K : KS) (h0 h1 pP pS pL pN pH pK pO pV t0 t1 t2 t3 t4 t5 t6 t7 t8 t9 t10 hT : Nat) (f fS fL fN fH fT : Nat → Int32) : Con l D K yX6_read cX6_read 8 (some .int) 5 107 0 0 [.ref h0, .ref hT, .int 0] [(h0, .inr (2, [.ref h1, .ref pP, .ref pS, .ref pL, .ref pN, .ref pH, .int 0, .int 0, .int 0, .ref pK, .ref pO, .ref pV, .int 0, .int 0, .int 0, .int 0, .int 0, .int 0])), (pP, .inl (K 2, 3157, .inl (f))), (pS, .inl (K 0, 1544, .inl (fS))), (pL, .inl (K 0, 1544, .inl (fL))), (pN, .inl (K 0, 1544, .inl (fN))), (pH, .inl (K 0, 256, .inl (fH))), (pK, .inl (K 0, 3001, .inl (fun _ => 0))), (pO, .inl (K 0, 3001, .inl (fun _ => 0))), (h1, .inr (1, [.ref t0, .ref t1, .ref t2, .ref t3, .ref t4, .ref t5, .ref t6, .ref t7, .ref t8, .ref t9, .ref t10, .int 1])), (t0, .inl (K 0, 3016, .inl (fun _ => 0))), (t1, .inl (K 0, 3016, .inl (fun _ => 0))), (t2, .inl (K 0, 3016, .inl (fun _ => 0))), (t3, .inl (K 0, 3016, .inl (fun _ => 0))), (t4, .inl (K 0, 3016, .inl (fun _ => 0))), (t5, .inl (K 0, 3016, .inl (fun _ => 0))), (t6, .inl (K 0, 3016, .inl (fun _ => 0))), (t7, .inl (K 0, 3016, .inl (fun _ => 0))), (t8, .inl (K 1, 3016, .inr (.inl (fun _ => 0)))), (t9, .inl (K 0, 3016, .inl (fun _ => 0))), (t10, .inl (K 0, 3016, .inl (fun _ => 0))), (hT, .inl (K 2, 3000, .inl (fT)))] (fun v w => v = some (.int (-1)) ∧ ∃ (xn : Int32) (f2 gS gL gN gH : Nat → Int32), w = [(h0, .inr (2, [.ref h1, .ref pP, .ref pS, .ref pL, .ref pN, .ref pH, .int xn, .int 157, .int 157, .ref pK, .ref pO, .ref pV, .int 1, .int 0, .int 0, .int 0, .int 0, .int (-1)])), (pP, .inl (K 2, 3157, .inl (f2))), (pS, .inl (K 0, 1544, .inl (gS))), (pL, .inl (K 0, 1544, .inl (gL))), (pN, .inl (K 0, 1544, .inl (gN))), (pH, .inl (K 0, 256, .inl (gH))), (pK, .inl (K 0, 3001, .inl (upd (fun _ => 0) (0 : Int32).toNatClampNeg 0))), (pO, .inl (K 0, 3001, .inl (upd (fun _ => 0) (0 : Int32).toNatClampNeg 0))), (h1, .inr (1, [.ref t0, .ref t1, .ref t2, .ref t3, .ref t4, .ref t5, .ref t6, .ref t7, .ref t8, .ref t9, .ref t10, .int 2])), (t0, .inl (K 0, 3016, .inl (upd (fun _ => 0) (1 : Int32).toNatClampNeg 300))), (t1, .inl (K 0, 3016, .inl (upd (fun _ => 0) (1 : Int32).toNatClampNeg 0))), (t2, .inl (K 0, 3016, .inl (upd (fun _ => 0) (1 : Int32).toNatClampNeg 0))), (t3, .inl (K 0, 3016, .inl (upd (fun _ => 0) (1 : Int32).toNatClampNeg 0))), (t4, .inl (K 0, 3016, .inl (upd (fun _ => 0) (1 : Int32).toNatClampNeg 0))), (t5, .inl (K 0, 3016, .inl (upd (fun _ => 0) (1 : Int32).toNatClampNeg 0))), (t6, .inl (K 0, 3016, .inl (upd (fun _ => 0) (1 : Int32).toNatClampNeg 0))), (t7, .inl (K 0, 3016, .inl (upd (fun _ => 0) (1 : Int32).toNatClampNeg 0))), (t8, .inl (K 1, 3016, .inr (.inl (vp_updL (fun _ => 0) (1 : Int32).toNatClampNeg 0)))), (t9, .inl (K 0, 3016, .inl (upd (fun _ => 0) (1 : Int32).toNatClampNeg 0))), (t10, .inl (K 0, 3016, .inl (upd (fun _ => 0) (1 : Int32).toNatClampNeg 0))), (hT, .inl (K 2, 3000, .inl (fT)))]) := by
  refine Con.of (by decide +kernel) (Nat.le_of_ble_eq_true rfl) ?_
  intro X hXl hXD hXK C hR hQ hnm
  subst hXl; subst hXD; subst hXK
  refine g_lv (l2 := [(0, .ref h0), (1, .ref hT), (2, .int 0)]) [0, 1, 2] rfl ?_
  refine g_aload_n (z := 1) C dX6_read_0 1 rfl rfl rfl ?_
  refine g_iconst (v := 0) (z := 2) C dX6_read_1 (by decide) rfl ?_
  refine g_aload_n (z := 3) C dX6_read_2 0 rfl rfl rfl ?_
  refine g_get (z := 6) C kX6 dX6_read_3 0 rfl 1 (by decide) w_132 rfl rfl rfl ?_
  refine g_ldcS (z := 8) C dX6_read_6 (evW C) rfl ?_
  refine g_callVE (n := 0) (As := []) (rest := [.ref pP, .int 0, .ref hT]) (wr := [(h0, .inr (2, [.ref h1, .ref pP, .ref pS, .ref pL, .ref pN, .ref pH, .int 0, .int 0, .int 0, .ref pK, .ref pO, .ref pV, .int 0, .int 0, .int 0, .int 0, .int 0, .int 0])), (pP, .inl (gK X 2, 3157, .inl (f))), (pS, .inl (gK X 0, 1544, .inl (fS))), (pL, .inl (gK X 0, 1544, .inl (fL))), (pN, .inl (gK X 0, 1544, .inl (fN))), (pH, .inl (gK X 0, 256, .inl (fH))), (pK, .inl (gK X 0, 3001, .inl (fun _ => 0))), (pO, .inl (gK X 0, 3001, .inl (fun _ => 0))), (h1, .inr (1, [.ref t0, .ref t1, .ref t2, .ref t3, .ref t4, .ref t5, .ref t6, .ref t7, .ref t8, .ref t9, .ref t10, .int 1])), (t0, .inl (gK X 0, 3016, .inl (fun _ => 0))), (t1, .inl (gK X 0, 3016, .inl (fun _ => 0))), (t2, .inl (gK X 0, 3016, .inl (fun _ => 0))), (t3, .inl (gK X 0, 3016, .inl (fun _ => 0))), (t4, .inl (gK X 0, 3016, .inl (fun _ => 0))), (t5, .inl (gK X 0, 3016, .inl (fun _ => 0))), (t6, .inl (gK X 0, 3016, .inl (fun _ => 0))), (t7, .inl (gK X 0, 3016, .inl (fun _ => 0))), (t8, .inl (gK X 1, 3016, .inr (.inl (fun _ => 0)))), (t9, .inl (gK X 0, 3016, .inl (fun _ => 0))), (t10, .inl (gK X 0, 3016, .inl (fun _ => 0))), (hT, .inl (gK X 2, 3000, .inl (fT)))]) (a2 := 0) (b2 := 0) (z := 11) C hR (k_lengthW (gl X) (gD X) (gK X)) dX6_read_8 w_131 w_721 w_722 w_720 w_391 ⟨by decide +kernel, by decide +kernel, by decide +kernel⟩ [] [0, 1, 2, 3, 4, 5, 6, 7, 8, 9, 10, 11, 12, 13, 14, 15, 16, 17, 18, 19, 20] rfl rfl rfl rfl rfl (by decide) ⟨(Nat.le_of_ble_eq_true rfl), (Nat.le_of_ble_eq_true rfl)⟩ rfl rfl (Nat.le_of_ble_eq_true rfl) (Nat.le_of_ble_eq_true rfl) (Nat.le_of_ble_eq_true rfl) rfl rfl (evWo C) rfl rfl rfl (fun v ws' hp => ?_)
  obtain ⟨rfl, rfl⟩ := hp
  refine g_ws (w2 := [(h0, .inr (2, [.ref h1, .ref pP, .ref pS, .ref pL, .ref pN, .ref pH, .int 0, .int 0, .int 0, .ref pK, .ref pO, .ref pV, .int 0, .int 0, .int 0, .int 0, .int 0, .int 0])), (pP, .inl (gK X 2, 3157, .inl (f))), (pS, .inl (gK X 0, 1544, .inl (fS))), (pL, .inl (gK X 0, 1544, .inl (fL))), (pN, .inl (gK X 0, 1544, .inl (fN))), (pH, .inl (gK X 0, 256, .inl (fH))), (pK, .inl (gK X 0, 3001, .inl (fun _ => 0))), (pO, .inl (gK X 0, 3001, .inl (fun _ => 0))), (h1, .inr (1, [.ref t0, .ref t1, .ref t2, .ref t3, .ref t4, .ref t5, .ref t6, .ref t7, .ref t8, .ref t9, .ref t10, .int 1])), (t0, .inl (gK X 0, 3016, .inl (fun _ => 0))), (t1, .inl (gK X 0, 3016, .inl (fun _ => 0))), (t2, .inl (gK X 0, 3016, .inl (fun _ => 0))), (t3, .inl (gK X 0, 3016, .inl (fun _ => 0))), (t4, .inl (gK X 0, 3016, .inl (fun _ => 0))), (t5, .inl (gK X 0, 3016, .inl (fun _ => 0))), (t6, .inl (gK X 0, 3016, .inl (fun _ => 0))), (t7, .inl (gK X 0, 3016, .inl (fun _ => 0))), (t8, .inl (gK X 1, 3016, .inr (.inl (fun _ => 0)))), (t9, .inl (gK X 0, 3016, .inl (fun _ => 0))), (t10, .inl (gK X 0, 3016, .inl (fun _ => 0))), (hT, .inl (gK X 2, 3000, .inl (fT)))]) rfl ?_
  refine g_st (s2 := [.int 157, .ref pP, .int 0, .ref hT]) rfl ?_
  refine g_iload_n (z := 12) C dX6_read_11 2 rfl rfl rfl ?_
  refine g_copyB (w2 := [(h0, .inr (2, [.ref h1, .ref pP, .ref pS, .ref pL, .ref pN, .ref pH, .int 0, .int 0, .int 0, .ref pK, .ref pO, .ref pV, .int 0, .int 0, .int 0, .int 0, .int 0, .int 0])), (pP, .inl (gK X 2, 3157, .inl (va_cpy (fT) (f) (0 : Int32).toNatClampNeg (157 : Int32).toNatClampNeg (0 : Int32).toNatClampNeg))), (pS, .inl (gK X 0, 1544, .inl (fS))), (pL, .inl (gK X 0, 1544, .inl (fL))), (pN, .inl (gK X 0, 1544, .inl (fN))), (pH, .inl (gK X 0, 256, .inl (fH))), (pK, .inl (gK X 0, 3001, .inl (fun _ => 0))), (pO, .inl (gK X 0, 3001, .inl (fun _ => 0))), (h1, .inr (1, [.ref t0, .ref t1, .ref t2, .ref t3, .ref t4, .ref t5, .ref t6, .ref t7, .ref t8, .ref t9, .ref t10, .int 1])), (t0, .inl (gK X 0, 3016, .inl (fun _ => 0))), (t1, .inl (gK X 0, 3016, .inl (fun _ => 0))), (t2, .inl (gK X 0, 3016, .inl (fun _ => 0))), (t3, .inl (gK X 0, 3016, .inl (fun _ => 0))), (t4, .inl (gK X 0, 3016, .inl (fun _ => 0))), (t5, .inl (gK X 0, 3016, .inl (fun _ => 0))), (t6, .inl (gK X 0, 3016, .inl (fun _ => 0))), (t7, .inl (gK X 0, 3016, .inl (fun _ => 0))), (t8, .inl (gK X 1, 3016, .inr (.inl (fun _ => 0)))), (t9, .inl (gK X 0, 3016, .inl (fun _ => 0))), (t10, .inl (gK X 0, 3016, .inl (fun _ => 0))), (hT, .inl (gK X 2, 3000, .inl (fT)))]) (z := 15) C hR dX6_read_12 w_145 w_147 w_146 w_148 20 1 rfl rfl (by decide) (by decide) (by decide) (by decide) (by decide) (fun i hi => absurd hi (Nat.not_lt_zero i)) (Nat.le_of_ble_eq_true rfl) (by decide) rfl rfl ?_
  generalize hcp : va_cpy fT f (0 : Int32).toNatClampNeg (157 : Int32).toNatClampNeg (0 : Int32).toNatClampNeg = f2
  refine g_aload_n (z := 16) C dX6_read_15 0 rfl rfl rfl ?_
  refine g_ldcS (z := 18) C dX6_read_16 (evW C) rfl ?_
  refine g_callVE (n := 0) (As := []) (rest := [.ref h0]) (wr := [(h0, .inr (2, [.ref h1, .ref pP, .ref pS, .ref pL, .ref pN, .ref pH, .int 0, .int 0, .int 0, .ref pK, .ref pO, .ref pV, .int 0, .int 0, .int 0, .int 0, .int 0, .int 0])), (pP, .inl (gK X 2, 3157, .inl (f2))), (pS, .inl (gK X 0, 1544, .inl (fS))), (pL, .inl (gK X 0, 1544, .inl (fL))), (pN, .inl (gK X 0, 1544, .inl (fN))), (pH, .inl (gK X 0, 256, .inl (fH))), (pK, .inl (gK X 0, 3001, .inl (fun _ => 0))), (pO, .inl (gK X 0, 3001, .inl (fun _ => 0))), (h1, .inr (1, [.ref t0, .ref t1, .ref t2, .ref t3, .ref t4, .ref t5, .ref t6, .ref t7, .ref t8, .ref t9, .ref t10, .int 1])), (t0, .inl (gK X 0, 3016, .inl (fun _ => 0))), (t1, .inl (gK X 0, 3016, .inl (fun _ => 0))), (t2, .inl (gK X 0, 3016, .inl (fun _ => 0))), (t3, .inl (gK X 0, 3016, .inl (fun _ => 0))), (t4, .inl (gK X 0, 3016, .inl (fun _ => 0))), (t5, .inl (gK X 0, 3016, .inl (fun _ => 0))), (t6, .inl (gK X 0, 3016, .inl (fun _ => 0))), (t7, .inl (gK X 0, 3016, .inl (fun _ => 0))), (t8, .inl (gK X 1, 3016, .inr (.inl (fun _ => 0)))), (t9, .inl (gK X 0, 3016, .inl (fun _ => 0))), (t10, .inl (gK X 0, 3016, .inl (fun _ => 0))), (hT, .inl (gK X 2, 3000, .inl (fT)))]) (a2 := 0) (b2 := 0) (z := 21) C hR (k_lengthW (gl X) (gD X) (gK X)) dX6_read_18 w_131 w_721 w_722 w_720 w_391 ⟨by decide +kernel, by decide +kernel, by decide +kernel⟩ [] [0, 1, 2, 3, 4, 5, 6, 7, 8, 9, 10, 11, 12, 13, 14, 15, 16, 17, 18, 19, 20] rfl rfl rfl rfl rfl (by decide) ⟨(Nat.le_of_ble_eq_true rfl), (Nat.le_of_ble_eq_true rfl)⟩ rfl rfl (Nat.le_of_ble_eq_true rfl) (Nat.le_of_ble_eq_true rfl) (Nat.le_of_ble_eq_true rfl) rfl rfl (evWo C) rfl rfl rfl (fun v ws' hp => ?_)
  obtain ⟨rfl, rfl⟩ := hp
  refine g_ws (w2 := [(h0, .inr (2, [.ref h1, .ref pP, .ref pS, .ref pL, .ref pN, .ref pH, .int 0, .int 0, .int 0, .ref pK, .ref pO, .ref pV, .int 0, .int 0, .int 0, .int 0, .int 0, .int 0])), (pP, .inl (gK X 2, 3157, .inl (f2))), (pS, .inl (gK X 0, 1544, .inl (fS))), (pL, .inl (gK X 0, 1544, .inl (fL))), (pN, .inl (gK X 0, 1544, .inl (fN))), (pH, .inl (gK X 0, 256, .inl (fH))), (pK, .inl (gK X 0, 3001, .inl (fun _ => 0))), (pO, .inl (gK X 0, 3001, .inl (fun _ => 0))), (h1, .inr (1, [.ref t0, .ref t1, .ref t2, .ref t3, .ref t4, .ref t5, .ref t6, .ref t7, .ref t8, .ref t9, .ref t10, .int 1])), (t0, .inl (gK X 0, 3016, .inl (fun _ => 0))), (t1, .inl (gK X 0, 3016, .inl (fun _ => 0))), (t2, .inl (gK X 0, 3016, .inl (fun _ => 0))), (t3, .inl (gK X 0, 3016, .inl (fun _ => 0))), (t4, .inl (gK X 0, 3016, .inl (fun _ => 0))), (t5, .inl (gK X 0, 3016, .inl (fun _ => 0))), (t6, .inl (gK X 0, 3016, .inl (fun _ => 0))), (t7, .inl (gK X 0, 3016, .inl (fun _ => 0))), (t8, .inl (gK X 1, 3016, .inr (.inl (fun _ => 0)))), (t9, .inl (gK X 0, 3016, .inl (fun _ => 0))), (t10, .inl (gK X 0, 3016, .inl (fun _ => 0))), (hT, .inl (gK X 2, 3000, .inl (fT)))]) rfl ?_
  refine g_st (s2 := [.int 157, .ref h0]) rfl ?_
  refine g_put (w2 := [(h0, .inr (2, [.ref h1, .ref pP, .ref pS, .ref pL, .ref pN, .ref pH, .int 0, .int 157, .int 0, .ref pK, .ref pO, .ref pV, .int 0, .int 0, .int 0, .int 0, .int 0, .int 0])), (pP, .inl (gK X 2, 3157, .inl (f2))), (pS, .inl (gK X 0, 1544, .inl (fS))), (pL, .inl (gK X 0, 1544, .inl (fL))), (pN, .inl (gK X 0, 1544, .inl (fN))), (pH, .inl (gK X 0, 256, .inl (fH))), (pK, .inl (gK X 0, 3001, .inl (fun _ => 0))), (pO, .inl (gK X 0, 3001, .inl (fun _ => 0))), (h1, .inr (1, [.ref t0, .ref t1, .ref t2, .ref t3, .ref t4, .ref t5, .ref t6, .ref t7, .ref t8, .ref t9, .ref t10, .int 1])), (t0, .inl (gK X 0, 3016, .inl (fun _ => 0))), (t1, .inl (gK X 0, 3016, .inl (fun _ => 0))), (t2, .inl (gK X 0, 3016, .inl (fun _ => 0))), (t3, .inl (gK X 0, 3016, .inl (fun _ => 0))), (t4, .inl (gK X 0, 3016, .inl (fun _ => 0))), (t5, .inl (gK X 0, 3016, .inl (fun _ => 0))), (t6, .inl (gK X 0, 3016, .inl (fun _ => 0))), (t7, .inl (gK X 0, 3016, .inl (fun _ => 0))), (t8, .inl (gK X 1, 3016, .inr (.inl (fun _ => 0)))), (t9, .inl (gK X 0, 3016, .inl (fun _ => 0))), (t10, .inl (gK X 0, 3016, .inl (fun _ => 0))), (hT, .inl (gK X 2, 3000, .inl (fT)))]) (z := 24) C kX6 dX6_read_21 0 rfl 7 (by decide) w_149 rfl rfl rfl rfl (Nat.le_of_ble_eq_true rfl) rfl rfl ?_
  refine g_aload_n (z := 25) C dX6_read_24 0 rfl rfl rfl ?_
  refine g_aload_n (z := 26) C dX6_read_25 0 rfl rfl rfl ?_
  refine g_get (z := 29) C kX6 dX6_read_26 0 rfl 7 (by decide) w_149 rfl rfl rfl ?_
  refine g_iload_n (z := 30) C dX6_read_29 2 rfl rfl rfl ?_
  refine g_iadd (v := 157) (z := 31) C dX6_read_30 (by decide) rfl ?_
  refine g_put (w2 := [(h0, .inr (2, [.ref h1, .ref pP, .ref pS, .ref pL, .ref pN, .ref pH, .int 0, .int 157, .int 157, .ref pK, .ref pO, .ref pV, .int 0, .int 0, .int 0, .int 0, .int 0, .int 0])), (pP, .inl (gK X 2, 3157, .inl (f2))), (pS, .inl (gK X 0, 1544, .inl (fS))), (pL, .inl (gK X 0, 1544, .inl (fL))), (pN, .inl (gK X 0, 1544, .inl (fN))), (pH, .inl (gK X 0, 256, .inl (fH))), (pK, .inl (gK X 0, 3001, .inl (fun _ => 0))), (pO, .inl (gK X 0, 3001, .inl (fun _ => 0))), (h1, .inr (1, [.ref t0, .ref t1, .ref t2, .ref t3, .ref t4, .ref t5, .ref t6, .ref t7, .ref t8, .ref t9, .ref t10, .int 1])), (t0, .inl (gK X 0, 3016, .inl (fun _ => 0))), (t1, .inl (gK X 0, 3016, .inl (fun _ => 0))), (t2, .inl (gK X 0, 3016, .inl (fun _ => 0))), (t3, .inl (gK X 0, 3016, .inl (fun _ => 0))), (t4, .inl (gK X 0, 3016, .inl (fun _ => 0))), (t5, .inl (gK X 0, 3016, .inl (fun _ => 0))), (t6, .inl (gK X 0, 3016, .inl (fun _ => 0))), (t7, .inl (gK X 0, 3016, .inl (fun _ => 0))), (t8, .inl (gK X 1, 3016, .inr (.inl (fun _ => 0)))), (t9, .inl (gK X 0, 3016, .inl (fun _ => 0))), (t10, .inl (gK X 0, 3016, .inl (fun _ => 0))), (hT, .inl (gK X 2, 3000, .inl (fT)))]) (z := 34) C kX6 dX6_read_31 0 rfl 8 (by decide) w_150 rfl rfl rfl rfl (Nat.le_of_ble_eq_true rfl) rfl rfl ?_
  refine g_aload_n (z := 35) C dX6_read_34 0 rfl rfl rfl ?_
  refine g_iconst (v := 0) (z := 36) C dX6_read_35 (by decide) rfl ?_
  refine g_put (w2 := [(h0, .inr (2, [.ref h1, .ref pP, .ref pS, .ref pL, .ref pN, .ref pH, .int 0, .int 157, .int 157, .ref pK, .ref pO, .ref pV, .int 0, .int 0, .int 0, .int 0, .int 0, .int 0])), (pP, .inl (gK X 2, 3157, .inl (f2))), (pS, .inl (gK X 0, 1544, .inl (fS))), (pL, .inl (gK X 0, 1544, .inl (fL))), (pN, .inl (gK X 0, 1544, .inl (fN))), (pH, .inl (gK X 0, 256, .inl (fH))), (pK, .inl (gK X 0, 3001, .inl (fun _ => 0))), (pO, .inl (gK X 0, 3001, .inl (fun _ => 0))), (h1, .inr (1, [.ref t0, .ref t1, .ref t2, .ref t3, .ref t4, .ref t5, .ref t6, .ref t7, .ref t8, .ref t9, .ref t10, .int 1])), (t0, .inl (gK X 0, 3016, .inl (fun _ => 0))), (t1, .inl (gK X 0, 3016, .inl (fun _ => 0))), (t2, .inl (gK X 0, 3016, .inl (fun _ => 0))), (t3, .inl (gK X 0, 3016, .inl (fun _ => 0))), (t4, .inl (gK X 0, 3016, .inl (fun _ => 0))), (t5, .inl (gK X 0, 3016, .inl (fun _ => 0))), (t6, .inl (gK X 0, 3016, .inl (fun _ => 0))), (t7, .inl (gK X 0, 3016, .inl (fun _ => 0))), (t8, .inl (gK X 1, 3016, .inr (.inl (fun _ => 0)))), (t9, .inl (gK X 0, 3016, .inl (fun _ => 0))), (t10, .inl (gK X 0, 3016, .inl (fun _ => 0))), (hT, .inl (gK X 2, 3000, .inl (fT)))]) (z := 39) C kX6 dX6_read_36 0 rfl 16 (by decide) w_151 rfl rfl rfl rfl (Nat.le_of_ble_eq_true rfl) rfl rfl ?_
  refine g_aload_n (z := 40) C dX6_read_39 0 rfl rfl rfl ?_
  refine g_iconst (v := (-1)) (z := 41) C dX6_read_40 (by decide) rfl ?_
  refine g_put (w2 := [(h0, .inr (2, [.ref h1, .ref pP, .ref pS, .ref pL, .ref pN, .ref pH, .int 0, .int 157, .int 157, .ref pK, .ref pO, .ref pV, .int 0, .int 0, .int 0, .int 0, .int 0, .int (-1)])), (pP, .inl (gK X 2, 3157, .inl (f2))), (pS, .inl (gK X 0, 1544, .inl (fS))), (pL, .inl (gK X 0, 1544, .inl (fL))), (pN, .inl (gK X 0, 1544, .inl (fN))), (pH, .inl (gK X 0, 256, .inl (fH))), (pK, .inl (gK X 0, 3001, .inl (fun _ => 0))), (pO, .inl (gK X 0, 3001, .inl (fun _ => 0))), (h1, .inr (1, [.ref t0, .ref t1, .ref t2, .ref t3, .ref t4, .ref t5, .ref t6, .ref t7, .ref t8, .ref t9, .ref t10, .int 1])), (t0, .inl (gK X 0, 3016, .inl (fun _ => 0))), (t1, .inl (gK X 0, 3016, .inl (fun _ => 0))), (t2, .inl (gK X 0, 3016, .inl (fun _ => 0))), (t3, .inl (gK X 0, 3016, .inl (fun _ => 0))), (t4, .inl (gK X 0, 3016, .inl (fun _ => 0))), (t5, .inl (gK X 0, 3016, .inl (fun _ => 0))), (t6, .inl (gK X 0, 3016, .inl (fun _ => 0))), (t7, .inl (gK X 0, 3016, .inl (fun _ => 0))), (t8, .inl (gK X 1, 3016, .inr (.inl (fun _ => 0)))), (t9, .inl (gK X 0, 3016, .inl (fun _ => 0))), (t10, .inl (gK X 0, 3016, .inl (fun _ => 0))), (hT, .inl (gK X 2, 3000, .inl (fT)))]) (z := 44) C kX6 dX6_read_41 0 rfl 17 (by decide) w_152 rfl rfl rfl rfl (Nat.le_of_ble_eq_true rfl) rfl rfl ?_
  refine g_aload_n (z := 45) C dX6_read_44 0 rfl rfl rfl ?_
  refine g_callV (n := 0) (As := []) (rest := []) (wr := [(pK, .inl (gK X 0, 3001, .inl (fun _ => 0))), (pO, .inl (gK X 0, 3001, .inl (fun _ => 0))), (h1, .inr (1, [.ref t0, .ref t1, .ref t2, .ref t3, .ref t4, .ref t5, .ref t6, .ref t7, .ref t8, .ref t9, .ref t10, .int 1])), (t0, .inl (gK X 0, 3016, .inl (fun _ => 0))), (t1, .inl (gK X 0, 3016, .inl (fun _ => 0))), (t2, .inl (gK X 0, 3016, .inl (fun _ => 0))), (t3, .inl (gK X 0, 3016, .inl (fun _ => 0))), (t4, .inl (gK X 0, 3016, .inl (fun _ => 0))), (t5, .inl (gK X 0, 3016, .inl (fun _ => 0))), (t6, .inl (gK X 0, 3016, .inl (fun _ => 0))), (t7, .inl (gK X 0, 3016, .inl (fun _ => 0))), (t8, .inl (gK X 1, 3016, .inr (.inl (fun _ => 0)))), (t9, .inl (gK X 0, 3016, .inl (fun _ => 0))), (t10, .inl (gK X 0, 3016, .inl (fun _ => 0))), (hT, .inl (gK X 2, 3000, .inl (fT)))]) (a2 := 0) (b2 := 0) (z := 48) C hR (k_takeWords (gl X) (gD X) (gK X) h0 h1 pP pS pL pN pH pK pO pV 157 157 0 0 0 0 0 (-1) 0 f2 fS fL fN fH) dX6_read_45 w_153 w_160 w_161 w_159 w_16 ⟨by decide +kernel, by decide +kernel, by decide +kernel⟩ [0, 1, 2, 3, 4, 5] [6, 7, 8, 9, 10, 11, 12, 13, 14, 15, 16, 17, 18, 19, 20] rfl rfl rfl rfl rfl (by decide) ⟨(Nat.le_of_ble_eq_true rfl), (Nat.le_of_ble_eq_true rfl)⟩ rfl rfl (Nat.le_of_ble_eq_true rfl) (Nat.le_of_ble_eq_true rfl) (Nat.le_of_ble_eq_true rfl) rfl rfl 0 kX6 rfl rfl rfl rfl (fun v ws' hp => ?_)
  obtain ⟨rfl, n, gS, gL, gN, gH, rfl⟩ := hp
  refine g_ws (w2 := [(pK, .inl (gK X 0, 3001, .inl (fun _ => 0))), (pO, .inl (gK X 0, 3001, .inl (fun _ => 0))), (h1, .inr (1, [.ref t0, .ref t1, .ref t2, .ref t3, .ref t4, .ref t5, .ref t6, .ref t7, .ref t8, .ref t9, .ref t10, .int 1])), (t0, .inl (gK X 0, 3016, .inl (fun _ => 0))), (t1, .inl (gK X 0, 3016, .inl (fun _ => 0))), (t2, .inl (gK X 0, 3016, .inl (fun _ => 0))), (t3, .inl (gK X 0, 3016, .inl (fun _ => 0))), (t4, .inl (gK X 0, 3016, .inl (fun _ => 0))), (t5, .inl (gK X 0, 3016, .inl (fun _ => 0))), (t6, .inl (gK X 0, 3016, .inl (fun _ => 0))), (t7, .inl (gK X 0, 3016, .inl (fun _ => 0))), (t8, .inl (gK X 1, 3016, .inr (.inl (fun _ => 0)))), (t9, .inl (gK X 0, 3016, .inl (fun _ => 0))), (t10, .inl (gK X 0, 3016, .inl (fun _ => 0))), (hT, .inl (gK X 2, 3000, .inl (fT))), (h0, .inr (2, [.ref h1, .ref pP, .ref pS, .ref pL, .ref pN, .ref pH, .int (nI n), .int 157, .int 157, .ref pK, .ref pO, .ref pV, .int 0, .int 0, .int 0, .int 0, .int 0, .int (-1)])), (pP, .inl (gK X 2, 3157, .inl (f2))), (pS, .inl (gK X 0, 1544, .inl (gS))), (pL, .inl (gK X 0, 1544, .inl (gL))), (pN, .inl (gK X 0, 1544, .inl (gN))), (pH, .inl (gK X 0, 256, .inl (gH)))]) rfl ?_
  refine g_st (s2 := []) rfl ?_
  generalize nI n = xn
  refine g_aload_n (z := 49) C dX6_read_48 0 rfl rfl rfl ?_
  refine g_callV (n := 0) (As := []) (rest := []) (wr := [(h1, .inr (1, [.ref t0, .ref t1, .ref t2, .ref t3, .ref t4, .ref t5, .ref t6, .ref t7, .ref t8, .ref t9, .ref t10, .int 1])), (t0, .inl (gK X 0, 3016, .inl (fun _ => 0))), (t1, .inl (gK X 0, 3016, .inl (fun _ => 0))), (t2, .inl (gK X 0, 3016, .inl (fun _ => 0))), (t3, .inl (gK X 0, 3016, .inl (fun _ => 0))), (t4, .inl (gK X 0, 3016, .inl (fun _ => 0))), (t5, .inl (gK X 0, 3016, .inl (fun _ => 0))), (t6, .inl (gK X 0, 3016, .inl (fun _ => 0))), (t7, .inl (gK X 0, 3016, .inl (fun _ => 0))), (t8, .inl (gK X 1, 3016, .inr (.inl (fun _ => 0)))), (t9, .inl (gK X 0, 3016, .inl (fun _ => 0))), (t10, .inl (gK X 0, 3016, .inl (fun _ => 0))), (hT, .inl (gK X 2, 3000, .inl (fT))), (pP, .inl (gK X 2, 3157, .inl (f2))), (pS, .inl (gK X 0, 1544, .inl (gS))), (pL, .inl (gK X 0, 1544, .inl (gL))), (pN, .inl (gK X 0, 1544, .inl (gN))), (pH, .inl (gK X 0, 256, .inl (gH)))]) (a2 := 0) (b2 := 0) (z := 52) C hR (k_takeTokens (gl X) (gD X) (gK X) h0 h1 pP pS pL pN pH pK pO pV 157 157 0 0 0 0 0 (-1) xn) dX6_read_49 w_154 w_172 w_173 w_171 w_16 ⟨by decide +kernel, by decide +kernel, by decide +kernel⟩ [15, 0, 1] [2, 3, 4, 5, 6, 7, 8, 9, 10, 11, 12, 13, 14, 16, 17, 18, 19, 20] rfl rfl rfl rfl rfl (by decide) ⟨(Nat.le_of_ble_eq_true rfl), (Nat.le_of_ble_eq_true rfl)⟩ rfl rfl (Nat.le_of_ble_eq_true rfl) (Nat.le_of_ble_eq_true rfl) (Nat.le_of_ble_eq_true rfl) rfl rfl 15 kX6 rfl rfl rfl rfl (fun v ws' hp => ?_)
  obtain ⟨rfl, rfl⟩ := hp
  refine g_ws (w2 := [(h1, .inr (1, [.ref t0, .ref t1, .ref t2, .ref t3, .ref t4, .ref t5, .ref t6, .ref t7, .ref t8, .ref t9, .ref t10, .int 1])), (t0, .inl (gK X 0, 3016, .inl (fun _ => 0))), (t1, .inl (gK X 0, 3016, .inl (fun _ => 0))), (t2, .inl (gK X 0, 3016, .inl (fun _ => 0))), (t3, .inl (gK X 0, 3016, .inl (fun _ => 0))), (t4, .inl (gK X 0, 3016, .inl (fun _ => 0))), (t5, .inl (gK X 0, 3016, .inl (fun _ => 0))), (t6, .inl (gK X 0, 3016, .inl (fun _ => 0))), (t7, .inl (gK X 0, 3016, .inl (fun _ => 0))), (t8, .inl (gK X 1, 3016, .inr (.inl (fun _ => 0)))), (t9, .inl (gK X 0, 3016, .inl (fun _ => 0))), (t10, .inl (gK X 0, 3016, .inl (fun _ => 0))), (hT, .inl (gK X 2, 3000, .inl (fT))), (pP, .inl (gK X 2, 3157, .inl (f2))), (pS, .inl (gK X 0, 1544, .inl (gS))), (pL, .inl (gK X 0, 1544, .inl (gL))), (pN, .inl (gK X 0, 1544, .inl (gN))), (pH, .inl (gK X 0, 256, .inl (gH))), (h0, .inr (2, [.ref h1, .ref pP, .ref pS, .ref pL, .ref pN, .ref pH, .int xn, .int 157, .int 157, .ref pK, .ref pO, .ref pV, .int 1, .int 0, .int 0, .int 0, .int 0, .int (-1)])), (pK, .inl (gK X 0, 3001, .inl (upd (fun _ => 0) (0 : Int32).toNatClampNeg 0))), (pO, .inl (gK X 0, 3001, .inl (upd (fun _ => 0) (0 : Int32).toNatClampNeg 0)))]) rfl ?_
  refine g_st (s2 := []) rfl ?_
  refine g_aload_n (z := 53) C dX6_read_52 0 rfl rfl rfl ?_
  refine g_get (z := 56) C kX6 dX6_read_53 18 rfl 0 (by decide) w_140 rfl rfl rfl ?_
  refine g_callVN (n := 0) (As := []) (rest := []) (wr := [(t0, .inl (gK X 0, 3016, .inl (fun _ => 0))), (t1, .inl (gK X 0, 3016, .inl (fun _ => 0))), (t2, .inl (gK X 0, 3016, .inl (fun _ => 0))), (t3, .inl (gK X 0, 3016, .inl (fun _ => 0))), (t4, .inl (gK X 0, 3016, .inl (fun _ => 0))), (t5, .inl (gK X 0, 3016, .inl (fun _ => 0))), (t6, .inl (gK X 0, 3016, .inl (fun _ => 0))), (t7, .inl (gK X 0, 3016, .inl (fun _ => 0))), (t8, .inl (gK X 1, 3016, .inr (.inl (fun _ => 0)))), (t9, .inl (gK X 0, 3016, .inl (fun _ => 0))), (t10, .inl (gK X 0, 3016, .inl (fun _ => 0))), (hT, .inl (gK X 2, 3000, .inl (fT))), (pP, .inl (gK X 2, 3157, .inl (f2))), (pS, .inl (gK X 0, 1544, .inl (gS))), (pL, .inl (gK X 0, 1544, .inl (gL))), (pN, .inl (gK X 0, 1544, .inl (gN))), (pH, .inl (gK X 0, 256, .inl (gH))), (h0, .inr (2, [.ref h1, .ref pP, .ref pS, .ref pL, .ref pN, .ref pH, .int xn, .int 157, .int 157, .ref pK, .ref pO, .ref pV, .int 1, .int 0, .int 0, .int 0, .int 0, .int (-1)])), (pK, .inl (gK X 0, 3001, .inl (upd (fun _ => 0) (0 : Int32).toNatClampNeg 0))), (pO, .inl (gK X 0, 3001, .inl (upd (fun _ => 0) (0 : Int32).toNatClampNeg 0)))]) (a2 := 0) (b2 := 0) (z := 59) C hR (k_X8_clear (gl X) (gD X) (gK X) h1 t0 t1 t2 t3 t4 t5 t6 t7 t8 t9 t10) dX6_read_56 nw_35 w_123 w_124 w_122 w_12 ⟨by decide +kernel, by decide +kernel, by decide +kernel⟩ [0] [1, 2, 3, 4, 5, 6, 7, 8, 9, 10, 11, 12, 13, 14, 15, 16, 17, 18, 19, 20] rfl rfl rfl rfl rfl (by decide) ⟨(Nat.le_of_ble_eq_true rfl), (Nat.le_of_ble_eq_true rfl)⟩ rfl rfl (Nat.le_of_ble_eq_true rfl) (Nat.le_of_ble_eq_true rfl) (Nat.le_of_ble_eq_true rfl) rfl rfl 0 kX8 rfl rfl rfl rfl (fun v ws' hp => ?_)
  obtain ⟨rfl, rfl⟩ := hp
  refine g_ws (w2 := [(t0, .inl (gK X 0, 3016, .inl (fun _ => 0))), (t1, .inl (gK X 0, 3016, .inl (fun _ => 0))), (t2, .inl (gK X 0, 3016, .inl (fun _ => 0))), (t3, .inl (gK X 0, 3016, .inl (fun _ => 0))), (t4, .inl (gK X 0, 3016, .inl (fun _ => 0))), (t5, .inl (gK X 0, 3016, .inl (fun _ => 0))), (t6, .inl (gK X 0, 3016, .inl (fun _ => 0))), (t7, .inl (gK X 0, 3016, .inl (fun _ => 0))), (t8, .inl (gK X 1, 3016, .inr (.inl (fun _ => 0)))), (t9, .inl (gK X 0, 3016, .inl (fun _ => 0))), (t10, .inl (gK X 0, 3016, .inl (fun _ => 0))), (hT, .inl (gK X 2, 3000, .inl (fT))), (pP, .inl (gK X 2, 3157, .inl (f2))), (pS, .inl (gK X 0, 1544, .inl (gS))), (pL, .inl (gK X 0, 1544, .inl (gL))), (pN, .inl (gK X 0, 1544, .inl (gN))), (pH, .inl (gK X 0, 256, .inl (gH))), (h0, .inr (2, [.ref h1, .ref pP, .ref pS, .ref pL, .ref pN, .ref pH, .int xn, .int 157, .int 157, .ref pK, .ref pO, .ref pV, .int 1, .int 0, .int 0, .int 0, .int 0, .int (-1)])), (pK, .inl (gK X 0, 3001, .inl (upd (fun _ => 0) (0 : Int32).toNatClampNeg 0))), (pO, .inl (gK X 0, 3001, .inl (upd (fun _ => 0) (0 : Int32).toNatClampNeg 0))), (h1, .inr (1, [.ref t0, .ref t1, .ref t2, .ref t3, .ref t4, .ref t5, .ref t6, .ref t7, .ref t8, .ref t9, .ref t10, .int 1]))]) rfl ?_
  refine g_st (s2 := []) rfl ?_
  refine g_aload_n (z := 60) C dX6_read_59 0 rfl rfl rfl ?_
  refine g_iconst (v := (-1)) (z := 61) C dX6_read_60 (by decide) rfl ?_
  refine g_put (w2 := [(t0, .inl (gK X 0, 3016, .inl (fun _ => 0))), (t1, .inl (gK X 0, 3016, .inl (fun _ => 0))), (t2, .inl (gK X 0, 3016, .inl (fun _ => 0))), (t3, .inl (gK X 0, 3016, .inl (fun _ => 0))), (t4, .inl (gK X 0, 3016, .inl (fun _ => 0))), (t5, .inl (gK X 0, 3016, .inl (fun _ => 0))), (t6, .inl (gK X 0, 3016, .inl (fun _ => 0))), (t7, .inl (gK X 0, 3016, .inl (fun _ => 0))), (t8, .inl (gK X 1, 3016, .inr (.inl (fun _ => 0)))), (t9, .inl (gK X 0, 3016, .inl (fun _ => 0))), (t10, .inl (gK X 0, 3016, .inl (fun _ => 0))), (hT, .inl (gK X 2, 3000, .inl (fT))), (pP, .inl (gK X 2, 3157, .inl (f2))), (pS, .inl (gK X 0, 1544, .inl (gS))), (pL, .inl (gK X 0, 1544, .inl (gL))), (pN, .inl (gK X 0, 1544, .inl (gN))), (pH, .inl (gK X 0, 256, .inl (gH))), (h0, .inr (2, [.ref h1, .ref pP, .ref pS, .ref pL, .ref pN, .ref pH, .int xn, .int 157, .int 157, .ref pK, .ref pO, .ref pV, .int 1, .int (-1), .int 0, .int 0, .int 0, .int (-1)])), (pK, .inl (gK X 0, 3001, .inl (upd (fun _ => 0) (0 : Int32).toNatClampNeg 0))), (pO, .inl (gK X 0, 3001, .inl (upd (fun _ => 0) (0 : Int32).toNatClampNeg 0))), (h1, .inr (1, [.ref t0, .ref t1, .ref t2, .ref t3, .ref t4, .ref t5, .ref t6, .ref t7, .ref t8, .ref t9, .ref t10, .int 1]))]) (z := 64) C kX6 dX6_read_61 17 rfl 13 (by decide) w_155 rfl rfl rfl rfl (Nat.le_of_ble_eq_true rfl) rfl rfl ?_
  refine g_aload_n (z := 65) C dX6_read_64 0 rfl rfl rfl ?_
  refine g_callV (n := 0) (As := []) (rest := []) (wr := [(t0, .inl (gK X 0, 3016, .inl (fun _ => 0))), (t1, .inl (gK X 0, 3016, .inl (fun _ => 0))), (t2, .inl (gK X 0, 3016, .inl (fun _ => 0))), (t3, .inl (gK X 0, 3016, .inl (fun _ => 0))), (t4, .inl (gK X 0, 3016, .inl (fun _ => 0))), (t5, .inl (gK X 0, 3016, .inl (fun _ => 0))), (t6, .inl (gK X 0, 3016, .inl (fun _ => 0))), (t7, .inl (gK X 0, 3016, .inl (fun _ => 0))), (t8, .inl (gK X 1, 3016, .inr (.inl (fun _ => 0)))), (t9, .inl (gK X 0, 3016, .inl (fun _ => 0))), (t10, .inl (gK X 0, 3016, .inl (fun _ => 0))), (hT, .inl (gK X 2, 3000, .inl (fT))), (pP, .inl (gK X 2, 3157, .inl (f2))), (pS, .inl (gK X 0, 1544, .inl (gS))), (pL, .inl (gK X 0, 1544, .inl (gL))), (pN, .inl (gK X 0, 1544, .inl (gN))), (pH, .inl (gK X 0, 256, .inl (gH))), (h1, .inr (1, [.ref t0, .ref t1, .ref t2, .ref t3, .ref t4, .ref t5, .ref t6, .ref t7, .ref t8, .ref t9, .ref t10, .int 1]))]) (a2 := 0) (b2 := 0) (z := 68) C hR (k_advance (gl X) (gD X) (gK X) h0 h1 pP pS pL pN pH pK pO pV 157 157 1 (-1) 0 0 0 (-1) xn) dX6_read_65 w_156 w_180 w_181 w_179 w_16 ⟨by decide +kernel, by decide +kernel, by decide +kernel⟩ [17, 18, 19] [0, 1, 2, 3, 4, 5, 6, 7, 8, 9, 10, 11, 12, 13, 14, 15, 16, 20] rfl rfl rfl rfl rfl (by decide) ⟨(Nat.le_of_ble_eq_true rfl), (Nat.le_of_ble_eq_true rfl)⟩ rfl rfl (Nat.le_of_ble_eq_true rfl) (Nat.le_of_ble_eq_true rfl) (Nat.le_of_ble_eq_true rfl) rfl rfl 17 kX6 rfl rfl rfl rfl (fun v ws' hp => ?_)
  obtain ⟨rfl, rfl⟩ := hp
  refine g_ws (w2 := [(t0, .inl (gK X 0, 3016, .inl (fun _ => 0))), (t1, .inl (gK X 0, 3016, .inl (fun _ => 0))), (t2, .inl (gK X 0, 3016, .inl (fun _ => 0))), (t3, .inl (gK X 0, 3016, .inl (fun _ => 0))), (t4, .inl (gK X 0, 3016, .inl (fun _ => 0))), (t5, .inl (gK X 0, 3016, .inl (fun _ => 0))), (t6, .inl (gK X 0, 3016, .inl (fun _ => 0))), (t7, .inl (gK X 0, 3016, .inl (fun _ => 0))), (t8, .inl (gK X 1, 3016, .inr (.inl (fun _ => 0)))), (t9, .inl (gK X 0, 3016, .inl (fun _ => 0))), (t10, .inl (gK X 0, 3016, .inl (fun _ => 0))), (hT, .inl (gK X 2, 3000, .inl (fT))), (pP, .inl (gK X 2, 3157, .inl (f2))), (pS, .inl (gK X 0, 1544, .inl (gS))), (pL, .inl (gK X 0, 1544, .inl (gL))), (pN, .inl (gK X 0, 1544, .inl (gN))), (pH, .inl (gK X 0, 256, .inl (gH))), (h1, .inr (1, [.ref t0, .ref t1, .ref t2, .ref t3, .ref t4, .ref t5, .ref t6, .ref t7, .ref t8, .ref t9, .ref t10, .int 1])), (h0, .inr (2, [.ref h1, .ref pP, .ref pS, .ref pL, .ref pN, .ref pH, .int xn, .int 157, .int 157, .ref pK, .ref pO, .ref pV, .int 1, .int 0, .int 0, .int 0, .int 0, .int (-1)])), (pK, .inl (gK X 0, 3001, .inl (upd (fun _ => 0) (0 : Int32).toNatClampNeg 0))), (pO, .inl (gK X 0, 3001, .inl (upd (fun _ => 0) (0 : Int32).toNatClampNeg 0)))]) rfl ?_
  refine g_st (s2 := []) rfl ?_
  refine g_aload_n (z := 69) C dX6_read_68 0 rfl rfl rfl ?_
  refine g_get (z := 72) C kX6 dX6_read_69 18 rfl 0 (by decide) w_140 rfl rfl rfl ?_
  refine g_sipush (v := 300) (z := 75) C dX6_read_72 (by decide) rfl ?_
  refine g_iconst (v := 0) (z := 76) C dX6_read_75 (by decide) rfl ?_
  refine g_callVN (n := 2) (As := [.int 300, .int 0]) (rest := []) (wr := [(hT, .inl (gK X 2, 3000, .inl (fT))), (pP, .inl (gK X 2, 3157, .inl (f2))), (pS, .inl (gK X 0, 1544, .inl (gS))), (pL, .inl (gK X 0, 1544, .inl (gL))), (pN, .inl (gK X 0, 1544, .inl (gN))), (pH, .inl (gK X 0, 256, .inl (gH))), (h0, .inr (2, [.ref h1, .ref pP, .ref pS, .ref pL, .ref pN, .ref pH, .int xn, .int 157, .int 157, .ref pK, .ref pO, .ref pV, .int 1, .int 0, .int 0, .int 0, .int 0, .int (-1)])), (pK, .inl (gK X 0, 3001, .inl (upd (fun _ => 0) (0 : Int32).toNatClampNeg 0))), (pO, .inl (gK X 0, 3001, .inl (upd (fun _ => 0) (0 : Int32).toNatClampNeg 0)))]) (a2 := 0) (b2 := 0) (z := 79) C hR (k_X8_add (gl X) (gD X) (gK X) h1 t0 t1 t2 t3 t4 t5 t6 t7 t8 t9 t10) dX6_read_76 nw_36 w_126 w_127 w_125 w_12 ⟨by decide +kernel, by decide +kernel, by decide +kernel⟩ [17, 0, 1, 2, 3, 4, 5, 6, 7, 8, 9, 10] [11, 12, 13, 14, 15, 16, 18, 19, 20] rfl rfl rfl rfl rfl (by decide) ⟨(Nat.le_of_ble_eq_true rfl), (Nat.le_of_ble_eq_true rfl)⟩ rfl rfl (Nat.le_of_ble_eq_true rfl) (Nat.le_of_ble_eq_true rfl) (Nat.le_of_ble_eq_true rfl) rfl rfl 17 kX8 rfl rfl rfl rfl (fun v ws' hp => ?_)
  obtain ⟨rfl, rfl⟩ := hp
  refine g_ws (w2 := [(hT, .inl (gK X 2, 3000, .inl (fT))), (pP, .inl (gK X 2, 3157, .inl (f2))), (pS, .inl (gK X 0, 1544, .inl (gS))), (pL, .inl (gK X 0, 1544, .inl (gL))), (pN, .inl (gK X 0, 1544, .inl (gN))), (pH, .inl (gK X 0, 256, .inl (gH))), (h0, .inr (2, [.ref h1, .ref pP, .ref pS, .ref pL, .ref pN, .ref pH, .int xn, .int 157, .int 157, .ref pK, .ref pO, .ref pV, .int 1, .int 0, .int 0, .int 0, .int 0, .int (-1)])), (pK, .inl (gK X 0, 3001, .inl (upd (fun _ => 0) (0 : Int32).toNatClampNeg 0))), (pO, .inl (gK X 0, 3001, .inl (upd (fun _ => 0) (0 : Int32).toNatClampNeg 0))), (h1, .inr (1, [.ref t0, .ref t1, .ref t2, .ref t3, .ref t4, .ref t5, .ref t6, .ref t7, .ref t8, .ref t9, .ref t10, .int 2])), (t0, .inl (gK X 0, 3016, .inl (upd (fun _ => 0) (1 : Int32).toNatClampNeg 300))), (t1, .inl (gK X 0, 3016, .inl (upd (fun _ => 0) (1 : Int32).toNatClampNeg 0))), (t2, .inl (gK X 0, 3016, .inl (upd (fun _ => 0) (1 : Int32).toNatClampNeg 0))), (t3, .inl (gK X 0, 3016, .inl (upd (fun _ => 0) (1 : Int32).toNatClampNeg 0))), (t4, .inl (gK X 0, 3016, .inl (upd (fun _ => 0) (1 : Int32).toNatClampNeg 0))), (t5, .inl (gK X 0, 3016, .inl (upd (fun _ => 0) (1 : Int32).toNatClampNeg 0))), (t6, .inl (gK X 0, 3016, .inl (upd (fun _ => 0) (1 : Int32).toNatClampNeg 0))), (t7, .inl (gK X 0, 3016, .inl (upd (fun _ => 0) (1 : Int32).toNatClampNeg 0))), (t8, .inl (gK X 1, 3016, .inr (.inl (vp_updL (fun _ => 0) (1 : Int32).toNatClampNeg 0)))), (t9, .inl (gK X 0, 3016, .inl (upd (fun _ => 0) (1 : Int32).toNatClampNeg 0))), (t10, .inl (gK X 0, 3016, .inl (upd (fun _ => 0) (1 : Int32).toNatClampNeg 0)))]) rfl ?_
  refine g_st (s2 := [.int 1]) rfl ?_
  refine g_istore_n (l2 := [(3, .int 1), (0, .ref h0), (1, .ref hT), (2, .int 0)]) (z := 80) C dX6_read_79 rfl (by decide) rfl rfl ?_
  refine g_iconst (v := 0) (z := 81) C dX6_read_80 (by decide) rfl ?_
  refine g_istore (l2 := [(4, .int 0), (3, .int 1), (0, .ref h0), (1, .ref hT), (2, .int 0)]) (z := 83) C dX6_read_81 (by decide) rfl rfl ?_
  refine g_iconst (v := 0) (z := 84) C dX6_read_83 (by decide) rfl ?_
  refine g_istore (l2 := [(5, .int 0), (4, .int 0), (3, .int 1), (0, .ref h0), (1, .ref hT), (2, .int 0)]) (z := 86) C dX6_read_84 (by decide) rfl rfl ?_
  refine g_iload (z := 88) C dX6_read_86 0 rfl rfl ?_
  refine g_sipush (v := 3000) (z := 91) C dX6_read_88 (by decide) rfl ?_
  refine g_icmp_gt_f (z := 94) 210 C dX6_read_91 (by decide) (by decide) rfl ?_
  refine g_aload_n (z := 95) C dX6_read_94 3 rfl rfl rfl ?_
  refine g_get (z := 98) C kX6 dX6_read_95 6 rfl 14 (by decide) w_157 rfl rfl rfl ?_
  refine g_if_eq_t (z := 210) C dX6_read_98 (by decide) (by decide) ?_
  refine g_aload_n (z := 211) C dX6_read_210 3 rfl rfl rfl ?_
  refine g_get (z := 214) C kX6 dX6_read_211 6 rfl 17 (by decide) w_152 rfl rfl rfl ?_
  refine g_sub (w2 := [(h0, .inr (2, [.ref h1, .ref pP, .ref pS, .ref pL, .ref pN, .ref pH, .int xn, .int 157, .int 157, .ref pK, .ref pO, .ref pV, .int 1, .int 0, .int 0, .int 0, .int 0, .int (-1)])), (pP, .inl (gK X 2, 3157, .inl (f2))), (pS, .inl (gK X 0, 1544, .inl (gS))), (pL, .inl (gK X 0, 1544, .inl (gL))), (pN, .inl (gK X 0, 1544, .inl (gN))), (pH, .inl (gK X 0, 256, .inl (gH))), (pK, .inl (gK X 0, 3001, .inl (upd (fun _ => 0) (0 : Int32).toNatClampNeg 0))), (pO, .inl (gK X 0, 3001, .inl (upd (fun _ => 0) (0 : Int32).toNatClampNeg 0))), (h1, .inr (1, [.ref t0, .ref t1, .ref t2, .ref t3, .ref t4, .ref t5, .ref t6, .ref t7, .ref t8, .ref t9, .ref t10, .int 2])), (t0, .inl (gK X 0, 3016, .inl (upd (fun _ => 0) (1 : Int32).toNatClampNeg 300))), (t1, .inl (gK X 0, 3016, .inl (upd (fun _ => 0) (1 : Int32).toNatClampNeg 0))), (t2, .inl (gK X 0, 3016, .inl (upd (fun _ => 0) (1 : Int32).toNatClampNeg 0))), (t3, .inl (gK X 0, 3016, .inl (upd (fun _ => 0) (1 : Int32).toNatClampNeg 0))), (t4, .inl (gK X 0, 3016, .inl (upd (fun _ => 0) (1 : Int32).toNatClampNeg 0))), (t5, .inl (gK X 0, 3016, .inl (upd (fun _ => 0) (1 : Int32).toNatClampNeg 0))), (t6, .inl (gK X 0, 3016, .inl (upd (fun _ => 0) (1 : Int32).toNatClampNeg 0))), (t7, .inl (gK X 0, 3016, .inl (upd (fun _ => 0) (1 : Int32).toNatClampNeg 0))), (t8, .inl (gK X 1, 3016, .inr (.inl (vp_updL (fun _ => 0) (1 : Int32).toNatClampNeg 0)))), (t9, .inl (gK X 0, 3016, .inl (upd (fun _ => 0) (1 : Int32).toNatClampNeg 0))), (t10, .inl (gK X 0, 3016, .inl (upd (fun _ => 0) (1 : Int32).toNatClampNeg 0))), (hT, .inl (gK X 2, 3000, .inl (fT)))]) [6, 1, 2, 3, 4, 5, 7, 8, 9, 10, 11, 12, 13, 14, 15, 16, 17, 18, 19, 20, 0] rfl rfl rfl ?_
  exact g_iret C hQ dX6_read_214 rfl (Nat.le_of_ble_eq_true rfl) (Nat.le_of_ble_eq_true rfl) ⟨rfl, xn, f2, gS, gL, gN, gH, rfl⟩

theorem dX0_init_0 : decode cX0_init 0 = .ok (.aload_n 0, 1) := by decide +kernel
theorem dX0_init_1 : decode cX0_init 1 = .ok (.invokespecial 3, 3) := by decide +kernel
theorem dX0_init_4 : decode cX0_init 4 = .ok (.aload_n 0, 1) := by decide +kernel
theorem dX0_init_5 : decode cX0_init 5 = .ok (.aload_n 1, 1) := by decide +kernel
theorem dX0_init_6 : decode cX0_init 6 = .ok (.putfield 9, 3) := by decide +kernel
theorem dX0_init_9 : decode cX0_init 9 = .ok (.return_, 1) := by decide +kernel
theorem dX10_init_0 : decode cX10_init 0 = .ok (.aload_n 0, 1) := by decide +kernel
theorem dX10_init_1 : decode cX10_init 1 = .ok (.invokespecial 3, 3) := by decide +kernel
theorem dX10_init_4 : decode cX10_init 4 = .ok (.aload_n 0, 1) := by decide +kernel
theorem dX10_init_5 : decode cX10_init 5 = .ok (.sipush 1504, 3) := by decide +kernel
theorem dX10_init_8 : decode cX10_init 8 = .ok (.newarray .int, 2) := by decide +kernel
theorem dX10_init_10 : decode cX10_init 10 = .ok (.putfield 9, 3) := by decide +kernel
theorem dX10_init_13 : decode cX10_init 13 = .ok (.aload_n 0, 1) := by decide +kernel
theorem dX10_init_14 : decode cX10_init 14 = .ok (.sipush 1504, 3) := by decide +kernel
theorem dX10_init_17 : decode cX10_init 17 = .ok (.newarray .int, 2) := by decide +kernel
theorem dX10_init_19 : decode cX10_init 19 = .ok (.putfield 15, 3) := by decide +kernel
theorem dX10_init_22 : decode cX10_init 22 = .ok (.aload_n 0, 1) := by decide +kernel
theorem dX10_init_23 : decode cX10_init 23 = .ok (.sipush 1504, 3) := by decide +kernel
theorem dX10_init_26 : decode cX10_init 26 = .ok (.newarray .int, 2) := by decide +kernel
theorem dX10_init_28 : decode cX10_init 28 = .ok (.putfield 18, 3) := by decide +kernel
theorem dX10_init_31 : decode cX10_init 31 = .ok (.aload_n 0, 1) := by decide +kernel
theorem dX10_init_32 : decode cX10_init 32 = .ok (.sipush 1504, 3) := by decide +kernel
theorem dX10_init_35 : decode cX10_init 35 = .ok (.newarray .int, 2) := by decide +kernel
theorem dX10_init_37 : decode cX10_init 37 = .ok (.putfield 21, 3) := by decide +kernel
theorem dX10_init_40 : decode cX10_init 40 = .ok (.aload_n 0, 1) := by decide +kernel
theorem dX10_init_41 : decode cX10_init 41 = .ok (.sipush 1504, 3) := by decide +kernel
theorem dX10_init_44 : decode cX10_init 44 = .ok (.newarray .int, 2) := by decide +kernel
theorem dX10_init_46 : decode cX10_init 46 = .ok (.putfield 24, 3) := by decide +kernel
theorem dX10_init_49 : decode cX10_init 49 = .ok (.aload_n 0, 1) := by decide +kernel
theorem dX10_init_50 : decode cX10_init 50 = .ok (.sipush 1504, 3) := by decide +kernel
theorem dX10_init_53 : decode cX10_init 53 = .ok (.newarray .int, 2) := by decide +kernel
theorem dX10_init_55 : decode cX10_init 55 = .ok (.putfield 27, 3) := by decide +kernel
theorem dX10_init_58 : decode cX10_init 58 = .ok (.aload_n 0, 1) := by decide +kernel
theorem dX10_init_59 : decode cX10_init 59 = .ok (.sipush 1504, 3) := by decide +kernel
theorem dX10_init_62 : decode cX10_init 62 = .ok (.newarray .int, 2) := by decide +kernel
theorem dX10_init_64 : decode cX10_init 64 = .ok (.putfield 30, 3) := by decide +kernel
theorem dX10_init_67 : decode cX10_init 67 = .ok (.aload_n 0, 1) := by decide +kernel
theorem dX10_init_68 : decode cX10_init 68 = .ok (.sipush 1504, 3) := by decide +kernel
theorem dX10_init_71 : decode cX10_init 71 = .ok (.newarray .long, 2) := by decide +kernel
theorem dX10_init_73 : decode cX10_init 73 = .ok (.putfield 33, 3) := by decide +kernel
theorem dX10_init_76 : decode cX10_init 76 = .ok (.aload_n 0, 1) := by decide +kernel
theorem dX10_init_77 : decode cX10_init 77 = .ok (.sipush 1800, 3) := by decide +kernel
theorem dX10_init_80 : decode cX10_init 80 = .ok (.newarray .int, 2) := by decide +kernel
theorem dX10_init_82 : decode cX10_init 82 = .ok (.putfield 37, 3) := by decide +kernel
theorem dX10_init_85 : decode cX10_init 85 = .ok (.aload_n 0, 1) := by decide +kernel
theorem dX10_init_86 : decode cX10_init 86 = .ok (.sipush 1800, 3) := by decide +kernel
theorem dX10_init_89 : decode cX10_init 89 = .ok (.newarray .int, 2) := by decide +kernel
theorem dX10_init_91 : decode cX10_init 91 = .ok (.putfield 40, 3) := by decide +kernel
theorem dX10_init_94 : decode cX10_init 94 = .ok (.return_, 1) := by decide +kernel
theorem dX11_init_0 : decode cX11_init 0 = .ok (.aload_n 0, 1) := by decide +kernel
theorem dX11_init_1 : decode cX11_init 1 = .ok (.invokespecial 5, 3) := by decide +kernel
theorem dX11_init_4 : decode cX11_init 4 = .ok (.aload_n 0, 1) := by decide +kernel
theorem dX11_init_5 : decode cX11_init 5 = .ok (.bipush 42, 2) := by decide +kernel
theorem dX11_init_7 : decode cX11_init 7 = .ok (.newarray .long, 2) := by decide +kernel
theorem dX11_init_9 : decode cX11_init 9 = .ok (.putfield 11, 3) := by decide +kernel
theorem dX11_init_12 : decode cX11_init 12 = .ok (.aload_n 0, 1) := by decide +kernel
theorem dX11_init_13 : decode cX11_init 13 = .ok (.sipush 2016, 3) := by decide +kernel
theorem dX11_init_16 : decode cX11_init 16 = .ok (.newarray .long, 2) := by decide +kernel
theorem dX11_init_18 : decode cX11_init 18 = .ok (.putfield 15, 3) := by decide +kernel
theorem dX11_init_21 : decode cX11_init 21 = .ok (.aload_n 0, 1) := by decide +kernel
theorem dX11_init_22 : decode cX11_init 22 = .ok (.bipush 48, 2) := by decide +kernel
theorem dX11_init_24 : decode cX11_init 24 = .ok (.newarray .boolean, 2) := by decide +kernel
theorem dX11_init_26 : decode cX11_init 26 = .ok (.putfield 18, 3) := by decide +kernel
theorem dX11_init_29 : decode cX11_init 29 = .ok (.aload_n 0, 1) := by decide +kernel
theorem dX11_init_30 : decode cX11_init 30 = .ok (.sipush 1504, 3) := by decide +kernel
theorem dX11_init_33 : decode cX11_init 33 = .ok (.newarray .long, 2) := by decide +kernel
theorem dX11_init_35 : decode cX11_init 35 = .ok (.putfield 22, 3) := by decide +kernel
theorem dX11_init_38 : decode cX11_init 38 = .ok (.aload_n 0, 1) := by decide +kernel
theorem dX11_init_39 : decode cX11_init 39 = .ok (.sipush 400, 3) := by decide +kernel
theorem dX11_init_42 : decode cX11_init 42 = .ok (.newarray .long, 2) := by decide +kernel
theorem dX11_init_44 : decode cX11_init 44 = .ok (.putfield 25, 3) := by decide +kernel
theorem dX11_init_47 : decode cX11_init 47 = .ok (.aload_n 0, 1) := by decide +kernel
theorem dX11_init_48 : decode cX11_init 48 = .ok (.sipush 3072, 3) := by decide +kernel
theorem dX11_init_51 : decode cX11_init 51 = .ok (.newarray .long, 2) := by decide +kernel
theorem dX11_init_53 : decode cX11_init 53 = .ok (.putfield 28, 3) := by decide +kernel
theorem dX11_init_56 : decode cX11_init 56 = .ok (.aload_n 0, 1) := by decide +kernel
theorem dX11_init_57 : decode cX11_init 57 = .ok (.sipush 3072, 3) := by decide +kernel
theorem dX11_init_60 : decode cX11_init 60 = .ok (.newarray .boolean, 2) := by decide +kernel
theorem dX11_init_62 : decode cX11_init 62 = .ok (.putfield 31, 3) := by decide +kernel
theorem dX11_init_65 : decode cX11_init 65 = .ok (.return_, 1) := by decide +kernel
theorem dX1_init_0 : decode cX1_init 0 = .ok (.aload_n 0, 1) := by decide +kernel
theorem dX1_init_1 : decode cX1_init 1 = .ok (.invokespecial 3, 3) := by decide +kernel
theorem dX1_init_4 : decode cX1_init 4 = .ok (.aload_n 0, 1) := by decide +kernel
theorem dX1_init_5 : decode cX1_init 5 = .ok (.aload_n 1, 1) := by decide +kernel
theorem dX1_init_6 : decode cX1_init 6 = .ok (.putfield 9, 3) := by decide +kernel
theorem dX1_init_9 : decode cX1_init 9 = .ok (.return_, 1) := by decide +kernel
theorem dX2_init_0 : decode cX2_init 0 = .ok (.aload_n 0, 1) := by decide +kernel
theorem dX2_init_1 : decode cX2_init 1 = .ok (.invokespecial 3, 3) := by decide +kernel
theorem dX2_init_4 : decode cX2_init 4 = .ok (.aload_n 0, 1) := by decide +kernel
theorem dX2_init_5 : decode cX2_init 5 = .ok (.sipush 380, 3) := by decide +kernel
theorem dX2_init_8 : decode cX2_init 8 = .ok (.newarray .int, 2) := by decide +kernel
theorem dX2_init_10 : decode cX2_init 10 = .ok (.putfield 9, 3) := by decide +kernel
theorem dX2_init_13 : decode cX2_init 13 = .ok (.aload_n 0, 1) := by decide +kernel
theorem dX2_init_14 : decode cX2_init 14 = .ok (.sipush 380, 3) := by decide +kernel
theorem dX2_init_17 : decode cX2_init 17 = .ok (.newarray .int, 2) := by decide +kernel
theorem dX2_init_19 : decode cX2_init 19 = .ok (.putfield 15, 3) := by decide +kernel
theorem dX2_init_22 : decode cX2_init 22 = .ok (.aload_n 0, 1) := by decide +kernel
theorem dX2_init_23 : decode cX2_init 23 = .ok (.sipush 380, 3) := by decide +kernel
theorem dX2_init_26 : decode cX2_init 26 = .ok (.newarray .int, 2) := by decide +kernel
theorem dX2_init_28 : decode cX2_init 28 = .ok (.putfield 18, 3) := by decide +kernel
theorem dX2_init_31 : decode cX2_init 31 = .ok (.aload_n 0, 1) := by decide +kernel
theorem dX2_init_32 : decode cX2_init 32 = .ok (.sipush 380, 3) := by decide +kernel
theorem dX2_init_35 : decode cX2_init 35 = .ok (.newarray .long, 2) := by decide +kernel
theorem dX2_init_37 : decode cX2_init 37 = .ok (.putfield 21, 3) := by decide +kernel
theorem dX2_init_40 : decode cX2_init 40 = .ok (.aload_n 0, 1) := by decide +kernel
theorem dX2_init_41 : decode cX2_init 41 = .ok (.sipush 380, 3) := by decide +kernel
theorem dX2_init_44 : decode cX2_init 44 = .ok (.newarray .int, 2) := by decide +kernel
theorem dX2_init_46 : decode cX2_init 46 = .ok (.putfield 25, 3) := by decide +kernel
theorem dX2_init_49 : decode cX2_init 49 = .ok (.aload_n 0, 1) := by decide +kernel
theorem dX2_init_50 : decode cX2_init 50 = .ok (.sipush 380, 3) := by decide +kernel
theorem dX2_init_53 : decode cX2_init 53 = .ok (.newarray .int, 2) := by decide +kernel
theorem dX2_init_55 : decode cX2_init 55 = .ok (.putfield 28, 3) := by decide +kernel
theorem dX2_init_58 : decode cX2_init 58 = .ok (.aload_n 0, 1) := by decide +kernel
theorem dX2_init_59 : decode cX2_init 59 = .ok (.sipush 1504, 3) := by decide +kernel
theorem dX2_init_62 : decode cX2_init 62 = .ok (.newarray .int, 2) := by decide +kernel
theorem dX2_init_64 : decode cX2_init 64 = .ok (.putfield 31, 3) := by decide +kernel
theorem dX2_init_67 : decode cX2_init 67 = .ok (.aload_n 0, 1) := by decide +kernel
theorem dX2_init_68 : decode cX2_init 68 = .ok (.sipush 380, 3) := by decide +kernel
theorem dX2_init_71 : decode cX2_init 71 = .ok (.newarray .int, 2) := by decide +kernel
theorem dX2_init_73 : decode cX2_init 73 = .ok (.putfield 34, 3) := by decide +kernel
theorem dX2_init_76 : decode cX2_init 76 = .ok (.aload_n 0, 1) := by decide +kernel
theorem dX2_init_77 : decode cX2_init 77 = .ok (.sipush 380, 3) := by decide +kernel
theorem dX2_init_80 : decode cX2_init 80 = .ok (.newarray .int, 2) := by decide +kernel
theorem dX2_init_82 : decode cX2_init 82 = .ok (.putfield 37, 3) := by decide +kernel
theorem dX2_init_85 : decode cX2_init 85 = .ok (.aload_n 0, 1) := by decide +kernel
theorem dX2_init_86 : decode cX2_init 86 = .ok (.sipush 380, 3) := by decide +kernel
theorem dX2_init_89 : decode cX2_init 89 = .ok (.newarray .int, 2) := by decide +kernel
theorem dX2_init_91 : decode cX2_init 91 = .ok (.putfield 40, 3) := by decide +kernel
theorem dX2_init_94 : decode cX2_init 94 = .ok (.aload_n 0, 1) := by decide +kernel
theorem dX2_init_95 : decode cX2_init 95 = .ok (.sipush 380, 3) := by decide +kernel
theorem dX2_init_98 : decode cX2_init 98 = .ok (.newarray .int, 2) := by decide +kernel
theorem dX2_init_100 : decode cX2_init 100 = .ok (.putfield 43, 3) := by decide +kernel
theorem dX2_init_103 : decode cX2_init 103 = .ok (.aload_n 0, 1) := by decide +kernel
theorem dX2_init_104 : decode cX2_init 104 = .ok (.sipush 380, 3) := by decide +kernel
theorem dX2_init_107 : decode cX2_init 107 = .ok (.newarray .int, 2) := by decide +kernel
theorem dX2_init_109 : decode cX2_init 109 = .ok (.putfield 46, 3) := by decide +kernel
theorem dX2_init_112 : decode cX2_init 112 = .ok (.aload_n 0, 1) := by decide +kernel
theorem dX2_init_113 : decode cX2_init 113 = .ok (.sipush 380, 3) := by decide +kernel
theorem dX2_init_116 : decode cX2_init 116 = .ok (.newarray .int, 2) := by decide +kernel
theorem dX2_init_118 : decode cX2_init 118 = .ok (.putfield 49, 3) := by decide +kernel
theorem dX2_init_121 : decode cX2_init 121 = .ok (.aload_n 0, 1) := by decide +kernel
theorem dX2_init_122 : decode cX2_init 122 = .ok (.sipush 380, 3) := by decide +kernel
theorem dX2_init_125 : decode cX2_init 125 = .ok (.newarray .int, 2) := by decide +kernel
theorem dX2_init_127 : decode cX2_init 127 = .ok (.putfield 52, 3) := by decide +kernel
theorem dX2_init_130 : decode cX2_init 130 = .ok (.aload_n 0, 1) := by decide +kernel
theorem dX2_init_131 : decode cX2_init 131 = .ok (.sipush 380, 3) := by decide +kernel
theorem dX2_init_134 : decode cX2_init 134 = .ok (.newarray .int, 2) := by decide +kernel
theorem dX2_init_136 : decode cX2_init 136 = .ok (.putfield 55, 3) := by decide +kernel
theorem dX2_init_139 : decode cX2_init 139 = .ok (.aload_n 0, 1) := by decide +kernel
theorem dX2_init_140 : decode cX2_init 140 = .ok (.sipush 380, 3) := by decide +kernel
theorem dX2_init_143 : decode cX2_init 143 = .ok (.newarray .int, 2) := by decide +kernel
theorem dX2_init_145 : decode cX2_init 145 = .ok (.putfield 58, 3) := by decide +kernel
theorem dX2_init_148 : decode cX2_init 148 = .ok (.return_, 1) := by decide +kernel
theorem dX4_init_0 : decode cX4_init 0 = .ok (.aload_n 0, 1) := by decide +kernel
theorem dX4_init_1 : decode cX4_init 1 = .ok (.invokespecial 3, 3) := by decide +kernel
theorem dX4_init_4 : decode cX4_init 4 = .ok (.aload_n 0, 1) := by decide +kernel
theorem dX4_init_5 : decode cX4_init 5 = .ok (.sipush 400, 3) := by decide +kernel
theorem dX4_init_8 : decode cX4_init 8 = .ok (.newarray .int, 2) := by decide +kernel
theorem dX4_init_10 : decode cX4_init 10 = .ok (.putfield 9, 3) := by decide +kernel
theorem dX4_init_13 : decode cX4_init 13 = .ok (.aload_n 0, 1) := by decide +kernel
theorem dX4_init_14 : decode cX4_init 14 = .ok (.sipush 400, 3) := by decide +kernel
theorem dX4_init_17 : decode cX4_init 17 = .ok (.newarray .int, 2) := by decide +kernel
theorem dX4_init_19 : decode cX4_init 19 = .ok (.putfield 15, 3) := by decide +kernel
theorem dX4_init_22 : decode cX4_init 22 = .ok (.aload_n 0, 1) := by decide +kernel
theorem dX4_init_23 : decode cX4_init 23 = .ok (.sipush 400, 3) := by decide +kernel
theorem dX4_init_26 : decode cX4_init 26 = .ok (.newarray .int, 2) := by decide +kernel
theorem dX4_init_28 : decode cX4_init 28 = .ok (.putfield 18, 3) := by decide +kernel
theorem dX4_init_31 : decode cX4_init 31 = .ok (.aload_n 0, 1) := by decide +kernel
theorem dX4_init_32 : decode cX4_init 32 = .ok (.sipush 400, 3) := by decide +kernel
theorem dX4_init_35 : decode cX4_init 35 = .ok (.newarray .int, 2) := by decide +kernel
theorem dX4_init_37 : decode cX4_init 37 = .ok (.putfield 21, 3) := by decide +kernel
theorem dX4_init_40 : decode cX4_init 40 = .ok (.aload_n 0, 1) := by decide +kernel
theorem dX4_init_41 : decode cX4_init 41 = .ok (.sipush 400, 3) := by decide +kernel
theorem dX4_init_44 : decode cX4_init 44 = .ok (.newarray .int, 2) := by decide +kernel
theorem dX4_init_46 : decode cX4_init 46 = .ok (.putfield 24, 3) := by decide +kernel
theorem dX4_init_49 : decode cX4_init 49 = .ok (.aload_n 0, 1) := by decide +kernel
theorem dX4_init_50 : decode cX4_init 50 = .ok (.sipush 400, 3) := by decide +kernel
theorem dX4_init_53 : decode cX4_init 53 = .ok (.newarray .int, 2) := by decide +kernel
theorem dX4_init_55 : decode cX4_init 55 = .ok (.putfield 27, 3) := by decide +kernel
theorem dX4_init_58 : decode cX4_init 58 = .ok (.aload_n 0, 1) := by decide +kernel
theorem dX4_init_59 : decode cX4_init 59 = .ok (.sipush 400, 3) := by decide +kernel
theorem dX4_init_62 : decode cX4_init 62 = .ok (.newarray .int, 2) := by decide +kernel
theorem dX4_init_64 : decode cX4_init 64 = .ok (.putfield 30, 3) := by decide +kernel
theorem dX4_init_67 : decode cX4_init 67 = .ok (.aload_n 0, 1) := by decide +kernel
theorem dX4_init_68 : decode cX4_init 68 = .ok (.sipush 400, 3) := by decide +kernel
theorem dX4_init_71 : decode cX4_init 71 = .ok (.newarray .int, 2) := by decide +kernel
theorem dX4_init_73 : decode cX4_init 73 = .ok (.putfield 33, 3) := by decide +kernel
theorem dX4_init_76 : decode cX4_init 76 = .ok (.aload_n 0, 1) := by decide +kernel
theorem dX4_init_77 : decode cX4_init 77 = .ok (.sipush 400, 3) := by decide +kernel
theorem dX4_init_80 : decode cX4_init 80 = .ok (.newarray .int, 2) := by decide +kernel
theorem dX4_init_82 : decode cX4_init 82 = .ok (.putfield 36, 3) := by decide +kernel
theorem dX4_init_85 : decode cX4_init 85 = .ok (.aload_n 0, 1) := by decide +kernel
theorem dX4_init_86 : decode cX4_init 86 = .ok (.sipush 400, 3) := by decide +kernel
theorem dX4_init_89 : decode cX4_init 89 = .ok (.newarray .boolean, 2) := by decide +kernel
theorem dX4_init_91 : decode cX4_init 91 = .ok (.putfield 39, 3) := by decide +kernel
theorem dX4_init_94 : decode cX4_init 94 = .ok (.aload_n 0, 1) := by decide +kernel
theorem dX4_init_95 : decode cX4_init 95 = .ok (.sipush 400, 3) := by decide +kernel
theorem dX4_init_98 : decode cX4_init 98 = .ok (.newarray .boolean, 2) := by decide +kernel
theorem dX4_init_100 : decode cX4_init 100 = .ok (.putfield 43, 3) := by decide +kernel
theorem dX4_init_103 : decode cX4_init 103 = .ok (.aload_n 0, 1) := by decide +kernel
theorem dX4_init_104 : decode cX4_init 104 = .ok (.sipush 400, 3) := by decide +kernel
theorem dX4_init_107 : decode cX4_init 107 = .ok (.newarray .long, 2) := by decide +kernel
theorem dX4_init_109 : decode cX4_init 109 = .ok (.putfield 46, 3) := by decide +kernel
theorem dX4_init_112 : decode cX4_init 112 = .ok (.aload_n 0, 1) := by decide +kernel
theorem dX4_init_113 : decode cX4_init 113 = .ok (.sipush 3016, 3) := by decide +kernel
theorem dX4_init_116 : decode cX4_init 116 = .ok (.newarray .int, 2) := by decide +kernel
theorem dX4_init_118 : decode cX4_init 118 = .ok (.putfield 50, 3) := by decide +kernel
theorem dX4_init_121 : decode cX4_init 121 = .ok (.aload_n 0, 1) := by decide +kernel
theorem dX4_init_122 : decode cX4_init 122 = .ok (.sipush 3016, 3) := by decide +kernel
theorem dX4_init_125 : decode cX4_init 125 = .ok (.newarray .int, 2) := by decide +kernel
theorem dX4_init_127 : decode cX4_init 127 = .ok (.putfield 53, 3) := by decide +kernel
theorem dX4_init_130 : decode cX4_init 130 = .ok (.aload_n 0, 1) := by decide +kernel
theorem dX4_init_131 : decode cX4_init 131 = .ok (.sipush 3016, 3) := by decide +kernel
theorem dX4_init_134 : decode cX4_init 134 = .ok (.newarray .int, 2) := by decide +kernel
theorem dX4_init_136 : decode cX4_init 136 = .ok (.putfield 56, 3) := by decide +kernel
theorem dX4_init_139 : decode cX4_init 139 = .ok (.aload_n 0, 1) := by decide +kernel
theorem dX4_init_140 : decode cX4_init 140 = .ok (.sipush 400, 3) := by decide +kernel
theorem dX4_init_143 : decode cX4_init 143 = .ok (.newarray .int, 2) := by decide +kernel
theorem dX4_init_145 : decode cX4_init 145 = .ok (.putfield 59, 3) := by decide +kernel
theorem dX4_init_148 : decode cX4_init 148 = .ok (.aload_n 0, 1) := by decide +kernel
theorem dX4_init_149 : decode cX4_init 149 = .ok (.sipush 400, 3) := by decide +kernel
theorem dX4_init_152 : decode cX4_init 152 = .ok (.newarray .int, 2) := by decide +kernel
theorem dX4_init_154 : decode cX4_init 154 = .ok (.putfield 62, 3) := by decide +kernel
theorem dX4_init_157 : decode cX4_init 157 = .ok (.return_, 1) := by decide +kernel
theorem dX7_init_0 : decode cX7_init 0 = .ok (.aload_n 0, 1) := by decide +kernel
theorem dX7_init_1 : decode cX7_init 1 = .ok (.invokespecial 3, 3) := by decide +kernel
theorem dX7_init_4 : decode cX7_init 4 = .ok (.aload_n 0, 1) := by decide +kernel
theorem dX7_init_5 : decode cX7_init 5 = .ok (.sipush 19456, 3) := by decide +kernel
theorem dX7_init_8 : decode cX7_init 8 = .ok (.newarray .long, 2) := by decide +kernel
theorem dX7_init_10 : decode cX7_init 10 = .ok (.putfield 9, 3) := by decide +kernel
theorem dX7_init_13 : decode cX7_init 13 = .ok (.aload_n 0, 1) := by decide +kernel
theorem dX7_init_14 : decode cX7_init 14 = .ok (.sipush 200, 3) := by decide +kernel
theorem dX7_init_17 : decode cX7_init 17 = .ok (.newarray .boolean, 2) := by decide +kernel
theorem dX7_init_19 : decode cX7_init 19 = .ok (.putfield 15, 3) := by decide +kernel
theorem dX7_init_22 : decode cX7_init 22 = .ok (.aload_n 0, 1) := by decide +kernel
theorem dX7_init_23 : decode cX7_init 23 = .ok (.bipush 60, 2) := by decide +kernel
theorem dX7_init_25 : decode cX7_init 25 = .ok (.newarray .boolean, 2) := by decide +kernel
theorem dX7_init_27 : decode cX7_init 27 = .ok (.putfield 19, 3) := by decide +kernel
theorem dX7_init_30 : decode cX7_init 30 = .ok (.aload_n 0, 1) := by decide +kernel
theorem dX7_init_31 : decode cX7_init 31 = .ok (.bipush 60, 2) := by decide +kernel
theorem dX7_init_33 : decode cX7_init 33 = .ok (.newarray .int, 2) := by decide +kernel
theorem dX7_init_35 : decode cX7_init 35 = .ok (.putfield 22, 3) := by decide +kernel
theorem dX7_init_38 : decode cX7_init 38 = .ok (.aload_n 0, 1) := by decide +kernel
theorem dX7_init_39 : decode cX7_init 39 = .ok (.sipush 1000, 3) := by decide +kernel
theorem dX7_init_42 : decode cX7_init 42 = .ok (.newarray .int, 2) := by decide +kernel
theorem dX7_init_44 : decode cX7_init 44 = .ok (.putfield 26, 3) := by decide +kernel
theorem dX7_init_47 : decode cX7_init 47 = .ok (.aload_n 0, 1) := by decide +kernel
theorem dX7_init_48 : decode cX7_init 48 = .ok (.sipush 1000, 3) := by decide +kernel
theorem dX7_init_51 : decode cX7_init 51 = .ok (.newarray .long, 2) := by decide +kernel
theorem dX7_init_53 : decode cX7_init 53 = .ok (.putfield 29, 3) := by decide +kernel
theorem dX7_init_56 : decode cX7_init 56 = .ok (.aload_n 0, 1) := by decide +kernel
theorem dX7_init_57 : decode cX7_init 57 = .ok (.sipush 4608, 3) := by decide +kernel
theorem dX7_init_60 : decode cX7_init 60 = .ok (.newarray .int, 2) := by decide +kernel
theorem dX7_init_62 : decode cX7_init 62 = .ok (.putfield 32, 3) := by decide +kernel
theorem dX7_init_65 : decode cX7_init 65 = .ok (.aload_n 0, 1) := by decide +kernel
theorem dX7_init_66 : decode cX7_init 66 = .ok (.sipush 4608, 3) := by decide +kernel
theorem dX7_init_69 : decode cX7_init 69 = .ok (.newarray .int, 2) := by decide +kernel
theorem dX7_init_71 : decode cX7_init 71 = .ok (.putfield 35, 3) := by decide +kernel
theorem dX7_init_74 : decode cX7_init 74 = .ok (.return_, 1) := by decide +kernel
theorem dX8_init_0 : decode cX8_init 0 = .ok (.aload_n 0, 1) := by decide +kernel
theorem dX8_init_1 : decode cX8_init 1 = .ok (.invokespecial 3, 3) := by decide +kernel
theorem dX8_init_4 : decode cX8_init 4 = .ok (.aload_n 0, 1) := by decide +kernel
theorem dX8_init_5 : decode cX8_init 5 = .ok (.sipush 3016, 3) := by decide +kernel
theorem dX8_init_8 : decode cX8_init 8 = .ok (.newarray .int, 2) := by decide +kernel
theorem dX8_init_10 : decode cX8_init 10 = .ok (.putfield 9, 3) := by decide +kernel
theorem dX8_init_13 : decode cX8_init 13 = .ok (.aload_n 0, 1) := by decide +kernel
theorem dX8_init_14 : decode cX8_init 14 = .ok (.sipush 3016, 3) := by decide +kernel
theorem dX8_init_17 : decode cX8_init 17 = .ok (.newarray .int, 2) := by decide +kernel
theorem dX8_init_19 : decode cX8_init 19 = .ok (.putfield 15, 3) := by decide +kernel
theorem dX8_init_22 : decode cX8_init 22 = .ok (.aload_n 0, 1) := by decide +kernel
theorem dX8_init_23 : decode cX8_init 23 = .ok (.sipush 3016, 3) := by decide +kernel
theorem dX8_init_26 : decode cX8_init 26 = .ok (.newarray .int, 2) := by decide +kernel
theorem dX8_init_28 : decode cX8_init 28 = .ok (.putfield 18, 3) := by decide +kernel
theorem dX8_init_31 : decode cX8_init 31 = .ok (.aload_n 0, 1) := by decide +kernel
theorem dX8_init_32 : decode cX8_init 32 = .ok (.sipush 3016, 3) := by decide +kernel
theorem dX8_init_35 : decode cX8_init 35 = .ok (.newarray .int, 2) := by decide +kernel
theorem dX8_init_37 : decode cX8_init 37 = .ok (.putfield 21, 3) := by decide +kernel
theorem dX8_init_40 : decode cX8_init 40 = .ok (.aload_n 0, 1) := by decide +kernel
theorem dX8_init_41 : decode cX8_init 41 = .ok (.sipush 3016, 3) := by decide +kernel
theorem dX8_init_44 : decode cX8_init 44 = .ok (.newarray .int, 2) := by decide +kernel
theorem dX8_init_46 : decode cX8_init 46 = .ok (.putfield 24, 3) := by decide +kernel
theorem dX8_init_49 : decode cX8_init 49 = .ok (.aload_n 0, 1) := by decide +kernel
theorem dX8_init_50 : decode cX8_init 50 = .ok (.sipush 3016, 3) := by decide +kernel
theorem dX8_init_53 : decode cX8_init 53 = .ok (.newarray .int, 2) := by decide +kernel
theorem dX8_init_55 : decode cX8_init 55 = .ok (.putfield 27, 3) := by decide +kernel
theorem dX8_init_58 : decode cX8_init 58 = .ok (.aload_n 0, 1) := by decide +kernel
theorem dX8_init_59 : decode cX8_init 59 = .ok (.sipush 3016, 3) := by decide +kernel
theorem dX8_init_62 : decode cX8_init 62 = .ok (.newarray .int, 2) := by decide +kernel
theorem dX8_init_64 : decode cX8_init 64 = .ok (.putfield 30, 3) := by decide +kernel
theorem dX8_init_67 : decode cX8_init 67 = .ok (.aload_n 0, 1) := by decide +kernel
theorem dX8_init_68 : decode cX8_init 68 = .ok (.sipush 3016, 3) := by decide +kernel
theorem dX8_init_71 : decode cX8_init 71 = .ok (.newarray .int, 2) := by decide +kernel
theorem dX8_init_73 : decode cX8_init 73 = .ok (.putfield 33, 3) := by decide +kernel
theorem dX8_init_76 : decode cX8_init 76 = .ok (.aload_n 0, 1) := by decide +kernel
theorem dX8_init_77 : decode cX8_init 77 = .ok (.sipush 3016, 3) := by decide +kernel
theorem dX8_init_80 : decode cX8_init 80 = .ok (.newarray .long, 2) := by decide +kernel
theorem dX8_init_82 : decode cX8_init 82 = .ok (.putfield 36, 3) := by decide +kernel
theorem dX8_init_85 : decode cX8_init 85 = .ok (.aload_n 0, 1) := by decide +kernel
theorem dX8_init_86 : decode cX8_init 86 = .ok (.sipush 3016, 3) := by decide +kernel
theorem dX8_init_89 : decode cX8_init 89 = .ok (.newarray .int, 2) := by decide +kernel
theorem dX8_init_91 : decode cX8_init 91 = .ok (.putfield 40, 3) := by decide +kernel
theorem dX8_init_94 : decode cX8_init 94 = .ok (.aload_n 0, 1) := by decide +kernel
theorem dX8_init_95 : decode cX8_init 95 = .ok (.sipush 3016, 3) := by decide +kernel
theorem dX8_init_98 : decode cX8_init 98 = .ok (.newarray .int, 2) := by decide +kernel
theorem dX8_init_100 : decode cX8_init 100 = .ok (.putfield 43, 3) := by decide +kernel
theorem dX8_init_103 : decode cX8_init 103 = .ok (.aload_n 0, 1) := by decide +kernel
theorem dX8_init_104 : decode cX8_init 104 = .ok (.iconst 1, 1) := by decide +kernel
theorem dX8_init_105 : decode cX8_init 105 = .ok (.putfield 46, 3) := by decide +kernel
theorem dX8_init_108 : decode cX8_init 108 = .ok (.return_, 1) := by decide +kernel
theorem dX9_init_0 : decode cX9_init 0 = .ok (.aload_n 0, 1) := by decide +kernel
theorem dX9_init_1 : decode cX9_init 1 = .ok (.invokespecial 3, 3) := by decide +kernel
theorem dX9_init_4 : decode cX9_init 4 = .ok (.aload_n 0, 1) := by decide +kernel
theorem dX9_init_5 : decode cX9_init 5 = .ok (.sipush 1504, 3) := by decide +kernel
theorem dX9_init_8 : decode cX9_init 8 = .ok (.newarray .int, 2) := by decide +kernel
theorem dX9_init_10 : decode cX9_init 10 = .ok (.putfield 9, 3) := by decide +kernel
theorem dX9_init_13 : decode cX9_init 13 = .ok (.aload_n 0, 1) := by decide +kernel
theorem dX9_init_14 : decode cX9_init 14 = .ok (.sipush 1504, 3) := by decide +kernel
theorem dX9_init_17 : decode cX9_init 17 = .ok (.newarray .int, 2) := by decide +kernel
theorem dX9_init_19 : decode cX9_init 19 = .ok (.putfield 15, 3) := by decide +kernel
theorem dX9_init_22 : decode cX9_init 22 = .ok (.aload_n 0, 1) := by decide +kernel
theorem dX9_init_23 : decode cX9_init 23 = .ok (.sipush 304, 3) := by decide +kernel
theorem dX9_init_26 : decode cX9_init 26 = .ok (.newarray .int, 2) := by decide +kernel
theorem dX9_init_28 : decode cX9_init 28 = .ok (.putfield 18, 3) := by decide +kernel
theorem dX9_init_31 : decode cX9_init 31 = .ok (.aload_n 0, 1) := by decide +kernel
theorem dX9_init_32 : decode cX9_init 32 = .ok (.sipush 304, 3) := by decide +kernel
theorem dX9_init_35 : decode cX9_init 35 = .ok (.newarray .int, 2) := by decide +kernel
theorem dX9_init_37 : decode cX9_init 37 = .ok (.putfield 21, 3) := by decide +kernel
theorem dX9_init_40 : decode cX9_init 40 = .ok (.aload_n 0, 1) := by decide +kernel
theorem dX9_init_41 : decode cX9_init 41 = .ok (.sipush 304, 3) := by decide +kernel
theorem dX9_init_44 : decode cX9_init 44 = .ok (.newarray .int, 2) := by decide +kernel
theorem dX9_init_46 : decode cX9_init 46 = .ok (.putfield 24, 3) := by decide +kernel
theorem dX9_init_49 : decode cX9_init 49 = .ok (.aload_n 0, 1) := by decide +kernel
theorem dX9_init_50 : decode cX9_init 50 = .ok (.sipush 304, 3) := by decide +kernel
theorem dX9_init_53 : decode cX9_init 53 = .ok (.newarray .int, 2) := by decide +kernel
theorem dX9_init_55 : decode cX9_init 55 = .ok (.putfield 27, 3) := by decide +kernel
theorem dX9_init_58 : decode cX9_init 58 = .ok (.aload_n 0, 1) := by decide +kernel
theorem dX9_init_59 : decode cX9_init 59 = .ok (.sipush 304, 3) := by decide +kernel
theorem dX9_init_62 : decode cX9_init 62 = .ok (.newarray .int, 2) := by decide +kernel
theorem dX9_init_64 : decode cX9_init 64 = .ok (.putfield 30, 3) := by decide +kernel
theorem dX9_init_67 : decode cX9_init 67 = .ok (.aload_n 0, 1) := by decide +kernel
theorem dX9_init_68 : decode cX9_init 68 = .ok (.sipush 304, 3) := by decide +kernel
theorem dX9_init_71 : decode cX9_init 71 = .ok (.newarray .int, 2) := by decide +kernel
theorem dX9_init_73 : decode cX9_init 73 = .ok (.putfield 33, 3) := by decide +kernel
theorem dX9_init_76 : decode cX9_init 76 = .ok (.aload_n 0, 1) := by decide +kernel
theorem dX9_init_77 : decode cX9_init 77 = .ok (.sipush 304, 3) := by decide +kernel
theorem dX9_init_80 : decode cX9_init 80 = .ok (.newarray .int, 2) := by decide +kernel
theorem dX9_init_82 : decode cX9_init 82 = .ok (.putfield 36, 3) := by decide +kernel
theorem dX9_init_85 : decode cX9_init 85 = .ok (.aload_n 0, 1) := by decide +kernel
theorem dX9_init_86 : decode cX9_init 86 = .ok (.sipush 1504, 3) := by decide +kernel
theorem dX9_init_89 : decode cX9_init 89 = .ok (.newarray .int, 2) := by decide +kernel
theorem dX9_init_91 : decode cX9_init 91 = .ok (.putfield 39, 3) := by decide +kernel
theorem dX9_init_94 : decode cX9_init 94 = .ok (.aload_n 0, 1) := by decide +kernel
theorem dX9_init_95 : decode cX9_init 95 = .ok (.sipush 1504, 3) := by decide +kernel
theorem dX9_init_98 : decode cX9_init 98 = .ok (.newarray .int, 2) := by decide +kernel
theorem dX9_init_100 : decode cX9_init 100 = .ok (.putfield 42, 3) := by decide +kernel
theorem dX9_init_103 : decode cX9_init 103 = .ok (.aload_n 0, 1) := by decide +kernel
theorem dX9_init_104 : decode cX9_init 104 = .ok (.sipush 1504, 3) := by decide +kernel
theorem dX9_init_107 : decode cX9_init 107 = .ok (.newarray .int, 2) := by decide +kernel
theorem dX9_init_109 : decode cX9_init 109 = .ok (.putfield 45, 3) := by decide +kernel
theorem dX9_init_112 : decode cX9_init 112 = .ok (.aload_n 0, 1) := by decide +kernel
theorem dX9_init_113 : decode cX9_init 113 = .ok (.sipush 1504, 3) := by decide +kernel
theorem dX9_init_116 : decode cX9_init 116 = .ok (.newarray .int, 2) := by decide +kernel
theorem dX9_init_118 : decode cX9_init 118 = .ok (.putfield 48, 3) := by decide +kernel
theorem dX9_init_121 : decode cX9_init 121 = .ok (.aload_n 0, 1) := by decide +kernel
theorem dX9_init_122 : decode cX9_init 122 = .ok (.sipush 1504, 3) := by decide +kernel
theorem dX9_init_125 : decode cX9_init 125 = .ok (.newarray .int, 2) := by decide +kernel
theorem dX9_init_127 : decode cX9_init 127 = .ok (.putfield 51, 3) := by decide +kernel
theorem dX9_init_130 : decode cX9_init 130 = .ok (.aload_n 0, 1) := by decide +kernel
theorem dX9_init_131 : decode cX9_init 131 = .ok (.sipush 1504, 3) := by decide +kernel
theorem dX9_init_134 : decode cX9_init 134 = .ok (.newarray .int, 2) := by decide +kernel
theorem dX9_init_136 : decode cX9_init 136 = .ok (.putfield 54, 3) := by decide +kernel
theorem dX9_init_139 : decode cX9_init 139 = .ok (.return_, 1) := by decide +kernel
set_option maxHeartbeats 4000000 in
set_option maxRecDepth 100000 in
/-- Tree(): eleven rows, total 1 -/
theorem k_X8_init (l : Launch) (D : va_G) (K : KS) (h0 : Nat) : Con l D K yX8_init cX8_init 1 none 1 12 11 33176 [.ref h0] [(h0, .inr (1, [.null, .null, .null, .null, .null, .null, .null, .null, .null, .null, .null, .int 0]))] (fun v w => v = none ∧ ∃ (q1 : Nat) (q2 : Nat) (q3 : Nat) (q4 : Nat) (q5 : Nat) (q6 : Nat) (q7 : Nat) (q8 : Nat) (q9 : Nat) (q10 : Nat) (q11 : Nat), w = [(h0, .inr (1, [.ref q1, .ref q2, .ref q3, .ref q4, .ref q5, .ref q6, .ref q7, .ref q8, .ref q9, .ref q10, .ref q11, .int 1])), (q1, .inl (K 0, 3016, .inl (fun _ => 0))), (q2, .inl (K 0, 3016, .inl (fun _ => 0))), (q3, .inl (K 0, 3016, .inl (fun _ => 0))), (q4, .inl (K 0, 3016, .inl (fun _ => 0))), (q5, .inl (K 0, 3016, .inl (fun _ => 0))), (q6, .inl (K 0, 3016, .inl (fun _ => 0))), (q7, .inl (K 0, 3016, .inl (fun _ => 0))), (q8, .inl (K 0, 3016, .inl (fun _ => 0))), (q9, .inl (K 1, 3016, .inr (.inl (fun _ => 0)))), (q10, .inl (K 0, 3016, .inl (fun _ => 0))), (q11, .inl (K 0, 3016, .inl (fun _ => 0)))]) := by
  refine Con.of (by decide +kernel) (Nat.le_of_ble_eq_true rfl) ?_
  intro X hXl hXD hXK C hR hQ hnm
  subst hXl; subst hXD; subst hXK
  refine g_lv (l2 := [(0, .ref h0)]) [0] rfl ?_
  refine g_aload_n (z := 1) C dX8_init_0 0 rfl rfl rfl ?_
  refine g_objInit (z := 4) C hR dX8_init_1 w_108 w_0 w_1 (Nat.le_of_ble_eq_true rfl) (Nat.le_of_ble_eq_true rfl) rfl ?_
  refine g_aload_n (z := 5) C dX8_init_4 0 rfl rfl rfl ?_
  refine g_sipush (v := 3016) (z := 8) C dX8_init_5 (by decide) rfl ?_
  refine g_newI (N := 3016) (a2 := 1) (b2 := 3016) (z := 10) C hR dX8_init_8 w_109 (by decide) (by decide) (Nat.le_of_ble_eq_true rfl) rfl rfl (Nat.le_of_ble_eq_true rfl) (Nat.le_of_ble_eq_true rfl) rfl (fun q1 => ?_)
  refine g_ws (w2 := [(h0, .inr (1, [.null, .null, .null, .null, .null, .null, .null, .null, .null, .null, .null, .int 0])), (q1, .inl (gK X 0, 3016, .inl (fun _ => 0)))]) rfl ?_
  refine g_putF (w2 := [(h0, .inr (1, [.ref q1, .null, .null, .null, .null, .null, .null, .null, .null, .null, .null, .int 0])), (q1, .inl (gK X 0, 3016, .inl (fun _ => 0)))]) (z := 13) C kX8 dX8_init_10 0 rfl 0 (by decide) w_110 rfl rfl hnm rfl rfl rfl (Nat.le_of_ble_eq_true rfl) rfl rfl ?_
  refine g_aload_n (z := 14) C dX8_init_13 0 rfl rfl rfl ?_
  refine g_sipush (v := 3016) (z := 17) C dX8_init_14 (by decide) rfl ?_
  refine g_newI (N := 3016) (a2 := 2) (b2 := 6032) (z := 19) C hR dX8_init_17 w_109 (by decide) (by decide) (Nat.le_of_ble_eq_true rfl) rfl rfl (Nat.le_of_ble_eq_true rfl) (Nat.le_of_ble_eq_true rfl) rfl (fun q2 => ?_)
  refine g_ws (w2 := [(h0, .inr (1, [.ref q1, .null, .null, .null, .null, .null, .null, .null, .null, .null, .null, .int 0])), (q1, .inl (gK X 0, 3016, .inl (fun _ => 0))), (q2, .inl (gK X 0, 3016, .inl (fun _ => 0)))]) rfl ?_
  refine g_putF (w2 := [(h0, .inr (1, [.ref q1, .ref q2, .null, .null, .null, .null, .null, .null, .null, .null, .null, .int 0])), (q1, .inl (gK X 0, 3016, .inl (fun _ => 0))), (q2, .inl (gK X 0, 3016, .inl (fun _ => 0)))]) (z := 22) C kX8 dX8_init_19 0 rfl 1 (by decide) w_111 rfl rfl hnm rfl rfl rfl (Nat.le_of_ble_eq_true rfl) rfl rfl ?_
  refine g_aload_n (z := 23) C dX8_init_22 0 rfl rfl rfl ?_
  refine g_sipush (v := 3016) (z := 26) C dX8_init_23 (by decide) rfl ?_
  refine g_newI (N := 3016) (a2 := 3) (b2 := 9048) (z := 28) C hR dX8_init_26 w_109 (by decide) (by decide) (Nat.le_of_ble_eq_true rfl) rfl rfl (Nat.le_of_ble_eq_true rfl) (Nat.le_of_ble_eq_true rfl) rfl (fun q3 => ?_)
  refine g_ws (w2 := [(h0, .inr (1, [.ref q1, .ref q2, .null, .null, .null, .null, .null, .null, .null, .null, .null, .int 0])), (q1, .inl (gK X 0, 3016, .inl (fun _ => 0))), (q2, .inl (gK X 0, 3016, .inl (fun _ => 0))), (q3, .inl (gK X 0, 3016, .inl (fun _ => 0)))]) rfl ?_
  refine g_putF (w2 := [(h0, .inr (1, [.ref q1, .ref q2, .ref q3, .null, .null, .null, .null, .null, .null, .null, .null, .int 0])), (q1, .inl (gK X 0, 3016, .inl (fun _ => 0))), (q2, .inl (gK X 0, 3016, .inl (fun _ => 0))), (q3, .inl (gK X 0, 3016, .inl (fun _ => 0)))]) (z := 31) C kX8 dX8_init_28 0 rfl 2 (by decide) w_112 rfl rfl hnm rfl rfl rfl (Nat.le_of_ble_eq_true rfl) rfl rfl ?_
  refine g_aload_n (z := 32) C dX8_init_31 0 rfl rfl rfl ?_
  refine g_sipush (v := 3016) (z := 35) C dX8_init_32 (by decide) rfl ?_
  refine g_newI (N := 3016) (a2 := 4) (b2 := 12064) (z := 37) C hR dX8_init_35 w_109 (by decide) (by decide) (Nat.le_of_ble_eq_true rfl) rfl rfl (Nat.le_of_ble_eq_true rfl) (Nat.le_of_ble_eq_true rfl) rfl (fun q4 => ?_)
  refine g_ws (w2 := [(h0, .inr (1, [.ref q1, .ref q2, .ref q3, .null, .null, .null, .null, .null, .null, .null, .null, .int 0])), (q1, .inl (gK X 0, 3016, .inl (fun _ => 0))), (q2, .inl (gK X 0, 3016, .inl (fun _ => 0))), (q3, .inl (gK X 0, 3016, .inl (fun _ => 0))), (q4, .inl (gK X 0, 3016, .inl (fun _ => 0)))]) rfl ?_
  refine g_putF (w2 := [(h0, .inr (1, [.ref q1, .ref q2, .ref q3, .ref q4, .null, .null, .null, .null, .null, .null, .null, .int 0])), (q1, .inl (gK X 0, 3016, .inl (fun _ => 0))), (q2, .inl (gK X 0, 3016, .inl (fun _ => 0))), (q3, .inl (gK X 0, 3016, .inl (fun _ => 0))), (q4, .inl (gK X 0, 3016, .inl (fun _ => 0)))]) (z := 40) C kX8 dX8_init_37 0 rfl 3 (by decide) w_113 rfl rfl hnm rfl rfl rfl (Nat.le_of_ble_eq_true rfl) rfl rfl ?_
  refine g_aload_n (z := 41) C dX8_init_40 0 rfl rfl rfl ?_
  refine g_sipush (v := 3016) (z := 44) C dX8_init_41 (by decide) rfl ?_
  refine g_newI (N := 3016) (a2 := 5) (b2 := 15080) (z := 46) C hR dX8_init_44 w_109 (by decide) (by decide) (Nat.le_of_ble_eq_true rfl) rfl rfl (Nat.le_of_ble_eq_true rfl) (Nat.le_of_ble_eq_true rfl) rfl (fun q5 => ?_)
  refine g_ws (w2 := [(h0, .inr (1, [.ref q1, .ref q2, .ref q3, .ref q4, .null, .null, .null, .null, .null, .null, .null, .int 0])), (q1, .inl (gK X 0, 3016, .inl (fun _ => 0))), (q2, .inl (gK X 0, 3016, .inl (fun _ => 0))), (q3, .inl (gK X 0, 3016, .inl (fun _ => 0))), (q4, .inl (gK X 0, 3016, .inl (fun _ => 0))), (q5, .inl (gK X 0, 3016, .inl (fun _ => 0)))]) rfl ?_
  refine g_putF (w2 := [(h0, .inr (1, [.ref q1, .ref q2, .ref q3, .ref q4, .ref q5, .null, .null, .null, .null, .null, .null, .int 0])), (q1, .inl (gK X 0, 3016, .inl (fun _ => 0))), (q2, .inl (gK X 0, 3016, .inl (fun _ => 0))), (q3, .inl (gK X 0, 3016, .inl (fun _ => 0))), (q4, .inl (gK X 0, 3016, .inl (fun _ => 0))), (q5, .inl (gK X 0, 3016, .inl (fun _ => 0)))]) (z := 49) C kX8 dX8_init_46 0 rfl 4 (by decide) w_114 rfl rfl hnm rfl rfl rfl (Nat.le_of_ble_eq_true rfl) rfl rfl ?_
  refine g_aload_n (z := 50) C dX8_init_49 0 rfl rfl rfl ?_
  refine g_sipush (v := 3016) (z := 53) C dX8_init_50 (by decide) rfl ?_
  refine g_newI (N := 3016) (a2 := 6) (b2 := 18096) (z := 55) C hR dX8_init_53 w_109 (by decide) (by decide) (Nat.le_of_ble_eq_true rfl) rfl rfl (Nat.le_of_ble_eq_true rfl) (Nat.le_of_ble_eq_true rfl) rfl (fun q6 => ?_)
  refine g_ws (w2 := [(h0, .inr (1, [.ref q1, .ref q2, .ref q3, .ref q4, .ref q5, .null, .null, .null, .null, .null, .null, .int 0])), (q1, .inl (gK X 0, 3016, .inl (fun _ => 0))), (q2, .inl (gK X 0, 3016, .inl (fun _ => 0))), (q3, .inl (gK X 0, 3016, .inl (fun _ => 0))), (q4, .inl (gK X 0, 3016, .inl (fun _ => 0))), (q5, .inl (gK X 0, 3016, .inl (fun _ => 0))), (q6, .inl (gK X 0, 3016, .inl (fun _ => 0)))]) rfl ?_
  refine g_putF (w2 := [(h0, .inr (1, [.ref q1, .ref q2, .ref q3, .ref q4, .ref q5, .ref q6, .null, .null, .null, .null, .null, .int 0])), (q1, .inl (gK X 0, 3016, .inl (fun _ => 0))), (q2, .inl (gK X 0, 3016, .inl (fun _ => 0))), (q3, .inl (gK X 0, 3016, .inl (fun _ => 0))), (q4, .inl (gK X 0, 3016, .inl (fun _ => 0))), (q5, .inl (gK X 0, 3016, .inl (fun _ => 0))), (q6, .inl (gK X 0, 3016, .inl (fun _ => 0)))]) (z := 58) C kX8 dX8_init_55 0 rfl 5 (by decide) w_115 rfl rfl hnm rfl rfl rfl (Nat.le_of_ble_eq_true rfl) rfl rfl ?_
  refine g_aload_n (z := 59) C dX8_init_58 0 rfl rfl rfl ?_
  refine g_sipush (v := 3016) (z := 62) C dX8_init_59 (by decide) rfl ?_
  refine g_newI (N := 3016) (a2 := 7) (b2 := 21112) (z := 64) C hR dX8_init_62 w_109 (by decide) (by decide) (Nat.le_of_ble_eq_true rfl) rfl rfl (Nat.le_of_ble_eq_true rfl) (Nat.le_of_ble_eq_true rfl) rfl (fun q7 => ?_)
  refine g_ws (w2 := [(h0, .inr (1, [.ref q1, .ref q2, .ref q3, .ref q4, .ref q5, .ref q6, .null, .null, .null, .null, .null, .int 0])), (q1, .inl (gK X 0, 3016, .inl (fun _ => 0))), (q2, .inl (gK X 0, 3016, .inl (fun _ => 0))), (q3, .inl (gK X 0, 3016, .inl (fun _ => 0))), (q4, .inl (gK X 0, 3016, .inl (fun _ => 0))), (q5, .inl (gK X 0, 3016, .inl (fun _ => 0))), (q6, .inl (gK X 0, 3016, .inl (fun _ => 0))), (q7, .inl (gK X 0, 3016, .inl (fun _ => 0)))]) rfl ?_
  refine g_putF (w2 := [(h0, .inr (1, [.ref q1, .ref q2, .ref q3, .ref q4, .ref q5, .ref q6, .ref q7, .null, .null, .null, .null, .int 0])), (q1, .inl (gK X 0, 3016, .inl (fun _ => 0))), (q2, .inl (gK X 0, 3016, .inl (fun _ => 0))), (q3, .inl (gK X 0, 3016, .inl (fun _ => 0))), (q4, .inl (gK X 0, 3016, .inl (fun _ => 0))), (q5, .inl (gK X 0, 3016, .inl (fun _ => 0))), (q6, .inl (gK X 0, 3016, .inl (fun _ => 0))), (q7, .inl (gK X 0, 3016, .inl (fun _ => 0)))]) (z := 67) C kX8 dX8_init_64 0 rfl 6 (by decide) w_116 rfl rfl hnm rfl rfl rfl (Nat.le_of_ble_eq_true rfl) rfl rfl ?_
  refine g_aload_n (z := 68) C dX8_init_67 0 rfl rfl rfl ?_
  refine g_sipush (v := 3016) (z := 71) C dX8_init_68 (by decide) rfl ?_
  refine g_newI (N := 3016) (a2 := 8) (b2 := 24128) (z := 73) C hR dX8_init_71 w_109 (by decide) (by decide) (Nat.le_of_ble_eq_true rfl) rfl rfl (Nat.le_of_ble_eq_true rfl) (Nat.le_of_ble_eq_true rfl) rfl (fun q8 => ?_)
  refine g_ws (w2 := [(h0, .inr (1, [.ref q1, .ref q2, .ref q3, .ref q4, .ref q5, .ref q6, .ref q7, .null, .null, .null, .null, .int 0])), (q1, .inl (gK X 0, 3016, .inl (fun _ => 0))), (q2, .inl (gK X 0, 3016, .inl (fun _ => 0))), (q3, .inl (gK X 0, 3016, .inl (fun _ => 0))), (q4, .inl (gK X 0, 3016, .inl (fun _ => 0))), (q5, .inl (gK X 0, 3016, .inl (fun _ => 0))), (q6, .inl (gK X 0, 3016, .inl (fun _ => 0))), (q7, .inl (gK X 0, 3016, .inl (fun _ => 0))), (q8, .inl (gK X 0, 3016, .inl (fun _ => 0)))]) rfl ?_
  refine g_putF (w2 := [(h0, .inr (1, [.ref q1, .ref q2, .ref q3, .ref q4, .ref q5, .ref q6, .ref q7, .ref q8, .null, .null, .null, .int 0])), (q1, .inl (gK X 0, 3016, .inl (fun _ => 0))), (q2, .inl (gK X 0, 3016, .inl (fun _ => 0))), (q3, .inl (gK X 0, 3016, .inl (fun _ => 0))), (q4, .inl (gK X 0, 3016, .inl (fun _ => 0))), (q5, .inl (gK X 0, 3016, .inl (fun _ => 0))), (q6, .inl (gK X 0, 3016, .inl (fun _ => 0))), (q7, .inl (gK X 0, 3016, .inl (fun _ => 0))), (q8, .inl (gK X 0, 3016, .inl (fun _ => 0)))]) (z := 76) C kX8 dX8_init_73 0 rfl 7 (by decide) w_117 rfl rfl hnm rfl rfl rfl (Nat.le_of_ble_eq_true rfl) rfl rfl ?_
  refine g_aload_n (z := 77) C dX8_init_76 0 rfl rfl rfl ?_
  refine g_sipush (v := 3016) (z := 80) C dX8_init_77 (by decide) rfl ?_
  refine g_newJ (N := 3016) (a2 := 9) (b2 := 27144) (z := 82) C hR dX8_init_80 w_8 (by decide) (by decide) (Nat.le_of_ble_eq_true rfl) rfl rfl (Nat.le_of_ble_eq_true rfl) (Nat.le_of_ble_eq_true rfl) rfl (fun q9 => ?_)
  refine g_ws (w2 := [(h0, .inr (1, [.ref q1, .ref q2, .ref q3, .ref q4, .ref q5, .ref q6, .ref q7, .ref q8, .null, .null, .null, .int 0])), (q1, .inl (gK X 0, 3016, .inl (fun _ => 0))), (q2, .inl (gK X 0, 3016, .inl (fun _ => 0))), (q3, .inl (gK X 0, 3016, .inl (fun _ => 0))), (q4, .inl (gK X 0, 3016, .inl (fun _ => 0))), (q5, .inl (gK X 0, 3016, .inl (fun _ => 0))), (q6, .inl (gK X 0, 3016, .inl (fun _ => 0))), (q7, .inl (gK X 0, 3016, .inl (fun _ => 0))), (q8, .inl (gK X 0, 3016, .inl (fun _ => 0))), (q9, .inl (gK X 1, 3016, .inr (.inl (fun _ => 0))))]) rfl ?_
  refine g_putF (w2 := [(h0, .inr (1, [.ref q1, .ref q2, .ref q3, .ref q4, .ref q5, .ref q6, .ref q7, .ref q8, .ref q9, .null, .null, .int 0])), (q1, .inl (gK X 0, 3016, .inl (fun _ => 0))), (q2, .inl (gK X 0, 3016, .inl (fun _ => 0))), (q3, .inl (gK X 0, 3016, .inl (fun _ => 0))), (q4, .inl (gK X 0, 3016, .inl (fun _ => 0))), (q5, .inl (gK X 0, 3016, .inl (fun _ => 0))), (q6, .inl (gK X 0, 3016, .inl (fun _ => 0))), (q7, .inl (gK X 0, 3016, .inl (fun _ => 0))), (q8, .inl (gK X 0, 3016, .inl (fun _ => 0))), (q9, .inl (gK X 1, 3016, .inr (.inl (fun _ => 0))))]) (z := 85) C kX8 dX8_init_82 0 rfl 8 (by decide) w_118 rfl rfl hnm rfl rfl rfl (Nat.le_of_ble_eq_true rfl) rfl rfl ?_
  refine g_aload_n (z := 86) C dX8_init_85 0 rfl rfl rfl ?_
  refine g_sipush (v := 3016) (z := 89) C dX8_init_86 (by decide) rfl ?_
  refine g_newI (N := 3016) (a2 := 10) (b2 := 30160) (z := 91) C hR dX8_init_89 w_109 (by decide) (by decide) (Nat.le_of_ble_eq_true rfl) rfl rfl (Nat.le_of_ble_eq_true rfl) (Nat.le_of_ble_eq_true rfl) rfl (fun q10 => ?_)
  refine g_ws (w2 := [(h0, .inr (1, [.ref q1, .ref q2, .ref q3, .ref q4, .ref q5, .ref q6, .ref q7, .ref q8, .ref q9, .null, .null, .int 0])), (q1, .inl (gK X 0, 3016, .inl (fun _ => 0))), (q2, .inl (gK X 0, 3016, .inl (fun _ => 0))), (q3, .inl (gK X 0, 3016, .inl (fun _ => 0))), (q4, .inl (gK X 0, 3016, .inl (fun _ => 0))), (q5, .inl (gK X 0, 3016, .inl (fun _ => 0))), (q6, .inl (gK X 0, 3016, .inl (fun _ => 0))), (q7, .inl (gK X 0, 3016, .inl (fun _ => 0))), (q8, .inl (gK X 0, 3016, .inl (fun _ => 0))), (q9, .inl (gK X 1, 3016, .inr (.inl (fun _ => 0)))), (q10, .inl (gK X 0, 3016, .inl (fun _ => 0)))]) rfl ?_
  refine g_putF (w2 := [(h0, .inr (1, [.ref q1, .ref q2, .ref q3, .ref q4, .ref q5, .ref q6, .ref q7, .ref q8, .ref q9, .ref q10, .null, .int 0])), (q1, .inl (gK X 0, 3016, .inl (fun _ => 0))), (q2, .inl (gK X 0, 3016, .inl (fun _ => 0))), (q3, .inl (gK X 0, 3016, .inl (fun _ => 0))), (q4, .inl (gK X 0, 3016, .inl (fun _ => 0))), (q5, .inl (gK X 0, 3016, .inl (fun _ => 0))), (q6, .inl (gK X 0, 3016, .inl (fun _ => 0))), (q7, .inl (gK X 0, 3016, .inl (fun _ => 0))), (q8, .inl (gK X 0, 3016, .inl (fun _ => 0))), (q9, .inl (gK X 1, 3016, .inr (.inl (fun _ => 0)))), (q10, .inl (gK X 0, 3016, .inl (fun _ => 0)))]) (z := 94) C kX8 dX8_init_91 0 rfl 9 (by decide) w_119 rfl rfl hnm rfl rfl rfl (Nat.le_of_ble_eq_true rfl) rfl rfl ?_
  refine g_aload_n (z := 95) C dX8_init_94 0 rfl rfl rfl ?_
  refine g_sipush (v := 3016) (z := 98) C dX8_init_95 (by decide) rfl ?_
  refine g_newI (N := 3016) (a2 := 11) (b2 := 33176) (z := 100) C hR dX8_init_98 w_109 (by decide) (by decide) (Nat.le_of_ble_eq_true rfl) rfl rfl (Nat.le_of_ble_eq_true rfl) (Nat.le_of_ble_eq_true rfl) rfl (fun q11 => ?_)
  refine g_ws (w2 := [(h0, .inr (1, [.ref q1, .ref q2, .ref q3, .ref q4, .ref q5, .ref q6, .ref q7, .ref q8, .ref q9, .ref q10, .null, .int 0])), (q1, .inl (gK X 0, 3016, .inl (fun _ => 0))), (q2, .inl (gK X 0, 3016, .inl (fun _ => 0))), (q3, .inl (gK X 0, 3016, .inl (fun _ => 0))), (q4, .inl (gK X 0, 3016, .inl (fun _ => 0))), (q5, .inl (gK X 0, 3016, .inl (fun _ => 0))), (q6, .inl (gK X 0, 3016, .inl (fun _ => 0))), (q7, .inl (gK X 0, 3016, .inl (fun _ => 0))), (q8, .inl (gK X 0, 3016, .inl (fun _ => 0))), (q9, .inl (gK X 1, 3016, .inr (.inl (fun _ => 0)))), (q10, .inl (gK X 0, 3016, .inl (fun _ => 0))), (q11, .inl (gK X 0, 3016, .inl (fun _ => 0)))]) rfl ?_
  refine g_putF (w2 := [(h0, .inr (1, [.ref q1, .ref q2, .ref q3, .ref q4, .ref q5, .ref q6, .ref q7, .ref q8, .ref q9, .ref q10, .ref q11, .int 0])), (q1, .inl (gK X 0, 3016, .inl (fun _ => 0))), (q2, .inl (gK X 0, 3016, .inl (fun _ => 0))), (q3, .inl (gK X 0, 3016, .inl (fun _ => 0))), (q4, .inl (gK X 0, 3016, .inl (fun _ => 0))), (q5, .inl (gK X 0, 3016, .inl (fun _ => 0))), (q6, .inl (gK X 0, 3016, .inl (fun _ => 0))), (q7, .inl (gK X 0, 3016, .inl (fun _ => 0))), (q8, .inl (gK X 0, 3016, .inl (fun _ => 0))), (q9, .inl (gK X 1, 3016, .inr (.inl (fun _ => 0)))), (q10, .inl (gK X 0, 3016, .inl (fun _ => 0))), (q11, .inl (gK X 0, 3016, .inl (fun _ => 0)))]) (z := 103) C kX8 dX8_init_100 0 rfl 10 (by decide) w_120 rfl rfl hnm rfl rfl rfl (Nat.le_of_ble_eq_true rfl) rfl rfl ?_
  refine g_aload_n (z := 104) C dX8_init_103 0 rfl rfl rfl ?_
  refine g_iconst (v := 1) (z := 105) C dX8_init_104 (by decide) rfl ?_
  refine g_put (w2 := [(h0, .inr (1, [.ref q1, .ref q2, .ref q3, .ref q4, .ref q5, .ref q6, .ref q7, .ref q8, .ref q9, .ref q10, .ref q11, .int 1])), (q1, .inl (gK X 0, 3016, .inl (fun _ => 0))), (q2, .inl (gK X 0, 3016, .inl (fun _ => 0))), (q3, .inl (gK X 0, 3016, .inl (fun _ => 0))), (q4, .inl (gK X 0, 3016, .inl (fun _ => 0))), (q5, .inl (gK X 0, 3016, .inl (fun _ => 0))), (q6, .inl (gK X 0, 3016, .inl (fun _ => 0))), (q7, .inl (gK X 0, 3016, .inl (fun _ => 0))), (q8, .inl (gK X 0, 3016, .inl (fun _ => 0))), (q9, .inl (gK X 1, 3016, .inr (.inl (fun _ => 0)))), (q10, .inl (gK X 0, 3016, .inl (fun _ => 0))), (q11, .inl (gK X 0, 3016, .inl (fun _ => 0)))]) (z := 108) C kX8 dX8_init_105 0 rfl 11 (by decide) w_121 rfl rfl rfl rfl (Nat.le_of_ble_eq_true rfl) rfl rfl ?_
  exact g_vret C hQ dX8_init_108 (Nat.le_of_ble_eq_true rfl) (Nat.le_of_ble_eq_true rfl) ⟨rfl, q1, q2, q3, q4, q5, q6, q7, q8, q9, q10, q11, rfl⟩
set_option maxHeartbeats 4000000 in
set_option maxRecDepth 100000 in
/-- Types() -/
theorem k_X9_init (l : Launch) (D : va_G) (K : KS) (h0 : Nat) : Con l D K yX9_init cX9_init 1 none 1 12 15 14160 [.ref h0] [(h0, .inr (9, [.null, .null, .int 0, .null, .null, .null, .null, .null, .null, .null, .int 0, .null, .null, .null, .int 0, .null, .null, .null, .int 0]))] (fun v w => v = none ∧ ∃ (q1 : Nat) (q2 : Nat) (q3 : Nat) (q4 : Nat) (q5 : Nat) (q6 : Nat) (q7 : Nat) (q8 : Nat) (q9 : Nat) (q10 : Nat) (q11 : Nat) (q12 : Nat) (q13 : Nat) (q14 : Nat) (q15 : Nat), w = [(h0, .inr (9, [.ref q1, .ref q2, .int 0, .ref q3, .ref q4, .ref q5, .ref q6, .ref q7, .ref q8, .ref q9, .int 0, .ref q10, .ref q11, .ref q12, .int 0, .ref q13, .ref q14, .ref q15, .int 0])), (q1, .inl (K 0, 1504, .inl (fun _ => 0)))]) := by
  refine Con.of (by decide +kernel) (Nat.le_of_ble_eq_true rfl) ?_
  intro X hXl hXD hXK C hR hQ hnm
  subst hXl; subst hXD; subst hXK
  refine g_lv (l2 := [(0, .ref h0)]) [0] rfl ?_
  refine g_aload_n (z := 1) C dX9_init_0 0 rfl rfl rfl ?_
  refine g_objInit (z := 4) C hR dX9_init_1 w_286 w_0 w_1 (Nat.le_of_ble_eq_true rfl) (Nat.le_of_ble_eq_true rfl) rfl ?_
  refine g_aload_n (z := 5) C dX9_init_4 0 rfl rfl rfl ?_
  refine g_sipush (v := 1504) (z := 8) C dX9_init_5 (by decide) rfl ?_
  refine g_newI (N := 1504) (a2 := 1) (b2 := 1504) (z := 10) C hR dX9_init_8 w_109 (by decide) (by decide) (Nat.le_of_ble_eq_true rfl) rfl rfl (Nat.le_of_ble_eq_true rfl) (Nat.le_of_ble_eq_true rfl) rfl (fun q1 => ?_)
  refine g_ws (w2 := [(h0, .inr (9, [.null, .null, .int 0, .null, .null, .null, .null, .null, .null, .null, .int 0, .null, .null, .null, .int 0, .null, .null, .null, .int 0])), (q1, .inl (gK X 0, 1504, .inl (fun _ => 0)))]) rfl ?_
  refine g_putF (w2 := [(h0, .inr (9, [.ref q1, .null, .int 0, .null, .null, .null, .null, .null, .null, .null, .int 0, .null, .null, .null, .int 0, .null, .null, .null, .int 0])), (q1, .inl (gK X 0, 1504, .inl (fun _ => 0)))]) (z := 13) C kX9 dX9_init_10 0 rfl 0 (by decide) w_287 rfl rfl hnm rfl rfl rfl (Nat.le_of_ble_eq_true rfl) rfl rfl ?_
  refine g_aload_n (z := 14) C dX9_init_13 0 rfl rfl rfl ?_
  refine g_sipush (v := 1504) (z := 17) C dX9_init_14 (by decide) rfl ?_
  refine g_newID (N := 1504) (a2 := 2) (b2 := 3008) (z := 19) C hR dX9_init_17 w_109 (by decide) (by decide) (Nat.le_of_ble_eq_true rfl) rfl rfl (Nat.le_of_ble_eq_true rfl) (Nat.le_of_ble_eq_true rfl) rfl (fun q2 => ?_)
  refine g_putF (w2 := [(h0, .inr (9, [.ref q1, .ref q2, .int 0, .null, .null, .null, .null, .null, .null, .null, .int 0, .null, .null, .null, .int 0, .null, .null, .null, .int 0])), (q1, .inl (gK X 0, 1504, .inl (fun _ => 0)))]) (z := 22) C kX9 dX9_init_19 0 rfl 1 (by decide) w_288 rfl rfl hnm rfl rfl rfl (Nat.le_of_ble_eq_true rfl) rfl rfl ?_
  refine g_aload_n (z := 23) C dX9_init_22 0 rfl rfl rfl ?_
  refine g_sipush (v := 304) (z := 26) C dX9_init_23 (by decide) rfl ?_
  refine g_newID (N := 304) (a2 := 3) (b2 := 3312) (z := 28) C hR dX9_init_26 w_109 (by decide) (by decide) (Nat.le_of_ble_eq_true rfl) rfl rfl (Nat.le_of_ble_eq_true rfl) (Nat.le_of_ble_eq_true rfl) rfl (fun q3 => ?_)
  refine g_putF (w2 := [(h0, .inr (9, [.ref q1, .ref q2, .int 0, .ref q3, .null, .null, .null, .null, .null, .null, .int 0, .null, .null, .null, .int 0, .null, .null, .null, .int 0])), (q1, .inl (gK X 0, 1504, .inl (fun _ => 0)))]) (z := 31) C kX9 dX9_init_28 0 rfl 3 (by decide) w_289 rfl rfl hnm rfl rfl rfl (Nat.le_of_ble_eq_true rfl) rfl rfl ?_
  refine g_aload_n (z := 32) C dX9_init_31 0 rfl rfl rfl ?_
  refine g_sipush (v := 304) (z := 35) C dX9_init_32 (by decide) rfl ?_
  refine g_newID (N := 304) (a2 := 4) (b2 := 3616) (z := 37) C hR dX9_init_35 w_109 (by decide) (by decide) (Nat.le_of_ble_eq_true rfl) rfl rfl (Nat.le_of_ble_eq_true rfl) (Nat.le_of_ble_eq_true rfl) rfl (fun q4 => ?_)
  refine g_putF (w2 := [(h0, .inr (9, [.ref q1, .ref q2, .int 0, .ref q3, .ref q4, .null, .null, .null, .null, .null, .int 0, .null, .null, .null, .int 0, .null, .null, .null, .int 0])), (q1, .inl (gK X 0, 1504, .inl (fun _ => 0)))]) (z := 40) C kX9 dX9_init_37 0 rfl 4 (by decide) w_290 rfl rfl hnm rfl rfl rfl (Nat.le_of_ble_eq_true rfl) rfl rfl ?_
  refine g_aload_n (z := 41) C dX9_init_40 0 rfl rfl rfl ?_
  refine g_sipush (v := 304) (z := 44) C dX9_init_41 (by decide) rfl ?_
  refine g_newID (N := 304) (a2 := 5) (b2 := 3920) (z := 46) C hR dX9_init_44 w_109 (by decide) (by decide) (Nat.le_of_ble_eq_true rfl) rfl rfl (Nat.le_of_ble_eq_true rfl) (Nat.le_of_ble_eq_true rfl) rfl (fun q5 => ?_)
  refine g_putF (w2 := [(h0, .inr (9, [.ref q1, .ref q2, .int 0, .ref q3, .ref q4, .ref q5, .null, .null, .null, .null, .int 0, .null, .null, .null, .int 0, .null, .null, .null, .int 0])), (q1, .inl (gK X 0, 1504, .inl (fun _ => 0)))]) (z := 49) C kX9 dX9_init_46 0 rfl 5 (by decide) w_291 rfl rfl hnm rfl rfl rfl (Nat.le_of_ble_eq_true rfl) rfl rfl ?_
  refine g_aload_n (z := 50) C dX9_init_49 0 rfl rfl rfl ?_
  refine g_sipush (v := 304) (z := 53) C dX9_init_50 (by decide) rfl ?_
  refine g_newID (N := 304) (a2 := 6) (b2 := 4224) (z := 55) C hR dX9_init_53 w_109 (by decide) (by decide) (Nat.le_of_ble_eq_true rfl) rfl rfl (Nat.le_of_ble_eq_true rfl) (Nat.le_of_ble_eq_true rfl) rfl (fun q6 => ?_)
  refine g_putF (w2 := [(h0, .inr (9, [.ref q1, .ref q2, .int 0, .ref q3, .ref q4, .ref q5, .ref q6, .null, .null, .null, .int 0, .null, .null, .null, .int 0, .null, .null, .null, .int 0])), (q1, .inl (gK X 0, 1504, .inl (fun _ => 0)))]) (z := 58) C kX9 dX9_init_55 0 rfl 6 (by decide) w_292 rfl rfl hnm rfl rfl rfl (Nat.le_of_ble_eq_true rfl) rfl rfl ?_
  refine g_aload_n (z := 59) C dX9_init_58 0 rfl rfl rfl ?_
  refine g_sipush (v := 304) (z := 62) C dX9_init_59 (by decide) rfl ?_
  refine g_newID (N := 304) (a2 := 7) (b2 := 4528) (z := 64) C hR dX9_init_62 w_109 (by decide) (by decide) (Nat.le_of_ble_eq_true rfl) rfl rfl (Nat.le_of_ble_eq_true rfl) (Nat.le_of_ble_eq_true rfl) rfl (fun q7 => ?_)
  refine g_putF (w2 := [(h0, .inr (9, [.ref q1, .ref q2, .int 0, .ref q3, .ref q4, .ref q5, .ref q6, .ref q7, .null, .null, .int 0, .null, .null, .null, .int 0, .null, .null, .null, .int 0])), (q1, .inl (gK X 0, 1504, .inl (fun _ => 0)))]) (z := 67) C kX9 dX9_init_64 0 rfl 7 (by decide) w_293 rfl rfl hnm rfl rfl rfl (Nat.le_of_ble_eq_true rfl) rfl rfl ?_
  refine g_aload_n (z := 68) C dX9_init_67 0 rfl rfl rfl ?_
  refine g_sipush (v := 304) (z := 71) C dX9_init_68 (by decide) rfl ?_
  refine g_newID (N := 304) (a2 := 8) (b2 := 4832) (z := 73) C hR dX9_init_71 w_109 (by decide) (by decide) (Nat.le_of_ble_eq_true rfl) rfl rfl (Nat.le_of_ble_eq_true rfl) (Nat.le_of_ble_eq_true rfl) rfl (fun q8 => ?_)
  refine g_putF (w2 := [(h0, .inr (9, [.ref q1, .ref q2, .int 0, .ref q3, .ref q4, .ref q5, .ref q6, .ref q7, .ref q8, .null, .int 0, .null, .null, .null, .int 0, .null, .null, .null, .int 0])), (q1, .inl (gK X 0, 1504, .inl (fun _ => 0)))]) (z := 76) C kX9 dX9_init_73 0 rfl 8 (by decide) w_294 rfl rfl hnm rfl rfl rfl (Nat.le_of_ble_eq_true rfl) rfl rfl ?_
  refine g_aload_n (z := 77) C dX9_init_76 0 rfl rfl rfl ?_
  refine g_sipush (v := 304) (z := 80) C dX9_init_77 (by decide) rfl ?_
  refine g_newID (N := 304) (a2 := 9) (b2 := 5136) (z := 82) C hR dX9_init_80 w_109 (by decide) (by decide) (Nat.le_of_ble_eq_true rfl) rfl rfl (Nat.le_of_ble_eq_true rfl) (Nat.le_of_ble_eq_true rfl) rfl (fun q9 => ?_)
  refine g_putF (w2 := [(h0, .inr (9, [.ref q1, .ref q2, .int 0, .ref q3, .ref q4, .ref q5, .ref q6, .ref q7, .ref q8, .ref q9, .int 0, .null, .null, .null, .int 0, .null, .null, .null, .int 0])), (q1, .inl (gK X 0, 1504, .inl (fun _ => 0)))]) (z := 85) C kX9 dX9_init_82 0 rfl 9 (by decide) w_295 rfl rfl hnm rfl rfl rfl (Nat.le_of_ble_eq_true rfl) rfl rfl ?_
  refine g_aload_n (z := 86) C dX9_init_85 0 rfl rfl rfl ?_
  refine g_sipush (v := 1504) (z := 89) C dX9_init_86 (by decide) rfl ?_
  refine g_newID (N := 1504) (a2 := 10) (b2 := 6640) (z := 91) C hR dX9_init_89 w_109 (by decide) (by decide) (Nat.le_of_ble_eq_true rfl) rfl rfl (Nat.le_of_ble_eq_true rfl) (Nat.le_of_ble_eq_true rfl) rfl (fun q10 => ?_)
  refine g_putF (w2 := [(h0, .inr (9, [.ref q1, .ref q2, .int 0, .ref q3, .ref q4, .ref q5, .ref q6, .ref q7, .ref q8, .ref q9, .int 0, .ref q10, .null, .null, .int 0, .null, .null, .null, .int 0])), (q1, .inl (gK X 0, 1504, .inl (fun _ => 0)))]) (z := 94) C kX9 dX9_init_91 0 rfl 11 (by decide) w_296 rfl rfl hnm rfl rfl rfl (Nat.le_of_ble_eq_true rfl) rfl rfl ?_
  refine g_aload_n (z := 95) C dX9_init_94 0 rfl rfl rfl ?_
  refine g_sipush (v := 1504) (z := 98) C dX9_init_95 (by decide) rfl ?_
  refine g_newID (N := 1504) (a2 := 11) (b2 := 8144) (z := 100) C hR dX9_init_98 w_109 (by decide) (by decide) (Nat.le_of_ble_eq_true rfl) rfl rfl (Nat.le_of_ble_eq_true rfl) (Nat.le_of_ble_eq_true rfl) rfl (fun q11 => ?_)
  refine g_putF (w2 := [(h0, .inr (9, [.ref q1, .ref q2, .int 0, .ref q3, .ref q4, .ref q5, .ref q6, .ref q7, .ref q8, .ref q9, .int 0, .ref q10, .ref q11, .null, .int 0, .null, .null, .null, .int 0])), (q1, .inl (gK X 0, 1504, .inl (fun _ => 0)))]) (z := 103) C kX9 dX9_init_100 0 rfl 12 (by decide) w_297 rfl rfl hnm rfl rfl rfl (Nat.le_of_ble_eq_true rfl) rfl rfl ?_
  refine g_aload_n (z := 104) C dX9_init_103 0 rfl rfl rfl ?_
  refine g_sipush (v := 1504) (z := 107) C dX9_init_104 (by decide) rfl ?_
  refine g_newID (N := 1504) (a2 := 12) (b2 := 9648) (z := 109) C hR dX9_init_107 w_109 (by decide) (by decide) (Nat.le_of_ble_eq_true rfl) rfl rfl (Nat.le_of_ble_eq_true rfl) (Nat.le_of_ble_eq_true rfl) rfl (fun q12 => ?_)
  refine g_putF (w2 := [(h0, .inr (9, [.ref q1, .ref q2, .int 0, .ref q3, .ref q4, .ref q5, .ref q6, .ref q7, .ref q8, .ref q9, .int 0, .ref q10, .ref q11, .ref q12, .int 0, .null, .null, .null, .int 0])), (q1, .inl (gK X 0, 1504, .inl (fun _ => 0)))]) (z := 112) C kX9 dX9_init_109 0 rfl 13 (by decide) w_298 rfl rfl hnm rfl rfl rfl (Nat.le_of_ble_eq_true rfl) rfl rfl ?_
  refine g_aload_n (z := 113) C dX9_init_112 0 rfl rfl rfl ?_
  refine g_sipush (v := 1504) (z := 116) C dX9_init_113 (by decide) rfl ?_
  refine g_newID (N := 1504) (a2 := 13) (b2 := 11152) (z := 118) C hR dX9_init_116 w_109 (by decide) (by decide) (Nat.le_of_ble_eq_true rfl) rfl rfl (Nat.le_of_ble_eq_true rfl) (Nat.le_of_ble_eq_true rfl) rfl (fun q13 => ?_)
  refine g_putF (w2 := [(h0, .inr (9, [.ref q1, .ref q2, .int 0, .ref q3, .ref q4, .ref q5, .ref q6, .ref q7, .ref q8, .ref q9, .int 0, .ref q10, .ref q11, .ref q12, .int 0, .ref q13, .null, .null, .int 0])), (q1, .inl (gK X 0, 1504, .inl (fun _ => 0)))]) (z := 121) C kX9 dX9_init_118 0 rfl 15 (by decide) w_299 rfl rfl hnm rfl rfl rfl (Nat.le_of_ble_eq_true rfl) rfl rfl ?_
  refine g_aload_n (z := 122) C dX9_init_121 0 rfl rfl rfl ?_
  refine g_sipush (v := 1504) (z := 125) C dX9_init_122 (by decide) rfl ?_
  refine g_newID (N := 1504) (a2 := 14) (b2 := 12656) (z := 127) C hR dX9_init_125 w_109 (by decide) (by decide) (Nat.le_of_ble_eq_true rfl) rfl rfl (Nat.le_of_ble_eq_true rfl) (Nat.le_of_ble_eq_true rfl) rfl (fun q14 => ?_)
  refine g_putF (w2 := [(h0, .inr (9, [.ref q1, .ref q2, .int 0, .ref q3, .ref q4, .ref q5, .ref q6, .ref q7, .ref q8, .ref q9, .int 0, .ref q10, .ref q11, .ref q12, .int 0, .ref q13, .ref q14, .null, .int 0])), (q1, .inl (gK X 0, 1504, .inl (fun _ => 0)))]) (z := 130) C kX9 dX9_init_127 0 rfl 16 (by decide) w_300 rfl rfl hnm rfl rfl rfl (Nat.le_of_ble_eq_true rfl) rfl rfl ?_
  refine g_aload_n (z := 131) C dX9_init_130 0 rfl rfl rfl ?_
  refine g_sipush (v := 1504) (z := 134) C dX9_init_131 (by decide) rfl ?_
  refine g_newID (N := 1504) (a2 := 15) (b2 := 14160) (z := 136) C hR dX9_init_134 w_109 (by decide) (by decide) (Nat.le_of_ble_eq_true rfl) rfl rfl (Nat.le_of_ble_eq_true rfl) (Nat.le_of_ble_eq_true rfl) rfl (fun q15 => ?_)
  refine g_putF (w2 := [(h0, .inr (9, [.ref q1, .ref q2, .int 0, .ref q3, .ref q4, .ref q5, .ref q6, .ref q7, .ref q8, .ref q9, .int 0, .ref q10, .ref q11, .ref q12, .int 0, .ref q13, .ref q14, .ref q15, .int 0])), (q1, .inl (gK X 0, 1504, .inl (fun _ => 0)))]) (z := 139) C kX9 dX9_init_136 0 rfl 17 (by decide) w_301 rfl rfl hnm rfl rfl rfl (Nat.le_of_ble_eq_true rfl) rfl rfl ?_
  exact g_vret C hQ dX9_init_139 (Nat.le_of_ble_eq_true rfl) (Nat.le_of_ble_eq_true rfl) ⟨rfl, q1, q2, q3, q4, q5, q6, q7, q8, q9, q10, q11, q12, q13, q14, q15, rfl⟩
set_option maxHeartbeats 4000000 in
set_option maxRecDepth 100000 in
/-- Functions() -/
theorem k_X2_init (l : Launch) (D : va_G) (K : KS) (h0 : Nat) : Con l D K yX2_init cX2_init 1 none 1 12 16 7204 [.ref h0] [(h0, .inr (10, [.null, .null, .null, .null, .null, .null, .null, .int 0, .null, .null, .null, .null, .null, .null, .null, .null, .null, .int 0, .int 0]))] (fun v w => v = none ∧ ∃ (q1 : Nat) (q2 : Nat) (q3 : Nat) (q4 : Nat) (q5 : Nat) (q6 : Nat) (q7 : Nat) (q8 : Nat) (q9 : Nat) (q10 : Nat) (q11 : Nat) (q12 : Nat) (q13 : Nat) (q14 : Nat) (q15 : Nat) (q16 : Nat), w = [(h0, .inr (10, [.ref q1, .ref q2, .ref q3, .ref q4, .ref q5, .ref q6, .ref q7, .int 0, .ref q8, .ref q9, .ref q10, .ref q11, .ref q12, .ref q13, .ref q14, .ref q15, .ref q16, .int 0, .int 0]))]) := by
  refine Con.of (by decide +kernel) (Nat.le_of_ble_eq_true rfl) ?_
  intro X hXl hXD hXK C hR hQ hnm
  subst hXl; subst hXD; subst hXK
  refine g_lv (l2 := [(0, .ref h0)]) [0] rfl ?_
  refine g_aload_n (z := 1) C dX2_init_0 0 rfl rfl rfl ?_
  refine g_objInit (z := 4) C hR dX2_init_1 w_314 w_0 w_1 (Nat.le_of_ble_eq_true rfl) (Nat.le_of_ble_eq_true rfl) rfl ?_
  refine g_aload_n (z := 5) C dX2_init_4 0 rfl rfl rfl ?_
  refine g_sipush (v := 380) (z := 8) C dX2_init_5 (by decide) rfl ?_
  refine g_newID (N := 380) (a2 := 1) (b2 := 380) (z := 10) C hR dX2_init_8 w_109 (by decide) (by decide) (Nat.le_of_ble_eq_true rfl) rfl rfl (Nat.le_of_ble_eq_true rfl) (Nat.le_of_ble_eq_true rfl) rfl (fun q1 => ?_)
  refine g_putF (w2 := [(h0, .inr (10, [.ref q1, .null, .null, .null, .null, .null, .null, .int 0, .null, .null, .null, .null, .null, .null, .null, .null, .null, .int 0, .int 0]))]) (z := 13) C kX2 dX2_init_10 0 rfl 0 (by decide) w_315 rfl rfl hnm rfl rfl rfl (Nat.le_of_ble_eq_true rfl) rfl rfl ?_
  refine g_aload_n (z := 14) C dX2_init_13 0 rfl rfl rfl ?_
  refine g_sipush (v := 380) (z := 17) C dX2_init_14 (by decide) rfl ?_
  refine g_newID (N := 380) (a2 := 2) (b2 := 760) (z := 19) C hR dX2_init_17 w_109 (by decide) (by decide) (Nat.le_of_ble_eq_true rfl) rfl rfl (Nat.le_of_ble_eq_true rfl) (Nat.le_of_ble_eq_true rfl) rfl (fun q2 => ?_)
  refine g_putF (w2 := [(h0, .inr (10, [.ref q1, .ref q2, .null, .null, .null, .null, .null, .int 0, .null, .null, .null, .null, .null, .null, .null, .null, .null, .int 0, .int 0]))]) (z := 22) C kX2 dX2_init_19 0 rfl 1 (by decide) w_316 rfl rfl hnm rfl rfl rfl (Nat.le_of_ble_eq_true rfl) rfl rfl ?_
  refine g_aload_n (z := 23) C dX2_init_22 0 rfl rfl rfl ?_
  refine g_sipush (v := 380) (z := 26) C dX2_init_23 (by decide) rfl ?_
  refine g_newID (N := 380) (a2 := 3) (b2 := 1140) (z := 28) C hR dX2_init_26 w_109 (by decide) (by decide) (Nat.le_of_ble_eq_true rfl) rfl rfl (Nat.le_of_ble_eq_true rfl) (Nat.le_of_ble_eq_true rfl) rfl (fun q3 => ?_)
  refine g_putF (w2 := [(h0, .inr (10, [.ref q1, .ref q2, .ref q3, .null, .null, .null, .null, .int 0, .null, .null, .null, .null, .null, .null, .null, .null, .null, .int 0, .int 0]))]) (z := 31) C kX2 dX2_init_28 0 rfl 2 (by decide) w_317 rfl rfl hnm rfl rfl rfl (Nat.le_of_ble_eq_true rfl) rfl rfl ?_
  refine g_aload_n (z := 32) C dX2_init_31 0 rfl rfl rfl ?_
  refine g_sipush (v := 380) (z := 35) C dX2_init_32 (by decide) rfl ?_
  refine g_newJD (N := 380) (a2 := 4) (b2 := 1520) (z := 37) C hR dX2_init_35 w_8 (by decide) (by decide) (Nat.le_of_ble_eq_true rfl) rfl rfl (Nat.le_of_ble_eq_true rfl) (Nat.le_of_ble_eq_true rfl) rfl (fun q4 => ?_)
  refine g_putF (w2 := [(h0, .inr (10, [.ref q1, .ref q2, .ref q3, .ref q4, .null, .null, .null, .int 0, .null, .null, .null, .null, .null, .null, .null, .null, .null, .int 0, .int 0]))]) (z := 40) C kX2 dX2_init_37 0 rfl 3 (by decide) w_318 rfl rfl hnm rfl rfl rfl (Nat.le_of_ble_eq_true rfl) rfl rfl ?_
  refine g_aload_n (z := 41) C dX2_init_40 0 rfl rfl rfl ?_
  refine g_sipush (v := 380) (z := 44) C dX2_init_41 (by decide) rfl ?_
  refine g_newID (N := 380) (a2 := 5) (b2 := 1900) (z := 46) C hR dX2_init_44 w_109 (by decide) (by decide) (Nat.le_of_ble_eq_true rfl) rfl rfl (Nat.le_of_ble_eq_true rfl) (Nat.le_of_ble_eq_true rfl) rfl (fun q5 => ?_)
  refine g_putF (w2 := [(h0, .inr (10, [.ref q1, .ref q2, .ref q3, .ref q4, .ref q5, .null, .null, .int 0, .null, .null, .null, .null, .null, .null, .null, .null, .null, .int 0, .int 0]))]) (z := 49) C kX2 dX2_init_46 0 rfl 4 (by decide) w_319 rfl rfl hnm rfl rfl rfl (Nat.le_of_ble_eq_true rfl) rfl rfl ?_
  refine g_aload_n (z := 50) C dX2_init_49 0 rfl rfl rfl ?_
  refine g_sipush (v := 380) (z := 53) C dX2_init_50 (by decide) rfl ?_
  refine g_newID (N := 380) (a2 := 6) (b2 := 2280) (z := 55) C hR dX2_init_53 w_109 (by decide) (by decide) (Nat.le_of_ble_eq_true rfl) rfl rfl (Nat.le_of_ble_eq_true rfl) (Nat.le_of_ble_eq_true rfl) rfl (fun q6 => ?_)
  refine g_putF (w2 := [(h0, .inr (10, [.ref q1, .ref q2, .ref q3, .ref q4, .ref q5, .ref q6, .null, .int 0, .null, .null, .null, .null, .null, .null, .null, .null, .null, .int 0, .int 0]))]) (z := 58) C kX2 dX2_init_55 0 rfl 5 (by decide) w_320 rfl rfl hnm rfl rfl rfl (Nat.le_of_ble_eq_true rfl) rfl rfl ?_
  refine g_aload_n (z := 59) C dX2_init_58 0 rfl rfl rfl ?_
  refine g_sipush (v := 1504) (z := 62) C dX2_init_59 (by decide) rfl ?_
  refine g_newID (N := 1504) (a2 := 7) (b2 := 3784) (z := 64) C hR dX2_init_62 w_109 (by decide) (by decide) (Nat.le_of_ble_eq_true rfl) rfl rfl (Nat.le_of_ble_eq_true rfl) (Nat.le_of_ble_eq_true rfl) rfl (fun q7 => ?_)
  refine g_putF (w2 := [(h0, .inr (10, [.ref q1, .ref q2, .ref q3, .ref q4, .ref q5, .ref q6, .ref q7, .int 0, .null, .null, .null, .null, .null, .null, .null, .null, .null, .int 0, .int 0]))]) (z := 67) C kX2 dX2_init_64 0 rfl 6 (by decide) w_321 rfl rfl hnm rfl rfl rfl (Nat.le_of_ble_eq_true rfl) rfl rfl ?_
  refine g_aload_n (z := 68) C dX2_init_67 0 rfl rfl rfl ?_
  refine g_sipush (v := 380) (z := 71) C dX2_init_68 (by decide) rfl ?_
  refine g_newID (N := 380) (a2 := 8) (b2 := 4164) (z := 73) C hR dX2_init_71 w_109 (by decide) (by decide) (Nat.le_of_ble_eq_true rfl) rfl rfl (Nat.le_of_ble_eq_true rfl) (Nat.le_of_ble_eq_true rfl) rfl (fun q8 => ?_)
  refine g_putF (w2 := [(h0, .inr (10, [.ref q1, .ref q2, .ref q3, .ref q4, .ref q5, .ref q6, .ref q7, .int 0, .ref q8, .null, .null, .null, .null, .null, .null, .null, .null, .int 0, .int 0]))]) (z := 76) C kX2 dX2_init_73 0 rfl 8 (by decide) w_322 rfl rfl hnm rfl rfl rfl (Nat.le_of_ble_eq_true rfl) rfl rfl ?_
  refine g_aload_n (z := 77) C dX2_init_76 0 rfl rfl rfl ?_
  refine g_sipush (v := 380) (z := 80) C dX2_init_77 (by decide) rfl ?_
  refine g_newID (N := 380) (a2 := 9) (b2 := 4544) (z := 82) C hR dX2_init_80 w_109 (by decide) (by decide) (Nat.le_of_ble_eq_true rfl) rfl rfl (Nat.le_of_ble_eq_true rfl) (Nat.le_of_ble_eq_true rfl) rfl (fun q9 => ?_)
  refine g_putF (w2 := [(h0, .inr (10, [.ref q1, .ref q2, .ref q3, .ref q4, .ref q5, .ref q6, .ref q7, .int 0, .ref q8, .ref q9, .null, .null, .null, .null, .null, .null, .null, .int 0, .int 0]))]) (z := 85) C kX2 dX2_init_82 0 rfl 9 (by decide) w_323 rfl rfl hnm rfl rfl rfl (Nat.le_of_ble_eq_true rfl) rfl rfl ?_
  refine g_aload_n (z := 86) C dX2_init_85 0 rfl rfl rfl ?_
  refine g_sipush (v := 380) (z := 89) C dX2_init_86 (by decide) rfl ?_
  refine g_newID (N := 380) (a2 := 10) (b2 := 4924) (z := 91) C hR dX2_init_89 w_109 (by decide) (by decide) (Nat.le_of_ble_eq_true rfl) rfl rfl (Nat.le_of_ble_eq_true rfl) (Nat.le_of_ble_eq_true rfl) rfl (fun q10 => ?_)
  refine g_putF (w2 := [(h0, .inr (10, [.ref q1, .ref q2, .ref q3, .ref q4, .ref q5, .ref q6, .ref q7, .int 0, .ref q8, .ref q9, .ref q10, .null, .null, .null, .null, .null, .null, .int 0, .int 0]))]) (z := 94) C kX2 dX2_init_91 0 rfl 10 (by decide) w_324 rfl rfl hnm rfl rfl rfl (Nat.le_of_ble_eq_true rfl) rfl rfl ?_
  refine g_aload_n (z := 95) C dX2_init_94 0 rfl rfl rfl ?_
  refine g_sipush (v := 380) (z := 98) C dX2_init_95 (by decide) rfl ?_
  refine g_newID (N := 380) (a2 := 11) (b2 := 5304) (z := 100) C hR dX2_init_98 w_109 (by decide) (by decide) (Nat.le_of_ble_eq_true rfl) rfl rfl (Nat.le_of_ble_eq_true rfl) (Nat.le_of_ble_eq_true rfl) rfl (fun q11 => ?_)
  refine g_putF (w2 := [(h0, .inr (10, [.ref q1, .ref q2, .ref q3, .ref q4, .ref q5, .ref q6, .ref q7, .int 0, .ref q8, .ref q9, .ref q10, .ref q11, .null, .null, .null, .null, .null, .int 0, .int 0]))]) (z := 103) C kX2 dX2_init_100 0 rfl 11 (by decide) w_325 rfl rfl hnm rfl rfl rfl (Nat.le_of_ble_eq_true rfl) rfl rfl ?_
  refine g_aload_n (z := 104) C dX2_init_103 0 rfl rfl rfl ?_
  refine g_sipush (v := 380) (z := 107) C dX2_init_104 (by decide) rfl ?_
  refine g_newID (N := 380) (a2 := 12) (b2 := 5684) (z := 109) C hR dX2_init_107 w_109 (by decide) (by decide) (Nat.le_of_ble_eq_true rfl) rfl rfl (Nat.le_of_ble_eq_true rfl) (Nat.le_of_ble_eq_true rfl) rfl (fun q12 => ?_)
  refine g_putF (w2 := [(h0, .inr (10, [.ref q1, .ref q2, .ref q3, .ref q4, .ref q5, .ref q6, .ref q7, .int 0, .ref q8, .ref q9, .ref q10, .ref q11, .ref q12, .null, .null, .null, .null, .int 0, .int 0]))]) (z := 112) C kX2 dX2_init_109 0 rfl 12 (by decide) w_326 rfl rfl hnm rfl rfl rfl (Nat.le_of_ble_eq_true rfl) rfl rfl ?_
  refine g_aload_n (z := 113) C dX2_init_112 0 rfl rfl rfl ?_
  refine g_sipush (v := 380) (z := 116) C dX2_init_113 (by decide) rfl ?_
  refine g_newID (N := 380) (a2 := 13) (b2 := 6064) (z := 118) C hR dX2_init_116 w_109 (by decide) (by decide) (Nat.le_of_ble_eq_true rfl) rfl rfl (Nat.le_of_ble_eq_true rfl) (Nat.le_of_ble_eq_true rfl) rfl (fun q13 => ?_)
  refine g_putF (w2 := [(h0, .inr (10, [.ref q1, .ref q2, .ref q3, .ref q4, .ref q5, .ref q6, .ref q7, .int 0, .ref q8, .ref q9, .ref q10, .ref q11, .ref q12, .ref q13, .null, .null, .null, .int 0, .int 0]))]) (z := 121) C kX2 dX2_init_118 0 rfl 13 (by decide) w_327 rfl rfl hnm rfl rfl rfl (Nat.le_of_ble_eq_true rfl) rfl rfl ?_
  refine g_aload_n (z := 122) C dX2_init_121 0 rfl rfl rfl ?_
  refine g_sipush (v := 380) (z := 125) C dX2_init_122 (by decide) rfl ?_
  refine g_newID (N := 380) (a2 := 14) (b2 := 6444) (z := 127) C hR dX2_init_125 w_109 (by decide) (by decide) (Nat.le_of_ble_eq_true rfl) rfl rfl (Nat.le_of_ble_eq_true rfl) (Nat.le_of_ble_eq_true rfl) rfl (fun q14 => ?_)
  refine g_putF (w2 := [(h0, .inr (10, [.ref q1, .ref q2, .ref q3, .ref q4, .ref q5, .ref q6, .ref q7, .int 0, .ref q8, .ref q9, .ref q10, .ref q11, .ref q12, .ref q13, .ref q14, .null, .null, .int 0, .int 0]))]) (z := 130) C kX2 dX2_init_127 0 rfl 14 (by decide) w_328 rfl rfl hnm rfl rfl rfl (Nat.le_of_ble_eq_true rfl) rfl rfl ?_
  refine g_aload_n (z := 131) C dX2_init_130 0 rfl rfl rfl ?_
  refine g_sipush (v := 380) (z := 134) C dX2_init_131 (by decide) rfl ?_
  refine g_newID (N := 380) (a2 := 15) (b2 := 6824) (z := 136) C hR dX2_init_134 w_109 (by decide) (by decide) (Nat.le_of_ble_eq_true rfl) rfl rfl (Nat.le_of_ble_eq_true rfl) (Nat.le_of_ble_eq_true rfl) rfl (fun q15 => ?_)
  refine g_putF (w2 := [(h0, .inr (10, [.ref q1, .ref q2, .ref q3, .ref q4, .ref q5, .ref q6, .ref q7, .int 0, .ref q8, .ref q9, .ref q10, .ref q11, .ref q12, .ref q13, .ref q14, .ref q15, .null, .int 0, .int 0]))]) (z := 139) C kX2 dX2_init_136 0 rfl 15 (by decide) w_329 rfl rfl hnm rfl rfl rfl (Nat.le_of_ble_eq_true rfl) rfl rfl ?_
  refine g_aload_n (z := 140) C dX2_init_139 0 rfl rfl rfl ?_
  refine g_sipush (v := 380) (z := 143) C dX2_init_140 (by decide) rfl ?_
  refine g_newID (N := 380) (a2 := 16) (b2 := 7204) (z := 145) C hR dX2_init_143 w_109 (by decide) (by decide) (Nat.le_of_ble_eq_true rfl) rfl rfl (Nat.le_of_ble_eq_true rfl) (Nat.le_of_ble_eq_true rfl) rfl (fun q16 => ?_)
  refine g_putF (w2 := [(h0, .inr (10, [.ref q1, .ref q2, .ref q3, .ref q4, .ref q5, .ref q6, .ref q7, .int 0, .ref q8, .ref q9, .ref q10, .ref q11, .ref q12, .ref q13, .ref q14, .ref q15, .ref q16, .int 0, .int 0]))]) (z := 148) C kX2 dX2_init_145 0 rfl 16 (by decide) w_330 rfl rfl hnm rfl rfl rfl (Nat.le_of_ble_eq_true rfl) rfl rfl ?_
  exact g_vret C hQ dX2_init_148 (Nat.le_of_ble_eq_true rfl) (Nat.le_of_ble_eq_true rfl) ⟨rfl, q1, q2, q3, q4, q5, q6, q7, q8, q9, q10, q11, q12, q13, q14, q15, q16, rfl⟩
set_option maxHeartbeats 4000000 in
set_option maxRecDepth 100000 in
/-- Variables() -/
theorem k_X10_init (l : Launch) (D : va_G) (K : KS) (h0 : Nat) : Con l D K yX10_init cX10_init 1 none 1 12 10 15632 [.ref h0] [(h0, .inr (11, [.null, .null, .null, .null, .null, .null, .null, .null, .int 0, .null, .null, .int 0]))] (fun v w => v = none ∧ ∃ (q1 : Nat) (q2 : Nat) (q3 : Nat) (q4 : Nat) (q5 : Nat) (q6 : Nat) (q7 : Nat) (q8 : Nat) (q9 : Nat) (q10 : Nat), w = [(h0, .inr (11, [.ref q1, .ref q2, .ref q3, .ref q4, .ref q5, .ref q6, .ref q7, .ref q8, .int 0, .ref q9, .ref q10, .int 0]))]) := by
  refine Con.of (by decide +kernel) (Nat.le_of_ble_eq_true rfl) ?_
  intro X hXl hXD hXK C hR hQ hnm
  subst hXl; subst hXD; subst hXK
  refine g_lv (l2 := [(0, .ref h0)]) [0] rfl ?_
  refine g_aload_n (z := 1) C dX10_init_0 0 rfl rfl rfl ?_
  refine g_objInit (z := 4) C hR dX10_init_1 w_339 w_0 w_1 (Nat.le_of_ble_eq_true rfl) (Nat.le_of_ble_eq_true rfl) rfl ?_
  refine g_aload_n (z := 5) C dX10_init_4 0 rfl rfl rfl ?_
  refine g_sipush (v := 1504) (z := 8) C dX10_init_5 (by decide) rfl ?_
  refine g_newID (N := 1504) (a2 := 1) (b2 := 1504) (z := 10) C hR dX10_init_8 w_109 (by decide) (by decide) (Nat.le_of_ble_eq_true rfl) rfl rfl (Nat.le_of_ble_eq_true rfl) (Nat.le_of_ble_eq_true rfl) rfl (fun q1 => ?_)
  refine g_putF (w2 := [(h0, .inr (11, [.ref q1, .null, .null, .null, .null, .null, .null, .null, .int 0, .null, .null, .int 0]))]) (z := 13) C kX10 dX10_init_10 0 rfl 0 (by decide) w_340 rfl rfl hnm rfl rfl rfl (Nat.le_of_ble_eq_true rfl) rfl rfl ?_
  refine g_aload_n (z := 14) C dX10_init_13 0 rfl rfl rfl ?_
  refine g_sipush (v := 1504) (z := 17) C dX10_init_14 (by decide) rfl ?_
  refine g_newID (N := 1504) (a2 := 2) (b2 := 3008) (z := 19) C hR dX10_init_17 w_109 (by decide) (by decide) (Nat.le_of_ble_eq_true rfl) rfl rfl (Nat.le_of_ble_eq_true rfl) (Nat.le_of_ble_eq_true rfl) rfl (fun q2 => ?_)
  refine g_putF (w2 := [(h0, .inr (11, [.ref q1, .ref q2, .null, .null, .null, .null, .null, .null, .int 0, .null, .null, .int 0]))]) (z := 22) C kX10 dX10_init_19 0 rfl 1 (by decide) w_341 rfl rfl hnm rfl rfl rfl (Nat.le_of_ble_eq_true rfl) rfl rfl ?_
  refine g_aload_n (z := 23) C dX10_init_22 0 rfl rfl rfl ?_
  refine g_sipush (v := 1504) (z := 26) C dX10_init_23 (by decide) rfl ?_
  refine g_newID (N := 1504) (a2 := 3) (b2 := 4512) (z := 28) C hR dX10_init_26 w_109 (by decide) (by decide) (Nat.le_of_ble_eq_true rfl) rfl rfl (Nat.le_of_ble_eq_true rfl) (Nat.le_of_ble_eq_true rfl) rfl (fun q3 => ?_)
  refine g_putF (w2 := [(h0, .inr (11, [.ref q1, .ref q2, .ref q3, .null, .null, .null, .null, .null, .int 0, .null, .null, .int 0]))]) (z := 31) C kX10 dX10_init_28 0 rfl 2 (by decide) w_342 rfl rfl hnm rfl rfl rfl (Nat.le_of_ble_eq_true rfl) rfl rfl ?_
  refine g_aload_n (z := 32) C dX10_init_31 0 rfl rfl rfl ?_
  refine g_sipush (v := 1504) (z := 35) C dX10_init_32 (by decide) rfl ?_
  refine g_newID (N := 1504) (a2 := 4) (b2 := 6016) (z := 37) C hR dX10_init_35 w_109 (by decide) (by decide) (Nat.le_of_ble_eq_true rfl) rfl rfl (Nat.le_of_ble_eq_true rfl) (Nat.le_of_ble_eq_true rfl) rfl (fun q4 => ?_)
  refine g_putF (w2 := [(h0, .inr (11, [.ref q1, .ref q2, .ref q3, .ref q4, .null, .null, .null, .null, .int 0, .null, .null, .int 0]))]) (z := 40) C kX10 dX10_init_37 0 rfl 3 (by decide) w_343 rfl rfl hnm rfl rfl rfl (Nat.le_of_ble_eq_true rfl) rfl rfl ?_
  refine g_aload_n (z := 41) C dX10_init_40 0 rfl rfl rfl ?_
  refine g_sipush (v := 1504) (z := 44) C dX10_init_41 (by decide) rfl ?_
  refine g_newID (N := 1504) (a2 := 5) (b2 := 7520) (z := 46) C hR dX10_init_44 w_109 (by decide) (by decide) (Nat.le_of_ble_eq_true rfl) rfl rfl (Nat.le_of_ble_eq_true rfl) (Nat.le_of_ble_eq_true rfl) rfl (fun q5 => ?_)
  refine g_putF (w2 := [(h0, .inr (11, [.ref q1, .ref q2, .ref q3, .ref q4, .ref q5, .null, .null, .null, .int 0, .null, .null, .int 0]))]) (z := 49) C kX10 dX10_init_46 0 rfl 4 (by decide) w_344 rfl rfl hnm rfl rfl rfl (Nat.le_of_ble_eq_true rfl) rfl rfl ?_
  refine g_aload_n (z := 50) C dX10_init_49 0 rfl rfl rfl ?_
  refine g_sipush (v := 1504) (z := 53) C dX10_init_50 (by decide) rfl ?_
  refine g_newID (N := 1504) (a2 := 6) (b2 := 9024) (z := 55) C hR dX10_init_53 w_109 (by decide) (by decide) (Nat.le_of_ble_eq_true rfl) rfl rfl (Nat.le_of_ble_eq_true rfl) (Nat.le_of_ble_eq_true rfl) rfl (fun q6 => ?_)
  refine g_putF (w2 := [(h0, .inr (11, [.ref q1, .ref q2, .ref q3, .ref q4, .ref q5, .ref q6, .null, .null, .int 0, .null, .null, .int 0]))]) (z := 58) C kX10 dX10_init_55 0 rfl 5 (by decide) w_345 rfl rfl hnm rfl rfl rfl (Nat.le_of_ble_eq_true rfl) rfl rfl ?_
  refine g_aload_n (z := 59) C dX10_init_58 0 rfl rfl rfl ?_
  refine g_sipush (v := 1504) (z := 62) C dX10_init_59 (by decide) rfl ?_
  refine g_newID (N := 1504) (a2 := 7) (b2 := 10528) (z := 64) C hR dX10_init_62 w_109 (by decide) (by decide) (Nat.le_of_ble_eq_true rfl) rfl rfl (Nat.le_of_ble_eq_true rfl) (Nat.le_of_ble_eq_true rfl) rfl (fun q7 => ?_)
  refine g_putF (w2 := [(h0, .inr (11, [.ref q1, .ref q2, .ref q3, .ref q4, .ref q5, .ref q6, .ref q7, .null, .int 0, .null, .null, .int 0]))]) (z := 67) C kX10 dX10_init_64 0 rfl 6 (by decide) w_346 rfl rfl hnm rfl rfl rfl (Nat.le_of_ble_eq_true rfl) rfl rfl ?_
  refine g_aload_n (z := 68) C dX10_init_67 0 rfl rfl rfl ?_
  refine g_sipush (v := 1504) (z := 71) C dX10_init_68 (by decide) rfl ?_
  refine g_newJD (N := 1504) (a2 := 8) (b2 := 12032) (z := 73) C hR dX10_init_71 w_8 (by decide) (by decide) (Nat.le_of_ble_eq_true rfl) rfl rfl (Nat.le_of_ble_eq_true rfl) (Nat.le_of_ble_eq_true rfl) rfl (fun q8 => ?_)
  refine g_putF (w2 := [(h0, .inr (11, [.ref q1, .ref q2, .ref q3, .ref q4, .ref q5, .ref q6, .ref q7, .ref q8, .int 0, .null, .null, .int 0]))]) (z := 76) C kX10 dX10_init_73 0 rfl 7 (by decide) w_347 rfl rfl hnm rfl rfl rfl (Nat.le_of_ble_eq_true rfl) rfl rfl ?_
  refine g_aload_n (z := 77) C dX10_init_76 0 rfl rfl rfl ?_
  refine g_sipush (v := 1800) (z := 80) C dX10_init_77 (by decide) rfl ?_
  refine g_newID (N := 1800) (a2 := 9) (b2 := 13832) (z := 82) C hR dX10_init_80 w_109 (by decide) (by decide) (Nat.le_of_ble_eq_true rfl) rfl rfl (Nat.le_of_ble_eq_true rfl) (Nat.le_of_ble_eq_true rfl) rfl (fun q9 => ?_)
  refine g_putF (w2 := [(h0, .inr (11, [.ref q1, .ref q2, .ref q3, .ref q4, .ref q5, .ref q6, .ref q7, .ref q8, .int 0, .ref q9, .null, .int 0]))]) (z := 85) C kX10 dX10_init_82 0 rfl 9 (by decide) w_348 rfl rfl hnm rfl rfl rfl (Nat.le_of_ble_eq_true rfl) rfl rfl ?_
  refine g_aload_n (z := 86) C dX10_init_85 0 rfl rfl rfl ?_
  refine g_sipush (v := 1800) (z := 89) C dX10_init_86 (by decide) rfl ?_
  refine g_newID (N := 1800) (a2 := 10) (b2 := 15632) (z := 91) C hR dX10_init_89 w_109 (by decide) (by decide) (Nat.le_of_ble_eq_true rfl) rfl rfl (Nat.le_of_ble_eq_true rfl) (Nat.le_of_ble_eq_true rfl) rfl (fun q10 => ?_)
  refine g_putF (w2 := [(h0, .inr (11, [.ref q1, .ref q2, .ref q3, .ref q4, .ref q5, .ref q6, .ref q7, .ref q8, .int 0, .ref q9, .ref q10, .int 0]))]) (z := 94) C kX10 dX10_init_91 0 rfl 10 (by decide) w_349 rfl rfl hnm rfl rfl rfl (Nat.le_of_ble_eq_true rfl) rfl rfl ?_
  exact g_vret C hQ dX10_init_94 (Nat.le_of_ble_eq_true rfl) (Nat.le_of_ble_eq_true rfl) ⟨rfl, q1, q2, q3, q4, q5, q6, q7, q8, q9, q10, rfl⟩
set_option maxHeartbeats 4000000 in
set_option maxRecDepth 100000 in
/-- Places() -/
theorem k_X4_init (l : Launch) (D : va_G) (K : KS) (h0 : Nat) : Con l D K yX4_init cX4_init 1 none 1 12 17 14648 [.ref h0] [(h0, .inr (12, [.null, .null, .null, .null, .null, .null, .null, .null, .null, .null, .null, .null, .int 0, .null, .null, .null, .int 0, .null, .null, .int 0]))] (fun v w => v = none ∧ ∃ (q1 : Nat) (q2 : Nat) (q3 : Nat) (q4 : Nat) (q5 : Nat) (q6 : Nat) (q7 : Nat) (q8 : Nat) (q9 : Nat) (q10 : Nat) (q11 : Nat) (q12 : Nat) (q13 : Nat) (q14 : Nat) (q15 : Nat) (q16 : Nat) (q17 : Nat), w = [(h0, .inr (12, [.ref q1, .ref q2, .ref q3, .ref q4, .ref q5, .ref q6, .ref q7, .ref q8, .ref q9, .ref q10, .ref q11, .ref q12, .int 0, .ref q13, .ref q14, .ref q15, .int 0, .ref q16, .ref q17, .int 0]))]) := by
  refine Con.of (by decide +kernel) (Nat.le_of_ble_eq_true rfl) ?_
  intro X hXl hXD hXK C hR hQ hnm
  subst hXl; subst hXD; subst hXK
  refine g_lv (l2 := [(0, .ref h0)]) [0] rfl ?_
  refine g_aload_n (z := 1) C dX4_init_0 0 rfl rfl rfl ?_
  refine g_objInit (z := 4) C hR dX4_init_1 w_357 w_0 w_1 (Nat.le_of_ble_eq_true rfl) (Nat.le_of_ble_eq_true rfl) rfl ?_
  refine g_aload_n (z := 5) C dX4_init_4 0 rfl rfl rfl ?_
  refine g_sipush (v := 400) (z := 8) C dX4_init_5 (by decide) rfl ?_
  refine g_newID (N := 400) (a2 := 1) (b2 := 400) (z := 10) C hR dX4_init_8 w_109 (by decide) (by decide) (Nat.le_of_ble_eq_true rfl) rfl rfl (Nat.le_of_ble_eq_true rfl) (Nat.le_of_ble_eq_true rfl) rfl (fun q1 => ?_)
  refine g_putF (w2 := [(h0, .inr (12, [.ref q1, .null, .null, .null, .null, .null, .null, .null, .null, .null, .null, .null, .int 0, .null, .null, .null, .int 0, .null, .null, .int 0]))]) (z := 13) C kX4 dX4_init_10 0 rfl 0 (by decide) w_358 rfl rfl hnm rfl rfl rfl (Nat.le_of_ble_eq_true rfl) rfl rfl ?_
  refine g_aload_n (z := 14) C dX4_init_13 0 rfl rfl rfl ?_
  refine g_sipush (v := 400) (z := 17) C dX4_init_14 (by decide) rfl ?_
  refine g_newID (N := 400) (a2 := 2) (b2 := 800) (z := 19) C hR dX4_init_17 w_109 (by decide) (by decide) (Nat.le_of_ble_eq_true rfl) rfl rfl (Nat.le_of_ble_eq_true rfl) (Nat.le_of_ble_eq_true rfl) rfl (fun q2 => ?_)
  refine g_putF (w2 := [(h0, .inr (12, [.ref q1, .ref q2, .null, .null, .null, .null, .null, .null, .null, .null, .null, .null, .int 0, .null, .null, .null, .int 0, .null, .null, .int 0]))]) (z := 22) C kX4 dX4_init_19 0 rfl 1 (by decide) w_359 rfl rfl hnm rfl rfl rfl (Nat.le_of_ble_eq_true rfl) rfl rfl ?_
  refine g_aload_n (z := 23) C dX4_init_22 0 rfl rfl rfl ?_
  refine g_sipush (v := 400) (z := 26) C dX4_init_23 (by decide) rfl ?_
  refine g_newID (N := 400) (a2 := 3) (b2 := 1200) (z := 28) C hR dX4_init_26 w_109 (by decide) (by decide) (Nat.le_of_ble_eq_true rfl) rfl rfl (Nat.le_of_ble_eq_true rfl) (Nat.le_of_ble_eq_true rfl) rfl (fun q3 => ?_)
  refine g_putF (w2 := [(h0, .inr (12, [.ref q1, .ref q2, .ref q3, .null, .null, .null, .null, .null, .null, .null, .null, .null, .int 0, .null, .null, .null, .int 0, .null, .null, .int 0]))]) (z := 31) C kX4 dX4_init_28 0 rfl 2 (by decide) w_360 rfl rfl hnm rfl rfl rfl (Nat.le_of_ble_eq_true rfl) rfl rfl ?_
  refine g_aload_n (z := 32) C dX4_init_31 0 rfl rfl rfl ?_
  refine g_sipush (v := 400) (z := 35) C dX4_init_32 (by decide) rfl ?_
  refine g_newID (N := 400) (a2 := 4) (b2 := 1600) (z := 37) C hR dX4_init_35 w_109 (by decide) (by decide) (Nat.le_of_ble_eq_true rfl) rfl rfl (Nat.le_of_ble_eq_true rfl) (Nat.le_of_ble_eq_true rfl) rfl (fun q4 => ?_)
  refine g_putF (w2 := [(h0, .inr (12, [.ref q1, .ref q2, .ref q3, .ref q4, .null, .null, .null, .null, .null, .null, .null, .null, .int 0, .null, .null, .null, .int 0, .null, .null, .int 0]))]) (z := 40) C kX4 dX4_init_37 0 rfl 3 (by decide) w_361 rfl rfl hnm rfl rfl rfl (Nat.le_of_ble_eq_true rfl) rfl rfl ?_
  refine g_aload_n (z := 41) C dX4_init_40 0 rfl rfl rfl ?_
  refine g_sipush (v := 400) (z := 44) C dX4_init_41 (by decide) rfl ?_
  refine g_newID (N := 400) (a2 := 5) (b2 := 2000) (z := 46) C hR dX4_init_44 w_109 (by decide) (by decide) (Nat.le_of_ble_eq_true rfl) rfl rfl (Nat.le_of_ble_eq_true rfl) (Nat.le_of_ble_eq_true rfl) rfl (fun q5 => ?_)
  refine g_putF (w2 := [(h0, .inr (12, [.ref q1, .ref q2, .ref q3, .ref q4, .ref q5, .null, .null, .null, .null, .null, .null, .null, .int 0, .null, .null, .null, .int 0, .null, .null, .int 0]))]) (z := 49) C kX4 dX4_init_46 0 rfl 4 (by decide) w_362 rfl rfl hnm rfl rfl rfl (Nat.le_of_ble_eq_true rfl) rfl rfl ?_
  refine g_aload_n (z := 50) C dX4_init_49 0 rfl rfl rfl ?_
  refine g_sipush (v := 400) (z := 53) C dX4_init_50 (by decide) rfl ?_
  refine g_newID (N := 400) (a2 := 6) (b2 := 2400) (z := 55) C hR dX4_init_53 w_109 (by decide) (by decide) (Nat.le_of_ble_eq_true rfl) rfl rfl (Nat.le_of_ble_eq_true rfl) (Nat.le_of_ble_eq_true rfl) rfl (fun q6 => ?_)
  refine g_putF (w2 := [(h0, .inr (12, [.ref q1, .ref q2, .ref q3, .ref q4, .ref q5, .ref q6, .null, .null, .null, .null, .null, .null, .int 0, .null, .null, .null, .int 0, .null, .null, .int 0]))]) (z := 58) C kX4 dX4_init_55 0 rfl 5 (by decide) w_363 rfl rfl hnm rfl rfl rfl (Nat.le_of_ble_eq_true rfl) rfl rfl ?_
  refine g_aload_n (z := 59) C dX4_init_58 0 rfl rfl rfl ?_
  refine g_sipush (v := 400) (z := 62) C dX4_init_59 (by decide) rfl ?_
  refine g_newID (N := 400) (a2 := 7) (b2 := 2800) (z := 64) C hR dX4_init_62 w_109 (by decide) (by decide) (Nat.le_of_ble_eq_true rfl) rfl rfl (Nat.le_of_ble_eq_true rfl) (Nat.le_of_ble_eq_true rfl) rfl (fun q7 => ?_)
  refine g_putF (w2 := [(h0, .inr (12, [.ref q1, .ref q2, .ref q3, .ref q4, .ref q5, .ref q6, .ref q7, .null, .null, .null, .null, .null, .int 0, .null, .null, .null, .int 0, .null, .null, .int 0]))]) (z := 67) C kX4 dX4_init_64 0 rfl 6 (by decide) w_364 rfl rfl hnm rfl rfl rfl (Nat.le_of_ble_eq_true rfl) rfl rfl ?_
  refine g_aload_n (z := 68) C dX4_init_67 0 rfl rfl rfl ?_
  refine g_sipush (v := 400) (z := 71) C dX4_init_68 (by decide) rfl ?_
  refine g_newID (N := 400) (a2 := 8) (b2 := 3200) (z := 73) C hR dX4_init_71 w_109 (by decide) (by decide) (Nat.le_of_ble_eq_true rfl) rfl rfl (Nat.le_of_ble_eq_true rfl) (Nat.le_of_ble_eq_true rfl) rfl (fun q8 => ?_)
  refine g_putF (w2 := [(h0, .inr (12, [.ref q1, .ref q2, .ref q3, .ref q4, .ref q5, .ref q6, .ref q7, .ref q8, .null, .null, .null, .null, .int 0, .null, .null, .null, .int 0, .null, .null, .int 0]))]) (z := 76) C kX4 dX4_init_73 0 rfl 7 (by decide) w_365 rfl rfl hnm rfl rfl rfl (Nat.le_of_ble_eq_true rfl) rfl rfl ?_
  refine g_aload_n (z := 77) C dX4_init_76 0 rfl rfl rfl ?_
  refine g_sipush (v := 400) (z := 80) C dX4_init_77 (by decide) rfl ?_
  refine g_newID (N := 400) (a2 := 9) (b2 := 3600) (z := 82) C hR dX4_init_80 w_109 (by decide) (by decide) (Nat.le_of_ble_eq_true rfl) rfl rfl (Nat.le_of_ble_eq_true rfl) (Nat.le_of_ble_eq_true rfl) rfl (fun q9 => ?_)
  refine g_putF (w2 := [(h0, .inr (12, [.ref q1, .ref q2, .ref q3, .ref q4, .ref q5, .ref q6, .ref q7, .ref q8, .ref q9, .null, .null, .null, .int 0, .null, .null, .null, .int 0, .null, .null, .int 0]))]) (z := 85) C kX4 dX4_init_82 0 rfl 8 (by decide) w_366 rfl rfl hnm rfl rfl rfl (Nat.le_of_ble_eq_true rfl) rfl rfl ?_
  refine g_aload_n (z := 86) C dX4_init_85 0 rfl rfl rfl ?_
  refine g_sipush (v := 400) (z := 89) C dX4_init_86 (by decide) rfl ?_
  refine g_newZD (N := 400) (a2 := 10) (b2 := 4000) (z := 91) C hR dX4_init_89 w_224 (by decide) (by decide) (Nat.le_of_ble_eq_true rfl) rfl rfl (Nat.le_of_ble_eq_true rfl) (Nat.le_of_ble_eq_true rfl) rfl (fun q10 => ?_)
  refine g_putF (w2 := [(h0, .inr (12, [.ref q1, .ref q2, .ref q3, .ref q4, .ref q5, .ref q6, .ref q7, .ref q8, .ref q9, .ref q10, .null, .null, .int 0, .null, .null, .null, .int 0, .null, .null, .int 0]))]) (z := 94) C kX4 dX4_init_91 0 rfl 9 (by decide) w_367 rfl rfl hnm rfl rfl rfl (Nat.le_of_ble_eq_true rfl) rfl rfl ?_
  refine g_aload_n (z := 95) C dX4_init_94 0 rfl rfl rfl ?_
  refine g_sipush (v := 400) (z := 98) C dX4_init_95 (by decide) rfl ?_
  refine g_newZD (N := 400) (a2 := 11) (b2 := 4400) (z := 100) C hR dX4_init_98 w_224 (by decide) (by decide) (Nat.le_of_ble_eq_true rfl) rfl rfl (Nat.le_of_ble_eq_true rfl) (Nat.le_of_ble_eq_true rfl) rfl (fun q11 => ?_)
  refine g_putF (w2 := [(h0, .inr (12, [.ref q1, .ref q2, .ref q3, .ref q4, .ref q5, .ref q6, .ref q7, .ref q8, .ref q9, .ref q10, .ref q11, .null, .int 0, .null, .null, .null, .int 0, .null, .null, .int 0]))]) (z := 103) C kX4 dX4_init_100 0 rfl 10 (by decide) w_368 rfl rfl hnm rfl rfl rfl (Nat.le_of_ble_eq_true rfl) rfl rfl ?_
  refine g_aload_n (z := 104) C dX4_init_103 0 rfl rfl rfl ?_
  refine g_sipush (v := 400) (z := 107) C dX4_init_104 (by decide) rfl ?_
  refine g_newJD (N := 400) (a2 := 12) (b2 := 4800) (z := 109) C hR dX4_init_107 w_8 (by decide) (by decide) (Nat.le_of_ble_eq_true rfl) rfl rfl (Nat.le_of_ble_eq_true rfl) (Nat.le_of_ble_eq_true rfl) rfl (fun q12 => ?_)
  refine g_putF (w2 := [(h0, .inr (12, [.ref q1, .ref q2, .ref q3, .ref q4, .ref q5, .ref q6, .ref q7, .ref q8, .ref q9, .ref q10, .ref q11, .ref q12, .int 0, .null, .null, .null, .int 0, .null, .null, .int 0]))]) (z := 112) C kX4 dX4_init_109 0 rfl 11 (by decide) w_369 rfl rfl hnm rfl rfl rfl (Nat.le_of_ble_eq_true rfl) rfl rfl ?_
  refine g_aload_n (z := 113) C dX4_init_112 0 rfl rfl rfl ?_
  refine g_sipush (v := 3016) (z := 116) C dX4_init_113 (by decide) rfl ?_
  refine g_newID (N := 3016) (a2 := 13) (b2 := 7816) (z := 118) C hR dX4_init_116 w_109 (by decide) (by decide) (Nat.le_of_ble_eq_true rfl) rfl rfl (Nat.le_of_ble_eq_true rfl) (Nat.le_of_ble_eq_true rfl) rfl (fun q13 => ?_)
  refine g_putF (w2 := [(h0, .inr (12, [.ref q1, .ref q2, .ref q3, .ref q4, .ref q5, .ref q6, .ref q7, .ref q8, .ref q9, .ref q10, .ref q11, .ref q12, .int 0, .ref q13, .null, .null, .int 0, .null, .null, .int 0]))]) (z := 121) C kX4 dX4_init_118 0 rfl 13 (by decide) w_370 rfl rfl hnm rfl rfl rfl (Nat.le_of_ble_eq_true rfl) rfl rfl ?_
  refine g_aload_n (z := 122) C dX4_init_121 0 rfl rfl rfl ?_
  refine g_sipush (v := 3016) (z := 125) C dX4_init_122 (by decide) rfl ?_
  refine g_newID (N := 3016) (a2 := 14) (b2 := 10832) (z := 127) C hR dX4_init_125 w_109 (by decide) (by decide) (Nat.le_of_ble_eq_true rfl) rfl rfl (Nat.le_of_ble_eq_true rfl) (Nat.le_of_ble_eq_true rfl) rfl (fun q14 => ?_)
  refine g_putF (w2 := [(h0, .inr (12, [.ref q1, .ref q2, .ref q3, .ref q4, .ref q5, .ref q6, .ref q7, .ref q8, .ref q9, .ref q10, .ref q11, .ref q12, .int 0, .ref q13, .ref q14, .null, .int 0, .null, .null, .int 0]))]) (z := 130) C kX4 dX4_init_127 0 rfl 14 (by decide) w_371 rfl rfl hnm rfl rfl rfl (Nat.le_of_ble_eq_true rfl) rfl rfl ?_
  refine g_aload_n (z := 131) C dX4_init_130 0 rfl rfl rfl ?_
  refine g_sipush (v := 3016) (z := 134) C dX4_init_131 (by decide) rfl ?_
  refine g_newID (N := 3016) (a2 := 15) (b2 := 13848) (z := 136) C hR dX4_init_134 w_109 (by decide) (by decide) (Nat.le_of_ble_eq_true rfl) rfl rfl (Nat.le_of_ble_eq_true rfl) (Nat.le_of_ble_eq_true rfl) rfl (fun q15 => ?_)
  refine g_putF (w2 := [(h0, .inr (12, [.ref q1, .ref q2, .ref q3, .ref q4, .ref q5, .ref q6, .ref q7, .ref q8, .ref q9, .ref q10, .ref q11, .ref q12, .int 0, .ref q13, .ref q14, .ref q15, .int 0, .null, .null, .int 0]))]) (z := 139) C kX4 dX4_init_136 0 rfl 15 (by decide) w_372 rfl rfl hnm rfl rfl rfl (Nat.le_of_ble_eq_true rfl) rfl rfl ?_
  refine g_aload_n (z := 140) C dX4_init_139 0 rfl rfl rfl ?_
  refine g_sipush (v := 400) (z := 143) C dX4_init_140 (by decide) rfl ?_
  refine g_newID (N := 400) (a2 := 16) (b2 := 14248) (z := 145) C hR dX4_init_143 w_109 (by decide) (by decide) (Nat.le_of_ble_eq_true rfl) rfl rfl (Nat.le_of_ble_eq_true rfl) (Nat.le_of_ble_eq_true rfl) rfl (fun q16 => ?_)
  refine g_putF (w2 := [(h0, .inr (12, [.ref q1, .ref q2, .ref q3, .ref q4, .ref q5, .ref q6, .ref q7, .ref q8, .ref q9, .ref q10, .ref q11, .ref q12, .int 0, .ref q13, .ref q14, .ref q15, .int 0, .ref q16, .null, .int 0]))]) (z := 148) C kX4 dX4_init_145 0 rfl 17 (by decide) w_373 rfl rfl hnm rfl rfl rfl (Nat.le_of_ble_eq_true rfl) rfl rfl ?_
  refine g_aload_n (z := 149) C dX4_init_148 0 rfl rfl rfl ?_
  refine g_sipush (v := 400) (z := 152) C dX4_init_149 (by decide) rfl ?_
  refine g_newID (N := 400) (a2 := 17) (b2 := 14648) (z := 154) C hR dX4_init_152 w_109 (by decide) (by decide) (Nat.le_of_ble_eq_true rfl) rfl rfl (Nat.le_of_ble_eq_true rfl) (Nat.le_of_ble_eq_true rfl) rfl (fun q17 => ?_)
  refine g_putF (w2 := [(h0, .inr (12, [.ref q1, .ref q2, .ref q3, .ref q4, .ref q5, .ref q6, .ref q7, .ref q8, .ref q9, .ref q10, .ref q11, .ref q12, .int 0, .ref q13, .ref q14, .ref q15, .int 0, .ref q16, .ref q17, .int 0]))]) (z := 157) C kX4 dX4_init_154 0 rfl 18 (by decide) w_374 rfl rfl hnm rfl rfl rfl (Nat.le_of_ble_eq_true rfl) rfl rfl ?_
  exact g_vret C hQ dX4_init_157 (Nat.le_of_ble_eq_true rfl) (Nat.le_of_ble_eq_true rfl) ⟨rfl, q1, q2, q3, q4, q5, q6, q7, q8, q9, q10, q11, q12, q13, q14, q15, q16, q17, rfl⟩
set_option maxHeartbeats 4000000 in
set_option maxRecDepth 100000 in
/-- Ways(): dead where nothing is judged -/
theorem k_X11_init (l : Launch) (D : va_G) (K : KS) (h0 : Nat) : Con l D K yX11_init cX11_init 1 none 1 12 7 10154 [.ref h0] [(h0, .inr (5, [.null, .null, .null, .null, .int 0, .int 0, .null, .int 0, .null, .null, .int 0, .long 0, .null, .int 0, .null, .long 0, .null, .null, .int 0, .int 0, .int 0, .int 0]))] (fun v _ => v = none) := by
  refine Con.of (by decide +kernel) (Nat.le_of_ble_eq_true rfl) ?_
  intro X hXl hXD hXK C hR hQ hnm
  subst hXl; subst hXD; subst hXK
  refine g_lv (l2 := [(0, .ref h0)]) [0] rfl ?_
  refine g_aload_n (z := 1) C dX11_init_0 0 rfl rfl rfl ?_
  refine g_objInit (z := 4) C hR dX11_init_1 w_221 w_0 w_1 (Nat.le_of_ble_eq_true rfl) (Nat.le_of_ble_eq_true rfl) rfl ?_
  refine g_aload_n (z := 5) C dX11_init_4 0 rfl rfl rfl ?_
  refine g_bipush (v := 42) (z := 7) C dX11_init_5 (by decide) rfl ?_
  refine g_newJD (N := 42) (a2 := 1) (b2 := 42) (z := 9) C hR dX11_init_7 w_8 (by decide) (by decide) (Nat.le_of_ble_eq_true rfl) rfl rfl (Nat.le_of_ble_eq_true rfl) (Nat.le_of_ble_eq_true rfl) rfl (fun q1 => ?_)
  refine g_putF (w2 := [(h0, .inr (5, [.null, .null, .null, .null, .int 0, .int 0, .ref q1, .int 0, .null, .null, .int 0, .long 0, .null, .int 0, .null, .long 0, .null, .null, .int 0, .int 0, .int 0, .int 0]))]) (z := 12) C kX11 dX11_init_9 0 rfl 6 (by decide) w_222 rfl rfl hnm rfl rfl rfl (Nat.le_of_ble_eq_true rfl) rfl rfl ?_
  refine g_aload_n (z := 13) C dX11_init_12 0 rfl rfl rfl ?_
  refine g_sipush (v := 2016) (z := 16) C dX11_init_13 (by decide) rfl ?_
  refine g_newJD (N := 2016) (a2 := 2) (b2 := 2058) (z := 18) C hR dX11_init_16 w_8 (by decide) (by decide) (Nat.le_of_ble_eq_true rfl) rfl rfl (Nat.le_of_ble_eq_true rfl) (Nat.le_of_ble_eq_true rfl) rfl (fun q2 => ?_)
  refine g_put (w2 := [(h0, .inr (5, [.null, .null, .null, .null, .int 0, .int 0, .ref q1, .int 0, .ref q2, .null, .int 0, .long 0, .null, .int 0, .null, .long 0, .null, .null, .int 0, .int 0, .int 0, .int 0]))]) (z := 21) C kX11 dX11_init_18 0 rfl 8 (by decide) w_223 rfl rfl rfl rfl (Nat.le_of_ble_eq_true rfl) rfl rfl ?_
  refine g_aload_n (z := 22) C dX11_init_21 0 rfl rfl rfl ?_
  refine g_bipush (v := 48) (z := 24) C dX11_init_22 (by decide) rfl ?_
  refine g_newZD (N := 48) (a2 := 3) (b2 := 2106) (z := 26) C hR dX11_init_24 w_224 (by decide) (by decide) (Nat.le_of_ble_eq_true rfl) rfl rfl (Nat.le_of_ble_eq_true rfl) (Nat.le_of_ble_eq_true rfl) rfl (fun q3 => ?_)
  refine g_put (w2 := [(h0, .inr (5, [.null, .null, .null, .null, .int 0, .int 0, .ref q1, .int 0, .ref q2, .ref q3, .int 0, .long 0, .null, .int 0, .null, .long 0, .null, .null, .int 0, .int 0, .int 0, .int 0]))]) (z := 29) C kX11 dX11_init_26 0 rfl 9 (by decide) w_225 rfl rfl rfl rfl (Nat.le_of_ble_eq_true rfl) rfl rfl ?_
  refine g_aload_n (z := 30) C dX11_init_29 0 rfl rfl rfl ?_
  refine g_sipush (v := 1504) (z := 33) C dX11_init_30 (by decide) rfl ?_
  refine g_newJD (N := 1504) (a2 := 4) (b2 := 3610) (z := 35) C hR dX11_init_33 w_8 (by decide) (by decide) (Nat.le_of_ble_eq_true rfl) rfl rfl (Nat.le_of_ble_eq_true rfl) (Nat.le_of_ble_eq_true rfl) rfl (fun q4 => ?_)
  refine g_putF (w2 := [(h0, .inr (5, [.null, .null, .null, .null, .int 0, .int 0, .ref q1, .int 0, .ref q2, .ref q3, .int 0, .long 0, .ref q4, .int 0, .null, .long 0, .null, .null, .int 0, .int 0, .int 0, .int 0]))]) (z := 38) C kX11 dX11_init_35 0 rfl 12 (by decide) w_226 rfl rfl hnm rfl rfl rfl (Nat.le_of_ble_eq_true rfl) rfl rfl ?_
  refine g_aload_n (z := 39) C dX11_init_38 0 rfl rfl rfl ?_
  refine g_sipush (v := 400) (z := 42) C dX11_init_39 (by decide) rfl ?_
  refine g_newJD (N := 400) (a2 := 5) (b2 := 4010) (z := 44) C hR dX11_init_42 w_8 (by decide) (by decide) (Nat.le_of_ble_eq_true rfl) rfl rfl (Nat.le_of_ble_eq_true rfl) (Nat.le_of_ble_eq_true rfl) rfl (fun q5 => ?_)
  refine g_putF (w2 := [(h0, .inr (5, [.null, .null, .null, .null, .int 0, .int 0, .ref q1, .int 0, .ref q2, .ref q3, .int 0, .long 0, .ref q4, .int 0, .ref q5, .long 0, .null, .null, .int 0, .int 0, .int 0, .int 0]))]) (z := 47) C kX11 dX11_init_44 0 rfl 14 (by decide) w_227 rfl rfl hnm rfl rfl rfl (Nat.le_of_ble_eq_true rfl) rfl rfl ?_
  refine g_aload_n (z := 48) C dX11_init_47 0 rfl rfl rfl ?_
  refine g_sipush (v := 3072) (z := 51) C dX11_init_48 (by decide) rfl ?_
  refine g_newJD (N := 3072) (a2 := 6) (b2 := 7082) (z := 53) C hR dX11_init_51 w_8 (by decide) (by decide) (Nat.le_of_ble_eq_true rfl) rfl rfl (Nat.le_of_ble_eq_true rfl) (Nat.le_of_ble_eq_true rfl) rfl (fun q6 => ?_)
  refine g_putF (w2 := [(h0, .inr (5, [.null, .null, .null, .null, .int 0, .int 0, .ref q1, .int 0, .ref q2, .ref q3, .int 0, .long 0, .ref q4, .int 0, .ref q5, .long 0, .ref q6, .null, .int 0, .int 0, .int 0, .int 0]))]) (z := 56) C kX11 dX11_init_53 0 rfl 16 (by decide) w_228 rfl rfl hnm rfl rfl rfl (Nat.le_of_ble_eq_true rfl) rfl rfl ?_
  refine g_aload_n (z := 57) C dX11_init_56 0 rfl rfl rfl ?_
  refine g_sipush (v := 3072) (z := 60) C dX11_init_57 (by decide) rfl ?_
  refine g_newZD (N := 3072) (a2 := 7) (b2 := 10154) (z := 62) C hR dX11_init_60 w_224 (by decide) (by decide) (Nat.le_of_ble_eq_true rfl) rfl rfl (Nat.le_of_ble_eq_true rfl) (Nat.le_of_ble_eq_true rfl) rfl (fun q7 => ?_)
  refine g_putF (w2 := [(h0, .inr (5, [.null, .null, .null, .null, .int 0, .int 0, .ref q1, .int 0, .ref q2, .ref q3, .int 0, .long 0, .ref q4, .int 0, .ref q5, .long 0, .ref q6, .ref q7, .int 0, .int 0, .int 0, .int 0]))]) (z := 65) C kX11 dX11_init_62 0 rfl 17 (by decide) w_229 rfl rfl hnm rfl rfl rfl (Nat.le_of_ble_eq_true rfl) rfl rfl ?_
  exact g_vret C hQ dX11_init_65 (Nat.le_of_ble_eq_true rfl) (Nat.le_of_ble_eq_true rfl) rfl
set_option maxHeartbeats 4000000 in
set_option maxRecDepth 100000 in
/-- Store(): dead -/
theorem k_X7_init (l : Launch) (D : va_G) (K : KS) (h0 : Nat) : Con l D K yX7_init cX7_init 1 none 1 12 8 30992 [.ref h0] [(h0, .inr (7, [.null, .null, .int 0, .null, .int 0, .int 0, .null, .null, .int 0, .int 0, .null, .null, .int 0, .int 0, .int 0, .int 0, .int 0, .null, .null]))] (fun v _ => v = none) := by
  refine Con.of (by decide +kernel) (Nat.le_of_ble_eq_true rfl) ?_
  intro X hXl hXD hXK C hR hQ hnm
  subst hXl; subst hXD; subst hXK
  refine g_lv (l2 := [(0, .ref h0)]) [0] rfl ?_
  refine g_aload_n (z := 1) C dX7_init_0 0 rfl rfl rfl ?_
  refine g_objInit (z := 4) C hR dX7_init_1 w_242 w_0 w_1 (Nat.le_of_ble_eq_true rfl) (Nat.le_of_ble_eq_true rfl) rfl ?_
  refine g_aload_n (z := 5) C dX7_init_4 0 rfl rfl rfl ?_
  refine g_sipush (v := 19456) (z := 8) C dX7_init_5 (by decide) rfl ?_
  refine g_newJD (N := 19456) (a2 := 1) (b2 := 19456) (z := 10) C hR dX7_init_8 w_8 (by decide) (by decide) (Nat.le_of_ble_eq_true rfl) rfl rfl (Nat.le_of_ble_eq_true rfl) (Nat.le_of_ble_eq_true rfl) rfl (fun q1 => ?_)
  refine g_put (w2 := [(h0, .inr (7, [.null, .ref q1, .int 0, .null, .int 0, .int 0, .null, .null, .int 0, .int 0, .null, .null, .int 0, .int 0, .int 0, .int 0, .int 0, .null, .null]))]) (z := 13) C kX7 dX7_init_10 0 rfl 1 (by decide) w_243 rfl rfl rfl rfl (Nat.le_of_ble_eq_true rfl) rfl rfl ?_
  refine g_aload_n (z := 14) C dX7_init_13 0 rfl rfl rfl ?_
  refine g_sipush (v := 200) (z := 17) C dX7_init_14 (by decide) rfl ?_
  refine g_newZD (N := 200) (a2 := 2) (b2 := 19656) (z := 19) C hR dX7_init_17 w_224 (by decide) (by decide) (Nat.le_of_ble_eq_true rfl) rfl rfl (Nat.le_of_ble_eq_true rfl) (Nat.le_of_ble_eq_true rfl) rfl (fun q2 => ?_)
  refine g_putF (w2 := [(h0, .inr (7, [.null, .ref q1, .int 0, .ref q2, .int 0, .int 0, .null, .null, .int 0, .int 0, .null, .null, .int 0, .int 0, .int 0, .int 0, .int 0, .null, .null]))]) (z := 22) C kX7 dX7_init_19 0 rfl 3 (by decide) w_244 rfl rfl hnm rfl rfl rfl (Nat.le_of_ble_eq_true rfl) rfl rfl ?_
  refine g_aload_n (z := 23) C dX7_init_22 0 rfl rfl rfl ?_
  refine g_bipush (v := 60) (z := 25) C dX7_init_23 (by decide) rfl ?_
  refine g_newZD (N := 60) (a2 := 3) (b2 := 19716) (z := 27) C hR dX7_init_25 w_224 (by decide) (by decide) (Nat.le_of_ble_eq_true rfl) rfl rfl (Nat.le_of_ble_eq_true rfl) (Nat.le_of_ble_eq_true rfl) rfl (fun q3 => ?_)
  refine g_putF (w2 := [(h0, .inr (7, [.null, .ref q1, .int 0, .ref q2, .int 0, .int 0, .ref q3, .null, .int 0, .int 0, .null, .null, .int 0, .int 0, .int 0, .int 0, .int 0, .null, .null]))]) (z := 30) C kX7 dX7_init_27 0 rfl 6 (by decide) w_245 rfl rfl hnm rfl rfl rfl (Nat.le_of_ble_eq_true rfl) rfl rfl ?_
  refine g_aload_n (z := 31) C dX7_init_30 0 rfl rfl rfl ?_
  refine g_bipush (v := 60) (z := 33) C dX7_init_31 (by decide) rfl ?_
  refine g_newID (N := 60) (a2 := 4) (b2 := 19776) (z := 35) C hR dX7_init_33 w_109 (by decide) (by decide) (Nat.le_of_ble_eq_true rfl) rfl rfl (Nat.le_of_ble_eq_true rfl) (Nat.le_of_ble_eq_true rfl) rfl (fun q4 => ?_)
  refine g_putF (w2 := [(h0, .inr (7, [.null, .ref q1, .int 0, .ref q2, .int 0, .int 0, .ref q3, .ref q4, .int 0, .int 0, .null, .null, .int 0, .int 0, .int 0, .int 0, .int 0, .null, .null]))]) (z := 38) C kX7 dX7_init_35 0 rfl 7 (by decide) w_246 rfl rfl hnm rfl rfl rfl (Nat.le_of_ble_eq_true rfl) rfl rfl ?_
  refine g_aload_n (z := 39) C dX7_init_38 0 rfl rfl rfl ?_
  refine g_sipush (v := 1000) (z := 42) C dX7_init_39 (by decide) rfl ?_
  refine g_newID (N := 1000) (a2 := 5) (b2 := 20776) (z := 44) C hR dX7_init_42 w_109 (by decide) (by decide) (Nat.le_of_ble_eq_true rfl) rfl rfl (Nat.le_of_ble_eq_true rfl) (Nat.le_of_ble_eq_true rfl) rfl (fun q5 => ?_)
  refine g_putF (w2 := [(h0, .inr (7, [.null, .ref q1, .int 0, .ref q2, .int 0, .int 0, .ref q3, .ref q4, .int 0, .int 0, .ref q5, .null, .int 0, .int 0, .int 0, .int 0, .int 0, .null, .null]))]) (z := 47) C kX7 dX7_init_44 0 rfl 10 (by decide) w_247 rfl rfl hnm rfl rfl rfl (Nat.le_of_ble_eq_true rfl) rfl rfl ?_
  refine g_aload_n (z := 48) C dX7_init_47 0 rfl rfl rfl ?_
  refine g_sipush (v := 1000) (z := 51) C dX7_init_48 (by decide) rfl ?_
  refine g_newJD (N := 1000) (a2 := 6) (b2 := 21776) (z := 53) C hR dX7_init_51 w_8 (by decide) (by decide) (Nat.le_of_ble_eq_true rfl) rfl rfl (Nat.le_of_ble_eq_true rfl) (Nat.le_of_ble_eq_true rfl) rfl (fun q6 => ?_)
  refine g_putF (w2 := [(h0, .inr (7, [.null, .ref q1, .int 0, .ref q2, .int 0, .int 0, .ref q3, .ref q4, .int 0, .int 0, .ref q5, .ref q6, .int 0, .int 0, .int 0, .int 0, .int 0, .null, .null]))]) (z := 56) C kX7 dX7_init_53 0 rfl 11 (by decide) w_248 rfl rfl hnm rfl rfl rfl (Nat.le_of_ble_eq_true rfl) rfl rfl ?_
  refine g_aload_n (z := 57) C dX7_init_56 0 rfl rfl rfl ?_
  refine g_sipush (v := 4608) (z := 60) C dX7_init_57 (by decide) rfl ?_
  refine g_newID (N := 4608) (a2 := 7) (b2 := 26384) (z := 62) C hR dX7_init_60 w_109 (by decide) (by decide) (Nat.le_of_ble_eq_true rfl) rfl rfl (Nat.le_of_ble_eq_true rfl) (Nat.le_of_ble_eq_true rfl) rfl (fun q7 => ?_)
  refine g_putF (w2 := [(h0, .inr (7, [.null, .ref q1, .int 0, .ref q2, .int 0, .int 0, .ref q3, .ref q4, .int 0, .int 0, .ref q5, .ref q6, .int 0, .int 0, .int 0, .int 0, .int 0, .ref q7, .null]))]) (z := 65) C kX7 dX7_init_62 0 rfl 17 (by decide) w_249 rfl rfl hnm rfl rfl rfl (Nat.le_of_ble_eq_true rfl) rfl rfl ?_
  refine g_aload_n (z := 66) C dX7_init_65 0 rfl rfl rfl ?_
  refine g_sipush (v := 4608) (z := 69) C dX7_init_66 (by decide) rfl ?_
  refine g_newID (N := 4608) (a2 := 8) (b2 := 30992) (z := 71) C hR dX7_init_69 w_109 (by decide) (by decide) (Nat.le_of_ble_eq_true rfl) rfl rfl (Nat.le_of_ble_eq_true rfl) (Nat.le_of_ble_eq_true rfl) rfl (fun q8 => ?_)
  refine g_putF (w2 := [(h0, .inr (7, [.null, .ref q1, .int 0, .ref q2, .int 0, .int 0, .ref q3, .ref q4, .int 0, .int 0, .ref q5, .ref q6, .int 0, .int 0, .int 0, .int 0, .int 0, .ref q7, .ref q8]))]) (z := 74) C kX7 dX7_init_71 0 rfl 18 (by decide) w_250 rfl rfl hnm rfl rfl rfl (Nat.le_of_ble_eq_true rfl) rfl rfl ?_
  exact g_vret C hQ dX7_init_74 (Nat.le_of_ble_eq_true rfl) (Nat.le_of_ble_eq_true rfl) rfl
set_option maxHeartbeats 4000000 in
set_option maxRecDepth 100000 in
/-- Checker(tree), Emitter(tree) -/
theorem k_X0_init (l : Launch) (D : va_G) (K : KS) (h0 h1 : Nat) : Con l D K yX0_init cX0_init 2 none 1 12 0 0 [.ref h0, .ref h1] [(h0, .inr (3, [.null, .null, .null, .null, .null, .int 0, .int 0, .int 0, .int 0, .int 0, .int 0]))] (fun v w => v = none ∧ w = [(h0, .inr (3, [.ref h1, .null, .null, .null, .null, .int 0, .int 0, .int 0, .int 0, .int 0, .int 0]))]) := by
  refine Con.of (by decide +kernel) (Nat.le_of_ble_eq_true rfl) ?_
  intro X hXl hXD hXK C hR hQ hnm
  subst hXl; subst hXD; subst hXK
  refine g_lv (l2 := [(0, .ref h0), (1, .ref h1)]) [0, 1] rfl ?_
  refine g_aload_n (z := 1) C dX0_init_0 0 rfl rfl rfl ?_
  refine g_objInit (z := 4) C hR dX0_init_1 w_184 w_0 w_1 (Nat.le_of_ble_eq_true rfl) (Nat.le_of_ble_eq_true rfl) rfl ?_
  refine g_aload_n (z := 5) C dX0_init_4 0 rfl rfl rfl ?_
  refine g_aload_n (z := 6) C dX0_init_5 1 rfl rfl rfl ?_
  refine g_putF (w2 := [(h0, .inr (3, [.ref h1, .null, .null, .null, .null, .int 0, .int 0, .int 0, .int 0, .int 0, .int 0]))]) (z := 9) C kX0 dX0_init_6 0 rfl 0 (by decide) w_185 rfl rfl hnm rfl rfl rfl (Nat.le_of_ble_eq_true rfl) rfl rfl ?_
  exact g_vret C hQ dX0_init_9 (Nat.le_of_ble_eq_true rfl) (Nat.le_of_ble_eq_true rfl) ⟨rfl, rfl⟩
set_option maxHeartbeats 4000000 in
set_option maxRecDepth 100000 in
/-- Checker(tree), Emitter(tree) -/
theorem k_X1_init (l : Launch) (D : va_G) (K : KS) (h0 h1 : Nat) : Con l D K yX1_init cX1_init 2 none 1 12 0 0 [.ref h0, .ref h1] [(h0, .inr (4, [.null, .null, .null, .null, .null, .null, .int 0, .int 0, .int 0, .int 0]))] (fun v w => v = none ∧ w = [(h0, .inr (4, [.ref h1, .null, .null, .null, .null, .null, .int 0, .int 0, .int 0, .int 0]))]) := by
  refine Con.of (by decide +kernel) (Nat.le_of_ble_eq_true rfl) ?_
  intro X hXl hXD hXK C hR hQ hnm
  subst hXl; subst hXD; subst hXK
  refine g_lv (l2 := [(0, .ref h0), (1, .ref h1)]) [0, 1] rfl ?_
  refine g_aload_n (z := 1) C dX1_init_0 0 rfl rfl rfl ?_
  refine g_objInit (z := 4) C hR dX1_init_1 w_217 w_0 w_1 (Nat.le_of_ble_eq_true rfl) (Nat.le_of_ble_eq_true rfl) rfl ?_
  refine g_aload_n (z := 5) C dX1_init_4 0 rfl rfl rfl ?_
  refine g_aload_n (z := 6) C dX1_init_5 1 rfl rfl rfl ?_
  refine g_putF (w2 := [(h0, .inr (4, [.ref h1, .null, .null, .null, .null, .null, .int 0, .int 0, .int 0, .int 0]))]) (z := 9) C kX1 dX1_init_6 0 rfl 0 (by decide) w_218 rfl rfl hnm rfl rfl rfl (Nat.le_of_ble_eq_true rfl) rfl rfl ?_
  exact g_vret C hQ dX1_init_9 (Nat.le_of_ble_eq_true rfl) (Nat.le_of_ble_eq_true rfl) ⟨rfl, rfl⟩

theorem dX5_init_0 : decode cX5_init 0 = .ok (.aload_n 0, 1) := by decide +kernel
theorem dX5_init_1 : decode cX5_init 1 = .ok (.invokespecial 3, 3) := by decide +kernel
theorem dX5_init_4 : decode cX5_init 4 = .ok (.aload_n 0, 1) := by decide +kernel
theorem dX5_init_5 : decode cX5_init 5 = .ok (.new 9, 3) := by decide +kernel
theorem dX5_init_8 : decode cX5_init 8 = .ok (.dup, 1) := by decide +kernel
theorem dX5_init_9 : decode cX5_init 9 = .ok (.invokespecial 11, 3) := by decide +kernel
theorem dX5_init_12 : decode cX5_init 12 = .ok (.putfield 12, 3) := by decide +kernel
theorem dX5_init_15 : decode cX5_init 15 = .ok (.aload_n 0, 1) := by decide +kernel
theorem dX5_init_16 : decode cX5_init 16 = .ok (.new 18, 3) := by decide +kernel
theorem dX5_init_19 : decode cX5_init 19 = .ok (.dup, 1) := by decide +kernel
theorem dX5_init_20 : decode cX5_init 20 = .ok (.invokespecial 20, 3) := by decide +kernel
theorem dX5_init_23 : decode cX5_init 23 = .ok (.putfield 21, 3) := by decide +kernel
theorem dX5_init_26 : decode cX5_init 26 = .ok (.aload_n 0, 1) := by decide +kernel
theorem dX5_init_27 : decode cX5_init 27 = .ok (.new 25, 3) := by decide +kernel
theorem dX5_init_30 : decode cX5_init 30 = .ok (.dup, 1) := by decide +kernel
theorem dX5_init_31 : decode cX5_init 31 = .ok (.invokespecial 27, 3) := by decide +kernel
theorem dX5_init_34 : decode cX5_init 34 = .ok (.putfield 28, 3) := by decide +kernel
theorem dX5_init_37 : decode cX5_init 37 = .ok (.aload_n 0, 1) := by decide +kernel
theorem dX5_init_38 : decode cX5_init 38 = .ok (.new 32, 3) := by decide +kernel
theorem dX5_init_41 : decode cX5_init 41 = .ok (.dup, 1) := by decide +kernel
theorem dX5_init_42 : decode cX5_init 42 = .ok (.invokespecial 34, 3) := by decide +kernel
theorem dX5_init_45 : decode cX5_init 45 = .ok (.putfield 35, 3) := by decide +kernel
theorem dX5_init_48 : decode cX5_init 48 = .ok (.aload_n 0, 1) := by decide +kernel
theorem dX5_init_49 : decode cX5_init 49 = .ok (.sipush 3072, 3) := by decide +kernel
theorem dX5_init_52 : decode cX5_init 52 = .ok (.newarray .int, 2) := by decide +kernel
theorem dX5_init_54 : decode cX5_init 54 = .ok (.putfield 39, 3) := by decide +kernel
theorem dX5_init_57 : decode cX5_init 57 = .ok (.aload_n 0, 1) := by decide +kernel
theorem dX5_init_58 : decode cX5_init 58 = .ok (.sipush 3072, 3) := by decide +kernel
theorem dX5_init_61 : decode cX5_init 61 = .ok (.newarray .int, 2) := by decide +kernel
theorem dX5_init_63 : decode cX5_init 63 = .ok (.putfield 43, 3) := by decide +kernel
theorem dX5_init_66 : decode cX5_init 66 = .ok (.aload_n 0, 1) := by decide +kernel
theorem dX5_init_67 : decode cX5_init 67 = .ok (.sipush 3072, 3) := by decide +kernel
theorem dX5_init_70 : decode cX5_init 70 = .ok (.newarray .int, 2) := by decide +kernel
theorem dX5_init_72 : decode cX5_init 72 = .ok (.putfield 46, 3) := by decide +kernel
theorem dX5_init_75 : decode cX5_init 75 = .ok (.aload_n 0, 1) := by decide +kernel
theorem dX5_init_76 : decode cX5_init 76 = .ok (.sipush 3072, 3) := by decide +kernel
theorem dX5_init_79 : decode cX5_init 79 = .ok (.newarray .int, 2) := by decide +kernel
theorem dX5_init_81 : decode cX5_init 81 = .ok (.putfield 49, 3) := by decide +kernel
theorem dX5_init_84 : decode cX5_init 84 = .ok (.aload_n 0, 1) := by decide +kernel
theorem dX5_init_85 : decode cX5_init 85 = .ok (.sipush 3072, 3) := by decide +kernel
theorem dX5_init_88 : decode cX5_init 88 = .ok (.newarray .int, 2) := by decide +kernel
theorem dX5_init_90 : decode cX5_init 90 = .ok (.putfield 52, 3) := by decide +kernel
theorem dX5_init_93 : decode cX5_init 93 = .ok (.aload_n 0, 1) := by decide +kernel
theorem dX5_init_94 : decode cX5_init 94 = .ok (.sipush 3072, 3) := by decide +kernel
theorem dX5_init_97 : decode cX5_init 97 = .ok (.newarray .int, 2) := by decide +kernel
theorem dX5_init_99 : decode cX5_init 99 = .ok (.putfield 55, 3) := by decide +kernel
theorem dX5_init_102 : decode cX5_init 102 = .ok (.aload_n 0, 1) := by decide +kernel
theorem dX5_init_103 : decode cX5_init 103 = .ok (.sipush 760, 3) := by decide +kernel
theorem dX5_init_106 : decode cX5_init 106 = .ok (.newarray .int, 2) := by decide +kernel
theorem dX5_init_108 : decode cX5_init 108 = .ok (.putfield 58, 3) := by decide +kernel
theorem dX5_init_111 : decode cX5_init 111 = .ok (.return_, 1) := by decide +kernel
theorem dX6_init_0 : decode cX6_init 0 = .ok (.aload_n 0, 1) := by decide +kernel
theorem dX6_init_1 : decode cX6_init 1 = .ok (.invokespecial 3, 3) := by decide +kernel
theorem dX6_init_4 : decode cX6_init 4 = .ok (.aload_n 0, 1) := by decide +kernel
theorem dX6_init_5 : decode cX6_init 5 = .ok (.ldc 9, 2) := by decide +kernel
theorem dX6_init_7 : decode cX6_init 7 = .ok (.invokevirtual 11, 3) := by decide +kernel
theorem dX6_init_10 : decode cX6_init 10 = .ok (.sipush 3000, 3) := by decide +kernel
theorem dX6_init_13 : decode cX6_init 13 = .ok (.iadd, 1) := by decide +kernel
theorem dX6_init_14 : decode cX6_init 14 = .ok (.newarray .byte, 2) := by decide +kernel
theorem dX6_init_16 : decode cX6_init 16 = .ok (.putfield 17, 3) := by decide +kernel
theorem dX6_init_19 : decode cX6_init 19 = .ok (.aload_n 0, 1) := by decide +kernel
theorem dX6_init_20 : decode cX6_init 20 = .ok (.sipush 1544, 3) := by decide +kernel
theorem dX6_init_23 : decode cX6_init 23 = .ok (.newarray .int, 2) := by decide +kernel
theorem dX6_init_25 : decode cX6_init 25 = .ok (.putfield 23, 3) := by decide +kernel
theorem dX6_init_28 : decode cX6_init 28 = .ok (.aload_n 0, 1) := by decide +kernel
theorem dX6_init_29 : decode cX6_init 29 = .ok (.sipush 1544, 3) := by decide +kernel
theorem dX6_init_32 : decode cX6_init 32 = .ok (.newarray .int, 2) := by decide +kernel
theorem dX6_init_34 : decode cX6_init 34 = .ok (.putfield 27, 3) := by decide +kernel
theorem dX6_init_37 : decode cX6_init 37 = .ok (.aload_n 0, 1) := by decide +kernel
theorem dX6_init_38 : decode cX6_init 38 = .ok (.sipush 1544, 3) := by decide +kernel
theorem dX6_init_41 : decode cX6_init 41 = .ok (.newarray .int, 2) := by decide +kernel
theorem dX6_init_43 : decode cX6_init 43 = .ok (.putfield 30, 3) := by decide +kernel
theorem dX6_init_46 : decode cX6_init 46 = .ok (.aload_n 0, 1) := by decide +kernel
theorem dX6_init_47 : decode cX6_init 47 = .ok (.sipush 256, 3) := by decide +kernel
theorem dX6_init_50 : decode cX6_init 50 = .ok (.newarray .int, 2) := by decide +kernel
theorem dX6_init_52 : decode cX6_init 52 = .ok (.putfield 33, 3) := by decide +kernel
theorem dX6_init_55 : decode cX6_init 55 = .ok (.aload_n 0, 1) := by decide +kernel
theorem dX6_init_56 : decode cX6_init 56 = .ok (.sipush 3001, 3) := by decide +kernel
theorem dX6_init_59 : decode cX6_init 59 = .ok (.newarray .int, 2) := by decide +kernel
theorem dX6_init_61 : decode cX6_init 61 = .ok (.putfield 36, 3) := by decide +kernel
theorem dX6_init_64 : decode cX6_init 64 = .ok (.aload_n 0, 1) := by decide +kernel
theorem dX6_init_65 : decode cX6_init 65 = .ok (.sipush 3001, 3) := by decide +kernel
theorem dX6_init_68 : decode cX6_init 68 = .ok (.newarray .int, 2) := by decide +kernel
theorem dX6_init_70 : decode cX6_init 70 = .ok (.putfield 39, 3) := by decide +kernel
theorem dX6_init_73 : decode cX6_init 73 = .ok (.aload_n 0, 1) := by decide +kernel
theorem dX6_init_74 : decode cX6_init 74 = .ok (.sipush 3001, 3) := by decide +kernel
theorem dX6_init_77 : decode cX6_init 77 = .ok (.newarray .long, 2) := by decide +kernel
theorem dX6_init_79 : decode cX6_init 79 = .ok (.putfield 42, 3) := by decide +kernel
theorem dX6_init_82 : decode cX6_init 82 = .ok (.aload_n 0, 1) := by decide +kernel
theorem dX6_init_83 : decode cX6_init 83 = .ok (.aload_n 1, 1) := by decide +kernel
theorem dX6_init_84 : decode cX6_init 84 = .ok (.putfield 46, 3) := by decide +kernel
theorem dX6_init_87 : decode cX6_init 87 = .ok (.iconst 0, 1) := by decide +kernel
theorem dX6_init_88 : decode cX6_init 88 = .ok (.istore_n 2, 1) := by decide +kernel
theorem dX6_init_89 : decode cX6_init 89 = .ok (.iload_n 2, 1) := by decide +kernel
theorem dX6_init_90 : decode cX6_init 90 = .ok (.ldc 9, 2) := by decide +kernel
theorem dX6_init_92 : decode cX6_init 92 = .ok (.invokevirtual 11, 3) := by decide +kernel
theorem dX6_init_95 : decode cX6_init 95 = .ok (.if_icmp .ge 22, 3) := by decide +kernel
theorem dX6_init_98 : decode cX6_init 98 = .ok (.aload_n 0, 1) := by decide +kernel
theorem dX6_init_99 : decode cX6_init 99 = .ok (.getfield 17, 3) := by decide +kernel
theorem dX6_init_102 : decode cX6_init 102 = .ok (.iload_n 2, 1) := by decide +kernel
theorem dX6_init_103 : decode cX6_init 103 = .ok (.ldc 9, 2) := by decide +kernel
theorem dX6_init_105 : decode cX6_init 105 = .ok (.iload_n 2, 1) := by decide +kernel
theorem dX6_init_106 : decode cX6_init 106 = .ok (.invokevirtual 50, 3) := by decide +kernel
theorem dX6_init_109 : decode cX6_init 109 = .ok (.i2b, 1) := by decide +kernel
theorem dX6_init_110 : decode cX6_init 110 = .ok (.bastore, 1) := by decide +kernel
theorem dX6_init_111 : decode cX6_init 111 = .ok (.iinc 2 1, 3) := by decide +kernel
theorem dX6_init_114 : decode cX6_init 114 = .ok (.goto (-25), 3) := by decide +kernel
theorem dX6_init_117 : decode cX6_init 117 = .ok (.return_, 1) := by decide +kernel
set_option maxHeartbeats 4000000 in
set_option maxRecDepth 100000 in
/-- Program() -/
theorem k_X5_init (l : Launch) (D : va_G) (K : KS) (h0 : Nat) : Con l D K yX5_init cX5_init 1 none 2 32 69 70906 [.ref h0] [(h0, .inr (8, [.null, .null, .null, .null, .null, .null, .null, .null, .null, .null, .int 0, .int 0, .int 0, .null, .int 0]))] (fun v w => v = none ∧ ∃ (q1 : Nat) (q17 : Nat) (q34 : Nat) (q45 : Nat) (q63 : Nat) (q64 : Nat) (q65 : Nat) (q66 : Nat) (q67 : Nat) (q68 : Nat) (q69 : Nat) (q2 : Nat) (q3 : Nat) (q4 : Nat) (q5 : Nat) (q6 : Nat) (q7 : Nat) (q8 : Nat) (q9 : Nat) (q10 : Nat) (q11 : Nat) (q12 : Nat) (q13 : Nat) (q14 : Nat) (q15 : Nat) (q16 : Nat) (q18 : Nat) (q19 : Nat) (q20 : Nat) (q21 : Nat) (q22 : Nat) (q23 : Nat) (q24 : Nat) (q25 : Nat) (q26 : Nat) (q27 : Nat) (q28 : Nat) (q29 : Nat) (q30 : Nat) (q31 : Nat) (q32 : Nat) (q33 : Nat) (q35 : Nat) (q36 : Nat) (q37 : Nat) (q38 : Nat) (q39 : Nat) (q40 : Nat) (q41 : Nat) (q42 : Nat) (q43 : Nat) (q44 : Nat) (q46 : Nat) (q47 : Nat) (q48 : Nat) (q49 : Nat) (q50 : Nat) (q51 : Nat) (q52 : Nat) (q53 : Nat) (q54 : Nat) (q55 : Nat) (q56 : Nat) (q57 : Nat) (q58 : Nat) (q59 : Nat) (q60 : Nat) (q61 : Nat) (q62 : Nat), w = [(h0, .inr (8, [.ref q1, .ref q17, .ref q34, .ref q45, .ref q63, .ref q64, .ref q65, .ref q66, .ref q67, .ref q68, .int 0, .int 0, .int 0, .ref q69, .int 0])), (q1, .inr (9, [.ref q2, .ref q3, .int 0, .ref q4, .ref q5, .ref q6, .ref q7, .ref q8, .ref q9, .ref q10, .int 0, .ref q11, .ref q12, .ref q13, .int 0, .ref q14, .ref q15, .ref q16, .int 0])), (q2, .inl (K 0, 1504, .inl (fun _ => 0))), (q17, .inr (10, [.ref q18, .ref q19, .ref q20, .ref q21, .ref q22, .ref q23, .ref q24, .int 0, .ref q25, .ref q26, .ref q27, .ref q28, .ref q29, .ref q30, .ref q31, .ref q32, .ref q33, .int 0, .int 0])), (q34, .inr (11, [.ref q35, .ref q36, .ref q37, .ref q38, .ref q39, .ref q40, .ref q41, .ref q42, .int 0, .ref q43, .ref q44, .int 0])), (q45, .inr (12, [.ref q46, .ref q47, .ref q48, .ref q49, .ref q50, .ref q51, .ref q52, .ref q53, .ref q54, .ref q55, .ref q56, .ref q57, .int 0, .ref q58, .ref q59, .ref q60, .int 0, .ref q61, .ref q62, .int 0]))]) := by
  refine Con.of (by decide +kernel) (Nat.le_of_ble_eq_true rfl) ?_
  intro X hXl hXD hXK C hR hQ hnm
  subst hXl; subst hXD; subst hXK
  refine g_lv (l2 := [(0, .ref h0)]) [0] rfl ?_
  refine g_aload_n (z := 1) C dX5_init_0 0 rfl rfl rfl ?_
  refine g_objInit (z := 4) C hR dX5_init_1 w_253 w_0 w_1 (Nat.le_of_ble_eq_true rfl) (Nat.le_of_ble_eq_true rfl) rfl ?_
  refine g_aload_n (z := 5) C dX5_init_4 0 rfl rfl rfl ?_
  refine g_new (fs := [.null, .null, .int 0, .null, .null, .null, .null, .null, .null, .null, .int 0, .null, .null, .null, .int 0, .null, .null, .null, .int 0]) (a2 := 1) (b2 := 19) (z := 8) C hR kX9 dX5_init_5 w_254 w_255 w_256 rfl rfl rfl (Nat.le_of_ble_eq_true rfl) (Nat.le_of_ble_eq_true rfl) rfl (fun q1 => ?_)
  refine g_ws (w2 := [(h0, .inr (8, [.null, .null, .null, .null, .null, .null, .null, .null, .null, .null, .int 0, .int 0, .int 0, .null, .int 0])), (q1, .inr (9, [.null, .null, .int 0, .null, .null, .null, .null, .null, .null, .null, .int 0, .null, .null, .null, .int 0, .null, .null, .null, .int 0]))]) rfl ?_
  refine g_dup (z := 9) C dX5_init_8 rfl rfl ?_
  refine g_callIN (n := 0) (As := []) (rest := [.ref q1, .ref h0]) (wr := [(h0, .inr (8, [.null, .null, .null, .null, .null, .null, .null, .null, .null, .null, .int 0, .int 0, .int 0, .null, .int 0]))]) (a2 := 16) (b2 := 14179) (z := 12) C hR (k_X9_init (gl X) (gD X) (gK X) q1) dX5_init_9 nw_63 w_285 rfl w_284 w_256 ⟨by decide +kernel, by decide +kernel, by decide +kernel⟩ [1] [0] rfl rfl rfl rfl rfl (by decide) ⟨(Nat.le_of_ble_eq_true rfl), (Nat.le_of_ble_eq_true rfl)⟩ rfl rfl (Nat.le_of_ble_eq_true rfl) (Nat.le_of_ble_eq_true rfl) (Nat.le_of_ble_eq_true rfl) rfl rfl rfl rfl (fun v ws' hp => ?_)
  obtain ⟨rfl, q2, q3, q4, q5, q6, q7, q8, q9, q10, q11, q12, q13, q14, q15, q16, rfl⟩ := hp
  refine g_ws (w2 := [(h0, .inr (8, [.null, .null, .null, .null, .null, .null, .null, .null, .null, .null, .int 0, .int 0, .int 0, .null, .int 0])), (q1, .inr (9, [.ref q2, .ref q3, .int 0, .ref q4, .ref q5, .ref q6, .ref q7, .ref q8, .ref q9, .ref q10, .int 0, .ref q11, .ref q12, .ref q13, .int 0, .ref q14, .ref q15, .ref q16, .int 0])), (q2, .inl (gK X 0, 1504, .inl (fun _ => 0)))]) rfl ?_
  refine g_st (s2 := [.ref q1, .ref h0]) rfl ?_
  refine g_putF (w2 := [(h0, .inr (8, [.ref q1, .null, .null, .null, .null, .null, .null, .null, .null, .null, .int 0, .int 0, .int 0, .null, .int 0])), (q1, .inr (9, [.ref q2, .ref q3, .int 0, .ref q4, .ref q5, .ref q6, .ref q7, .ref q8, .ref q9, .ref q10, .int 0, .ref q11, .ref q12, .ref q13, .int 0, .ref q14, .ref q15, .ref q16, .int 0])), (q2, .inl (gK X 0, 1504, .inl (fun _ => 0)))]) (z := 15) C kX5 dX5_init_12 0 rfl 0 (by decide) w_257 rfl rfl hnm rfl rfl rfl (Nat.le_of_ble_eq_true rfl) rfl rfl ?_
  refine g_aload_n (z := 16) C dX5_init_15 0 rfl rfl rfl ?_
  refine g_new (fs := [.null, .null, .null, .null, .null, .null, .null, .int 0, .null, .null, .null, .null, .null, .null, .null, .null, .null, .int 0, .int 0]) (a2 := 17) (b2 := 14198) (z := 19) C hR kX2 dX5_init_16 w_258 w_259 w_260 rfl rfl rfl (Nat.le_of_ble_eq_true rfl) (Nat.le_of_ble_eq_true rfl) rfl (fun q17 => ?_)
  refine g_ws (w2 := [(h0, .inr (8, [.ref q1, .null, .null, .null, .null, .null, .null, .null, .null, .null, .int 0, .int 0, .int 0, .null, .int 0])), (q1, .inr (9, [.ref q2, .ref q3, .int 0, .ref q4, .ref q5, .ref q6, .ref q7, .ref q8, .ref q9, .ref q10, .int 0, .ref q11, .ref q12, .ref q13, .int 0, .ref q14, .ref q15, .ref q16, .int 0])), (q2, .inl (gK X 0, 1504, .inl (fun _ => 0))), (q17, .inr (10, [.null, .null, .null, .null, .null, .null, .null, .int 0, .null, .null, .null, .null, .null, .null, .null, .null, .null, .int 0, .int 0]))]) rfl ?_
  refine g_dup (z := 20) C dX5_init_19 rfl rfl ?_
  refine g_callIN (n := 0) (As := []) (rest := [.ref q17, .ref h0]) (wr := [(h0, .inr (8, [.ref q1, .null, .null, .null, .null, .null, .null, .null, .null, .null, .int 0, .int 0, .int 0, .null, .int 0])), (q1, .inr (9, [.ref q2, .ref q3, .int 0, .ref q4, .ref q5, .ref q6, .ref q7, .ref q8, .ref q9, .ref q10, .int 0, .ref q11, .ref q12, .ref q13, .int 0, .ref q14, .ref q15, .ref q16, .int 0])), (q2, .inl (gK X 0, 1504, .inl (fun _ => 0)))]) (a2 := 33) (b2 := 21402) (z := 23) C hR (k_X2_init (gl X) (gD X) (gK X) q17) dX5_init_20 nw_64 w_313 rfl w_312 w_260 ⟨by decide +kernel, by decide +kernel, by decide +kernel⟩ [3] [0, 1, 2] rfl rfl rfl rfl rfl (by decide) ⟨(Nat.le_of_ble_eq_true rfl), (Nat.le_of_ble_eq_true rfl)⟩ rfl rfl (Nat.le_of_ble_eq_true rfl) (Nat.le_of_ble_eq_true rfl) (Nat.le_of_ble_eq_true rfl) rfl rfl rfl rfl (fun v ws' hp => ?_)
  obtain ⟨rfl, q18, q19, q20, q21, q22, q23, q24, q25, q26, q27, q28, q29, q30, q31, q32, q33, rfl⟩ := hp
  refine g_ws (w2 := [(h0, .inr (8, [.ref q1, .null, .null, .null, .null, .null, .null, .null, .null, .null, .int 0, .int 0, .int 0, .null, .int 0])), (q1, .inr (9, [.ref q2, .ref q3, .int 0, .ref q4, .ref q5, .ref q6, .ref q7, .ref q8, .ref q9, .ref q10, .int 0, .ref q11, .ref q12, .ref q13, .int 0, .ref q14, .ref q15, .ref q16, .int 0])), (q2, .inl (gK X 0, 1504, .inl (fun _ => 0))), (q17, .inr (10, [.ref q18, .ref q19, .ref q20, .ref q21, .ref q22, .ref q23, .ref q24, .int 0, .ref q25, .ref q26, .ref q27, .ref q28, .ref q29, .ref q30, .ref q31, .ref q32, .ref q33, .int 0, .int 0]))]) rfl ?_
  refine g_st (s2 := [.ref q17, .ref h0]) rfl ?_
  refine g_putF (w2 := [(h0, .inr (8, [.ref q1, .ref q17, .null, .null, .null, .null, .null, .null, .null, .null, .int 0, .int 0, .int 0, .null, .int 0])), (q1, .inr (9, [.ref q2, .ref q3, .int 0, .ref q4, .ref q5, .ref q6, .ref q7, .ref q8, .ref q9, .ref q10, .int 0, .ref q11, .ref q12, .ref q13, .int 0, .ref q14, .ref q15, .ref q16, .int 0])), (q2, .inl (gK X 0, 1504, .inl (fun _ => 0))), (q17, .inr (10, [.ref q18, .ref q19, .ref q20, .ref q21, .ref q22, .ref q23, .ref q24, .int 0, .ref q25, .ref q26, .ref q27, .ref q28, .ref q29, .ref q30, .ref q31, .ref q32, .ref q33, .int 0, .int 0]))]) (z := 26) C kX5 dX5_init_23 0 rfl 1 (by decide) w_261 rfl rfl hnm rfl rfl rfl (Nat.le_of_ble_eq_true rfl) rfl rfl ?_
  refine g_aload_n (z := 27) C dX5_init_26 0 rfl rfl rfl ?_
  refine g_new (fs := [.null, .null, .null, .null, .null, .null, .null, .null, .int 0, .null, .null, .int 0]) (a2 := 34) (b2 := 21414) (z := 30) C hR kX10 dX5_init_27 w_262 w_263 w_264 rfl rfl rfl (Nat.le_of_ble_eq_true rfl) (Nat.le_of_ble_eq_true rfl) rfl (fun q34 => ?_)
  refine g_ws (w2 := [(h0, .inr (8, [.ref q1, .ref q17, .null, .null, .null, .null, .null, .null, .null, .null, .int 0, .int 0, .int 0, .null, .int 0])), (q1, .inr (9, [.ref q2, .ref q3, .int 0, .ref q4, .ref q5, .ref q6, .ref q7, .ref q8, .ref q9, .ref q10, .int 0, .ref q11, .ref q12, .ref q13, .int 0, .ref q14, .ref q15, .ref q16, .int 0])), (q2, .inl (gK X 0, 1504, .inl (fun _ => 0))), (q17, .inr (10, [.ref q18, .ref q19, .ref q20, .ref q21, .ref q22, .ref q23, .ref q24, .int 0, .ref q25, .ref q26, .ref q27, .ref q28, .ref q29, .ref q30, .ref q31, .ref q32, .ref q33, .int 0, .int 0])), (q34, .inr (11, [.null, .null, .null, .null, .null, .null, .null, .null, .int 0, .null, .null, .int 0]))]) rfl ?_
  refine g_dup (z := 31) C dX5_init_30 rfl rfl ?_
  refine g_callIN (n := 0) (As := []) (rest := [.ref q34, .ref h0]) (wr := [(h0, .inr (8, [.ref q1, .ref q17, .null, .null, .null, .null, .null, .null, .null, .null, .int 0, .int 0, .int 0, .null, .int 0])), (q1, .inr (9, [.ref q2, .ref q3, .int 0, .ref q4, .ref q5, .ref q6, .ref q7, .ref q8, .ref q9, .ref q10, .int 0, .ref q11, .ref q12, .ref q13, .int 0, .ref q14, .ref q15, .ref q16, .int 0])), (q2, .inl (gK X 0, 1504, .inl (fun _ => 0))), (q17, .inr (10, [.ref q18, .ref q19, .ref q20, .ref q21, .ref q22, .ref q23, .ref q24, .int 0, .ref q25, .ref q26, .ref q27, .ref q28, .ref q29, .ref q30, .ref q31, .ref q32, .ref q33, .int 0, .int 0]))]) (a2 := 44) (b2 := 37046) (z := 34) C hR (k_X10_init (gl X) (gD X) (gK X) q34) dX5_init_31 nw_65 w_338 rfl w_337 w_264 ⟨by decide +kernel, by decide +kernel, by decide +kernel⟩ [4] [0, 1, 2, 3] rfl rfl rfl rfl rfl (by decide) ⟨(Nat.le_of_ble_eq_true rfl), (Nat.le_of_ble_eq_true rfl)⟩ rfl rfl (Nat.le_of_ble_eq_true rfl) (Nat.le_of_ble_eq_true rfl) (Nat.le_of_ble_eq_true rfl) rfl rfl rfl rfl (fun v ws' hp => ?_)
  obtain ⟨rfl, q35, q36, q37, q38, q39, q40, q41, q42, q43, q44, rfl⟩ := hp
  refine g_ws (w2 := [(h0, .inr (8, [.ref q1, .ref q17, .null, .null, .null, .null, .null, .null, .null, .null, .int 0, .int 0, .int 0, .null, .int 0])), (q1, .inr (9, [.ref q2, .ref q3, .int 0, .ref q4, .ref q5, .ref q6, .ref q7, .ref q8, .ref q9, .ref q10, .int 0, .ref q11, .ref q12, .ref q13, .int 0, .ref q14, .ref q15, .ref q16, .int 0])), (q2, .inl (gK X 0, 1504, .inl (fun _ => 0))), (q17, .inr (10, [.ref q18, .ref q19, .ref q20, .ref q21, .ref q22, .ref q23, .ref q24, .int 0, .ref q25, .ref q26, .ref q27, .ref q28, .ref q29, .ref q30, .ref q31, .ref q32, .ref q33, .int 0, .int 0])), (q34, .inr (11, [.ref q35, .ref q36, .ref q37, .ref q38, .ref q39, .ref q40, .ref q41, .ref q42, .int 0, .ref q43, .ref q44, .int 0]))]) rfl ?_
  refine g_st (s2 := [.ref q34, .ref h0]) rfl ?_
  refine g_putF (w2 := [(h0, .inr (8, [.ref q1, .ref q17, .ref q34, .null, .null, .null, .null, .null, .null, .null, .int 0, .int 0, .int 0, .null, .int 0])), (q1, .inr (9, [.ref q2, .ref q3, .int 0, .ref q4, .ref q5, .ref q6, .ref q7, .ref q8, .ref q9, .ref q10, .int 0, .ref q11, .ref q12, .ref q13, .int 0, .ref q14, .ref q15, .ref q16, .int 0])), (q2, .inl (gK X 0, 1504, .inl (fun _ => 0))), (q17, .inr (10, [.ref q18, .ref q19, .ref q20, .ref q21, .ref q22, .ref q23, .ref q24, .int 0, .ref q25, .ref q26, .ref q27, .ref q28, .ref q29, .ref q30, .ref q31, .ref q32, .ref q33, .int 0, .int 0])), (q34, .inr (11, [.ref q35, .ref q36, .ref q37, .ref q38, .ref q39, .ref q40, .ref q41, .ref q42, .int 0, .ref q43, .ref q44, .int 0]))]) (z := 37) C kX5 dX5_init_34 0 rfl 2 (by decide) w_265 rfl rfl hnm rfl rfl rfl (Nat.le_of_ble_eq_true rfl) rfl rfl ?_
  refine g_aload_n (z := 38) C dX5_init_37 0 rfl rfl rfl ?_
  refine g_new (fs := [.null, .null, .null, .null, .null, .null, .null, .null, .null, .null, .null, .null, .int 0, .null, .null, .null, .int 0, .null, .null, .int 0]) (a2 := 45) (b2 := 37066) (z := 41) C hR kX4 dX5_init_38 w_266 w_267 w_268 rfl rfl rfl (Nat.le_of_ble_eq_true rfl) (Nat.le_of_ble_eq_true rfl) rfl (fun q45 => ?_)
  refine g_ws (w2 := [(h0, .inr (8, [.ref q1, .ref q17, .ref q34, .null, .null, .null, .null, .null, .null, .null, .int 0, .int 0, .int 0, .null, .int 0])), (q1, .inr (9, [.ref q2, .ref q3, .int 0, .ref q4, .ref q5, .ref q6, .ref q7, .ref q8, .ref q9, .ref q10, .int 0, .ref q11, .ref q12, .ref q13, .int 0, .ref q14, .ref q15, .ref q16, .int 0])), (q2, .inl (gK X 0, 1504, .inl (fun _ => 0))), (q17, .inr (10, [.ref q18, .ref q19, .ref q20, .ref q21, .ref q22, .ref q23, .ref q24, .int 0, .ref q25, .ref q26, .ref q27, .ref q28, .ref q29, .ref q30, .ref q31, .ref q32, .ref q33, .int 0, .int 0])), (q34, .inr (11, [.ref q35, .ref q36, .ref q37, .ref q38, .ref q39, .ref q40, .ref q41, .ref q42, .int 0, .ref q43, .ref q44, .int 0])), (q45, .inr (12, [.null, .null, .null, .null, .null, .null, .null, .null, .null, .null, .null, .null, .int 0, .null, .null, .null, .int 0, .null, .null, .int 0]))]) rfl ?_
  refine g_dup (z := 42) C dX5_init_41 rfl rfl ?_
  refine g_callIN (n := 0) (As := []) (rest := [.ref q45, .ref h0]) (wr := [(h0, .inr (8, [.ref q1, .ref q17, .ref q34, .null, .null, .null, .null, .null, .null, .null, .int 0, .int 0, .int 0, .null, .int 0])), (q1, .inr (9, [.ref q2, .ref q3, .int 0, .ref q4, .ref q5, .ref q6, .ref q7, .ref q8, .ref q9, .ref q10, .int 0, .ref q11, .ref q12, .ref q13, .int 0, .ref q14, .ref q15, .ref q16, .int 0])), (q2, .inl (gK X 0, 1504, .inl (fun _ => 0))), (q17, .inr (10, [.ref q18, .ref q19, .ref q20, .ref q21, .ref q22, .ref q23, .ref q24, .int 0, .ref q25, .ref q26, .ref q27, .ref q28, .ref q29, .ref q30, .ref q31, .ref q32, .ref q33, .int 0, .int 0])), (q34, .inr (11, [.ref q35, .ref q36, .ref q37, .ref q38, .ref q39, .ref q40, .ref q41, .ref q42, .int 0, .ref q43, .ref q44, .int 0]))]) (a2 := 62) (b2 := 51714) (z := 45) C hR (k_X4_init (gl X) (gD X) (gK X) q45) dX5_init_42 nw_66 w_356 rfl w_355 w_268 ⟨by decide +kernel, by decide +kernel, by decide +kernel⟩ [5] [0, 1, 2, 3, 4] rfl rfl rfl rfl rfl (by decide) ⟨(Nat.le_of_ble_eq_true rfl), (Nat.le_of_ble_eq_true rfl)⟩ rfl rfl (Nat.le_of_ble_eq_true rfl) (Nat.le_of_ble_eq_true rfl) (Nat.le_of_ble_eq_true rfl) rfl rfl rfl rfl (fun v ws' hp => ?_)
  obtain ⟨rfl, q46, q47, q48, q49, q50, q51, q52, q53, q54, q55, q56, q57, q58, q59, q60, q61, q62, rfl⟩ := hp
  refine g_ws (w2 := [(h0, .inr (8, [.ref q1, .ref q17, .ref q34, .null, .null, .null, .null, .null, .null, .null, .int 0, .int 0, .int 0, .null, .int 0])), (q1, .inr (9, [.ref q2, .ref q3, .int 0, .ref q4, .ref q5, .ref q6, .ref q7, .ref q8, .ref q9, .ref q10, .int 0, .ref q11, .ref q12, .ref q13, .int 0, .ref q14, .ref q15, .ref q16, .int 0])), (q2, .inl (gK X 0, 1504, .inl (fun _ => 0))), (q17, .inr (10, [.ref q18, .ref q19, .ref q20, .ref q21, .ref q22, .ref q23, .ref q24, .int 0, .ref q25, .ref q26, .ref q27, .ref q28, .ref q29, .ref q30, .ref q31, .ref q32, .ref q33, .int 0, .int 0])), (q34, .inr (11, [.ref q35, .ref q36, .ref q37, .ref q38, .ref q39, .ref q40, .ref q41, .ref q42, .int 0, .ref q43, .ref q44, .int 0])), (q45, .inr (12, [.ref q46, .ref q47, .ref q48, .ref q49, .ref q50, .ref q51, .ref q52, .ref q53, .ref q54, .ref q55, .ref q56, .ref q57, .int 0, .ref q58, .ref q59, .ref q60, .int 0, .ref q61, .ref q62, .int 0]))]) rfl ?_
  refine g_st (s2 := [.ref q45, .ref h0]) rfl ?_
  refine g_putF (w2 := [(h0, .inr (8, [.ref q1, .ref q17, .ref q34, .ref q45, .null, .null, .null, .null, .null, .null, .int 0, .int 0, .int 0, .null, .int 0])), (q1, .inr (9, [.ref q2, .ref q3, .int 0, .ref q4, .ref q5, .ref q6, .ref q7, .ref q8, .ref q9, .ref q10, .int 0, .ref q11, .ref q12, .ref q13, .int 0, .ref q14, .ref q15, .ref q16, .int 0])), (q2, .inl (gK X 0, 1504, .inl (fun _ => 0))), (q17, .inr (10, [.ref q18, .ref q19, .ref q20, .ref q21, .ref q22, .ref q23, .ref q24, .int 0, .ref q25, .ref q26, .ref q27, .ref q28, .ref q29, .ref q30, .ref q31, .ref q32, .ref q33, .int 0, .int 0])), (q34, .inr (11, [.ref q35, .ref q36, .ref q37, .ref q38, .ref q39, .ref q40, .ref q41, .ref q42, .int 0, .ref q43, .ref q44, .int 0])), (q45, .inr (12, [.ref q46, .ref q47, .ref q48, .ref q49, .ref q50, .ref q51, .ref q52, .ref q53, .ref q54, .ref q55, .ref q56, .ref q57, .int 0, .ref q58, .ref q59, .ref q60, .int 0, .ref q61, .ref q62, .int 0]))]) (z := 48) C kX5 dX5_init_45 0 rfl 3 (by decide) w_269 rfl rfl hnm rfl rfl rfl (Nat.le_of_ble_eq_true rfl) rfl rfl ?_
  refine g_aload_n (z := 49) C dX5_init_48 0 rfl rfl rfl ?_
  refine g_sipush (v := 3072) (z := 52) C dX5_init_49 (by decide) rfl ?_
  refine g_newID (N := 3072) (a2 := 63) (b2 := 54786) (z := 54) C hR dX5_init_52 w_109 (by decide) (by decide) (Nat.le_of_ble_eq_true rfl) rfl rfl (Nat.le_of_ble_eq_true rfl) (Nat.le_of_ble_eq_true rfl) rfl (fun q63 => ?_)
  refine g_putF (w2 := [(h0, .inr (8, [.ref q1, .ref q17, .ref q34, .ref q45, .ref q63, .null, .null, .null, .null, .null, .int 0, .int 0, .int 0, .null, .int 0])), (q1, .inr (9, [.ref q2, .ref q3, .int 0, .ref q4, .ref q5, .ref q6, .ref q7, .ref q8, .ref q9, .ref q10, .int 0, .ref q11, .ref q12, .ref q13, .int 0, .ref q14, .ref q15, .ref q16, .int 0])), (q2, .inl (gK X 0, 1504, .inl (fun _ => 0))), (q17, .inr (10, [.ref q18, .ref q19, .ref q20, .ref q21, .ref q22, .ref q23, .ref q24, .int 0, .ref q25, .ref q26, .ref q27, .ref q28, .ref q29, .ref q30, .ref q31, .ref q32, .ref q33, .int 0, .int 0])), (q34, .inr (11, [.ref q35, .ref q36, .ref q37, .ref q38, .ref q39, .ref q40, .ref q41, .ref q42, .int 0, .ref q43, .ref q44, .int 0])), (q45, .inr (12, [.ref q46, .ref q47, .ref q48, .ref q49, .ref q50, .ref q51, .ref q52, .ref q53, .ref q54, .ref q55, .ref q56, .ref q57, .int 0, .ref q58, .ref q59, .ref q60, .int 0, .ref q61, .ref q62, .int 0]))]) (z := 57) C kX5 dX5_init_54 0 rfl 4 (by decide) w_270 rfl rfl hnm rfl rfl rfl (Nat.le_of_ble_eq_true rfl) rfl rfl ?_
  refine g_aload_n (z := 58) C dX5_init_57 0 rfl rfl rfl ?_
  refine g_sipush (v := 3072) (z := 61) C dX5_init_58 (by decide) rfl ?_
  refine g_newID (N := 3072) (a2 := 64) (b2 := 57858) (z := 63) C hR dX5_init_61 w_109 (by decide) (by decide) (Nat.le_of_ble_eq_true rfl) rfl rfl (Nat.le_of_ble_eq_true rfl) (Nat.le_of_ble_eq_true rfl) rfl (fun q64 => ?_)
  refine g_putF (w2 := [(h0, .inr (8, [.ref q1, .ref q17, .ref q34, .ref q45, .ref q63, .ref q64, .null, .null, .null, .null, .int 0, .int 0, .int 0, .null, .int 0])), (q1, .inr (9, [.ref q2, .ref q3, .int 0, .ref q4, .ref q5, .ref q6, .ref q7, .ref q8, .ref q9, .ref q10, .int 0, .ref q11, .ref q12, .ref q13, .int 0, .ref q14, .ref q15, .ref q16, .int 0])), (q2, .inl (gK X 0, 1504, .inl (fun _ => 0))), (q17, .inr (10, [.ref q18, .ref q19, .ref q20, .ref q21, .ref q22, .ref q23, .ref q24, .int 0, .ref q25, .ref q26, .ref q27, .ref q28, .ref q29, .ref q30, .ref q31, .ref q32, .ref q33, .int 0, .int 0])), (q34, .inr (11, [.ref q35, .ref q36, .ref q37, .ref q38, .ref q39, .ref q40, .ref q41, .ref q42, .int 0, .ref q43, .ref q44, .int 0])), (q45, .inr (12, [.ref q46, .ref q47, .ref q48, .ref q49, .ref q50, .ref q51, .ref q52, .ref q53, .ref q54, .ref q55, .ref q56, .ref q57, .int 0, .ref q58, .ref q59, .ref q60, .int 0, .ref q61, .ref q62, .int 0]))]) (z := 66) C kX5 dX5_init_63 0 rfl 5 (by decide) w_271 rfl rfl hnm rfl rfl rfl (Nat.le_of_ble_eq_true rfl) rfl rfl ?_
  refine g_aload_n (z := 67) C dX5_init_66 0 rfl rfl rfl ?_
  refine g_sipush (v := 3072) (z := 70) C dX5_init_67 (by decide) rfl ?_
  refine g_newID (N := 3072) (a2 := 65) (b2 := 60930) (z := 72) C hR dX5_init_70 w_109 (by decide) (by decide) (Nat.le_of_ble_eq_true rfl) rfl rfl (Nat.le_of_ble_eq_true rfl) (Nat.le_of_ble_eq_true rfl) rfl (fun q65 => ?_)
  refine g_putF (w2 := [(h0, .inr (8, [.ref q1, .ref q17, .ref q34, .ref q45, .ref q63, .ref q64, .ref q65, .null, .null, .null, .int 0, .int 0, .int 0, .null, .int 0])), (q1, .inr (9, [.ref q2, .ref q3, .int 0, .ref q4, .ref q5, .ref q6, .ref q7, .ref q8, .ref q9, .ref q10, .int 0, .ref q11, .ref q12, .ref q13, .int 0, .ref q14, .ref q15, .ref q16, .int 0])), (q2, .inl (gK X 0, 1504, .inl (fun _ => 0))), (q17, .inr (10, [.ref q18, .ref q19, .ref q20, .ref q21, .ref q22, .ref q23, .ref q24, .int 0, .ref q25, .ref q26, .ref q27, .ref q28, .ref q29, .ref q30, .ref q31, .ref q32, .ref q33, .int 0, .int 0])), (q34, .inr (11, [.ref q35, .ref q36, .ref q37, .ref q38, .ref q39, .ref q40, .ref q41, .ref q42, .int 0, .ref q43, .ref q44, .int 0])), (q45, .inr (12, [.ref q46, .ref q47, .ref q48, .ref q49, .ref q50, .ref q51, .ref q52, .ref q53, .ref q54, .ref q55, .ref q56, .ref q57, .int 0, .ref q58, .ref q59, .ref q60, .int 0, .ref q61, .ref q62, .int 0]))]) (z := 75) C kX5 dX5_init_72 0 rfl 6 (by decide) w_272 rfl rfl hnm rfl rfl rfl (Nat.le_of_ble_eq_true rfl) rfl rfl ?_
  refine g_aload_n (z := 76) C dX5_init_75 0 rfl rfl rfl ?_
  refine g_sipush (v := 3072) (z := 79) C dX5_init_76 (by decide) rfl ?_
  refine g_newID (N := 3072) (a2 := 66) (b2 := 64002) (z := 81) C hR dX5_init_79 w_109 (by decide) (by decide) (Nat.le_of_ble_eq_true rfl) rfl rfl (Nat.le_of_ble_eq_true rfl) (Nat.le_of_ble_eq_true rfl) rfl (fun q66 => ?_)
  refine g_putF (w2 := [(h0, .inr (8, [.ref q1, .ref q17, .ref q34, .ref q45, .ref q63, .ref q64, .ref q65, .ref q66, .null, .null, .int 0, .int 0, .int 0, .null, .int 0])), (q1, .inr (9, [.ref q2, .ref q3, .int 0, .ref q4, .ref q5, .ref q6, .ref q7, .ref q8, .ref q9, .ref q10, .int 0, .ref q11, .ref q12, .ref q13, .int 0, .ref q14, .ref q15, .ref q16, .int 0])), (q2, .inl (gK X 0, 1504, .inl (fun _ => 0))), (q17, .inr (10, [.ref q18, .ref q19, .ref q20, .ref q21, .ref q22, .ref q23, .ref q24, .int 0, .ref q25, .ref q26, .ref q27, .ref q28, .ref q29, .ref q30, .ref q31, .ref q32, .ref q33, .int 0, .int 0])), (q34, .inr (11, [.ref q35, .ref q36, .ref q37, .ref q38, .ref q39, .ref q40, .ref q41, .ref q42, .int 0, .ref q43, .ref q44, .int 0])), (q45, .inr (12, [.ref q46, .ref q47, .ref q48, .ref q49, .ref q50, .ref q51, .ref q52, .ref q53, .ref q54, .ref q55, .ref q56, .ref q57, .int 0, .ref q58, .ref q59, .ref q60, .int 0, .ref q61, .ref q62, .int 0]))]) (z := 84) C kX5 dX5_init_81 0 rfl 7 (by decide) w_273 rfl rfl hnm rfl rfl rfl (Nat.le_of_ble_eq_true rfl) rfl rfl ?_
  refine g_aload_n (z := 85) C dX5_init_84 0 rfl rfl rfl ?_
  refine g_sipush (v := 3072) (z := 88) C dX5_init_85 (by decide) rfl ?_
  refine g_newID (N := 3072) (a2 := 67) (b2 := 67074) (z := 90) C hR dX5_init_88 w_109 (by decide) (by decide) (Nat.le_of_ble_eq_true rfl) rfl rfl (Nat.le_of_ble_eq_true rfl) (Nat.le_of_ble_eq_true rfl) rfl (fun q67 => ?_)
  refine g_putF (w2 := [(h0, .inr (8, [.ref q1, .ref q17, .ref q34, .ref q45, .ref q63, .ref q64, .ref q65, .ref q66, .ref q67, .null, .int 0, .int 0, .int 0, .null, .int 0])), (q1, .inr (9, [.ref q2, .ref q3, .int 0, .ref q4, .ref q5, .ref q6, .ref q7, .ref q8, .ref q9, .ref q10, .int 0, .ref q11, .ref q12, .ref q13, .int 0, .ref q14, .ref q15, .ref q16, .int 0])), (q2, .inl (gK X 0, 1504, .inl (fun _ => 0))), (q17, .inr (10, [.ref q18, .ref q19, .ref q20, .ref q21, .ref q22, .ref q23, .ref q24, .int 0, .ref q25, .ref q26, .ref q27, .ref q28, .ref q29, .ref q30, .ref q31, .ref q32, .ref q33, .int 0, .int 0])), (q34, .inr (11, [.ref q35, .ref q36, .ref q37, .ref q38, .ref q39, .ref q40, .ref q41, .ref q42, .int 0, .ref q43, .ref q44, .int 0])), (q45, .inr (12, [.ref q46, .ref q47, .ref q48, .ref q49, .ref q50, .ref q51, .ref q52, .ref q53, .ref q54, .ref q55, .ref q56, .ref q57, .int 0, .ref q58, .ref q59, .ref q60, .int 0, .ref q61, .ref q62, .int 0]))]) (z := 93) C kX5 dX5_init_90 0 rfl 8 (by decide) w_274 rfl rfl hnm rfl rfl rfl (Nat.le_of_ble_eq_true rfl) rfl rfl ?_
  refine g_aload_n (z := 94) C dX5_init_93 0 rfl rfl rfl ?_
  refine g_sipush (v := 3072) (z := 97) C dX5_init_94 (by decide) rfl ?_
  refine g_newID (N := 3072) (a2 := 68) (b2 := 70146) (z := 99) C hR dX5_init_97 w_109 (by decide) (by decide) (Nat.le_of_ble_eq_true rfl) rfl rfl (Nat.le_of_ble_eq_true rfl) (Nat.le_of_ble_eq_true rfl) rfl (fun q68 => ?_)
  refine g_putF (w2 := [(h0, .inr (8, [.ref q1, .ref q17, .ref q34, .ref q45, .ref q63, .ref q64, .ref q65, .ref q66, .ref q67, .ref q68, .int 0, .int 0, .int 0, .null, .int 0])), (q1, .inr (9, [.ref q2, .ref q3, .int 0, .ref q4, .ref q5, .ref q6, .ref q7, .ref q8, .ref q9, .ref q10, .int 0, .ref q11, .ref q12, .ref q13, .int 0, .ref q14, .ref q15, .ref q16, .int 0])), (q2, .inl (gK X 0, 1504, .inl (fun _ => 0))), (q17, .inr (10, [.ref q18, .ref q19, .ref q20, .ref q21, .ref q22, .ref q23, .ref q24, .int 0, .ref q25, .ref q26, .ref q27, .ref q28, .ref q29, .ref q30, .ref q31, .ref q32, .ref q33, .int 0, .int 0])), (q34, .inr (11, [.ref q35, .ref q36, .ref q37, .ref q38, .ref q39, .ref q40, .ref q41, .ref q42, .int 0, .ref q43, .ref q44, .int 0])), (q45, .inr (12, [.ref q46, .ref q47, .ref q48, .ref q49, .ref q50, .ref q51, .ref q52, .ref q53, .ref q54, .ref q55, .ref q56, .ref q57, .int 0, .ref q58, .ref q59, .ref q60, .int 0, .ref q61, .ref q62, .int 0]))]) (z := 102) C kX5 dX5_init_99 0 rfl 9 (by decide) w_275 rfl rfl hnm rfl rfl rfl (Nat.le_of_ble_eq_true rfl) rfl rfl ?_
  refine g_aload_n (z := 103) C dX5_init_102 0 rfl rfl rfl ?_
  refine g_sipush (v := 760) (z := 106) C dX5_init_103 (by decide) rfl ?_
  refine g_newID (N := 760) (a2 := 69) (b2 := 70906) (z := 108) C hR dX5_init_106 w_109 (by decide) (by decide) (Nat.le_of_ble_eq_true rfl) rfl rfl (Nat.le_of_ble_eq_true rfl) (Nat.le_of_ble_eq_true rfl) rfl (fun q69 => ?_)
  refine g_putF (w2 := [(h0, .inr (8, [.ref q1, .ref q17, .ref q34, .ref q45, .ref q63, .ref q64, .ref q65, .ref q66, .ref q67, .ref q68, .int 0, .int 0, .int 0, .ref q69, .int 0])), (q1, .inr (9, [.ref q2, .ref q3, .int 0, .ref q4, .ref q5, .ref q6, .ref q7, .ref q8, .ref q9, .ref q10, .int 0, .ref q11, .ref q12, .ref q13, .int 0, .ref q14, .ref q15, .ref q16, .int 0])), (q2, .inl (gK X 0, 1504, .inl (fun _ => 0))), (q17, .inr (10, [.ref q18, .ref q19, .ref q20, .ref q21, .ref q22, .ref q23, .ref q24, .int 0, .ref q25, .ref q26, .ref q27, .ref q28, .ref q29, .ref q30, .ref q31, .ref q32, .ref q33, .int 0, .int 0])), (q34, .inr (11, [.ref q35, .ref q36, .ref q37, .ref q38, .ref q39, .ref q40, .ref q41, .ref q42, .int 0, .ref q43, .ref q44, .int 0])), (q45, .inr (12, [.ref q46, .ref q47, .ref q48, .ref q49, .ref q50, .ref q51, .ref q52, .ref q53, .ref q54, .ref q55, .ref q56, .ref q57, .int 0, .ref q58, .ref q59, .ref q60, .int 0, .ref q61, .ref q62, .int 0]))]) (z := 111) C kX5 dX5_init_108 0 rfl 13 (by decide) w_276 rfl rfl hnm rfl rfl rfl (Nat.le_of_ble_eq_true rfl) rfl rfl ?_
  exact g_vret C hQ dX5_init_111 (Nat.le_of_ble_eq_true rfl) (Nat.le_of_ble_eq_true rfl) ⟨rfl, q1, q17, q34, q45, q63, q64, q65, q66, q67, q68, q69, q2, q3, q4, q5, q6, q7, q8, q9, q10, q11, q12, q13, q14, q15, q16, q18, q19, q20, q21, q22, q23, q24, q25, q26, q27, q28, q29, q30, q31, q32, q33, q35, q36, q37, q38, q39, q40, q41, q42, q43, q44, q46, q47, q48, q49, q50, q51, q52, q53, q54, q55, q56, q57, q58, q59, q60, q61, q62, rfl⟩
set_option maxHeartbeats 4000000 in
set_option maxRecDepth 100000 in
/-- Reader(tree): the words of the language come into the pool, whatever they are -/
theorem k_X6_init (l : Launch) (D : va_G) (K : KS) (h0 h1 : Nat) : Con l D K yX6_init cX6_init 3 none 4 85 8 17048 [.ref h0, .ref h1] [(h0, .inr (2, [.null, .null, .null, .null, .null, .null, .int 0, .int 0, .int 0, .null, .null, .null, .int 0, .int 0, .int 0, .int 0, .int 0, .int 0]))] (fun v w => v = none ∧ ∃ (f : Nat → Int32) (q1 : Nat) (q2 : Nat) (q3 : Nat) (q4 : Nat) (q5 : Nat) (q6 : Nat) (q7 : Nat) (q8 : Nat), w = [(h0, .inr (2, [.ref h1, .ref q1, .ref q2, .ref q3, .ref q4, .ref q5, .int 0, .int 0, .int 0, .ref q6, .ref q7, .ref q8, .int 0, .int 0, .int 0, .int 0, .int 0, .int 0])), (q1, .inl (K 2, 3157, .inl (f))), (q2, .inl (K 0, 1544, .inl (fun _ => 0))), (q3, .inl (K 0, 1544, .inl (fun _ => 0))), (q4, .inl (K 0, 1544, .inl (fun _ => 0))), (q5, .inl (K 0, 256, .inl (fun _ => 0))), (q6, .inl (K 0, 3001, .inl (fun _ => 0))), (q7, .inl (K 0, 3001, .inl (fun _ => 0)))]) := by
  refine Con.of (by decide +kernel) (Nat.le_of_ble_eq_true rfl) ?_
  intro X hXl hXD hXK C hR hQ hnm
  subst hXl; subst hXD; subst hXK
  refine g_lv (l2 := [(0, .ref h0), (1, .ref h1)]) [0, 1] rfl ?_
  refine g_aload_n (z := 1) C dX6_init_0 0 rfl rfl rfl ?_
  refine g_objInit (z := 4) C hR dX6_init_1 w_130 w_0 w_1 (Nat.le_of_ble_eq_true rfl) (Nat.le_of_ble_eq_true rfl) rfl ?_
  refine g_aload_n (z := 5) C dX6_init_4 0 rfl rfl rfl ?_
  refine g_ldcS (z := 7) C dX6_init_5 (evW C) rfl ?_
  refine g_callVE (n := 0) (As := []) (rest := [.ref h0]) (wr := [(h0, .inr (2, [.null, .null, .null, .null, .null, .null, .int 0, .int 0, .int 0, .null, .null, .null, .int 0, .int 0, .int 0, .int 0, .int 0, .int 0]))]) (a2 := 0) (b2 := 0) (z := 10) C hR (k_lengthW (gl X) (gD X) (gK X)) dX6_init_7 w_131 w_721 w_722 w_720 w_391 ⟨by decide +kernel, by decide +kernel, by decide +kernel⟩ [] [0] rfl rfl rfl rfl rfl (by decide) ⟨(Nat.le_of_ble_eq_true rfl), (Nat.le_of_ble_eq_true rfl)⟩ rfl rfl (Nat.le_of_ble_eq_true rfl) (Nat.le_of_ble_eq_true rfl) (Nat.le_of_ble_eq_true rfl) rfl rfl (evWo C) rfl rfl rfl (fun v ws' hp => ?_)
  obtain ⟨rfl, rfl⟩ := hp
  refine g_ws (w2 := [(h0, .inr (2, [.null, .null, .null, .null, .null, .null, .int 0, .int 0, .int 0, .null, .null, .null, .int 0, .int 0, .int 0, .int 0, .int 0, .int 0]))]) rfl ?_
  refine g_st (s2 := [.int 157, .ref h0]) rfl ?_
  refine g_sipush (v := 3000) (z := 13) C dX6_init_10 (by decide) rfl ?_
  refine g_iadd (v := 3157) (z := 14) C dX6_init_13 (by decide) rfl ?_
  refine g_newB (N := 3157) (a2 := 1) (b2 := 3157) (z := 16) C hR dX6_init_14 w_6 (by decide) (by decide) (Nat.le_of_ble_eq_true rfl) rfl rfl (Nat.le_of_ble_eq_true rfl) (Nat.le_of_ble_eq_true rfl) rfl (fun q1 => ?_)
  refine g_ws (w2 := [(h0, .inr (2, [.null, .null, .null, .null, .null, .null, .int 0, .int 0, .int 0, .null, .null, .null, .int 0, .int 0, .int 0, .int 0, .int 0, .int 0])), (q1, .inl (gK X 2, 3157, .inl (fun _ => 0)))]) rfl ?_
  refine g_putF (w2 := [(h0, .inr (2, [.null, .ref q1, .null, .null, .null, .null, .int 0, .int 0, .int 0, .null, .null, .null, .int 0, .int 0, .int 0, .int 0, .int 0, .int 0])), (q1, .inl (gK X 2, 3157, .inl (fun _ => 0)))]) (z := 19) C kX6 dX6_init_16 0 rfl 1 (by decide) w_132 rfl rfl hnm rfl rfl rfl (Nat.le_of_ble_eq_true rfl) rfl rfl ?_
  refine g_aload_n (z := 20) C dX6_init_19 0 rfl rfl rfl ?_
  refine g_sipush (v := 1544) (z := 23) C dX6_init_20 (by decide) rfl ?_
  refine g_newI (N := 1544) (a2 := 2) (b2 := 4701) (z := 25) C hR dX6_init_23 w_109 (by decide) (by decide) (Nat.le_of_ble_eq_true rfl) rfl rfl (Nat.le_of_ble_eq_true rfl) (Nat.le_of_ble_eq_true rfl) rfl (fun q2 => ?_)
  refine g_ws (w2 := [(h0, .inr (2, [.null, .ref q1, .null, .null, .null, .null, .int 0, .int 0, .int 0, .null, .null, .null, .int 0, .int 0, .int 0, .int 0, .int 0, .int 0])), (q1, .inl (gK X 2, 3157, .inl (fun _ => 0))), (q2, .inl (gK X 0, 1544, .inl (fun _ => 0)))]) rfl ?_
  refine g_putF (w2 := [(h0, .inr (2, [.null, .ref q1, .ref q2, .null, .null, .null, .int 0, .int 0, .int 0, .null, .null, .null, .int 0, .int 0, .int 0, .int 0, .int 0, .int 0])), (q1, .inl (gK X 2, 3157, .inl (fun _ => 0))), (q2, .inl (gK X 0, 1544, .inl (fun _ => 0)))]) (z := 28) C kX6 dX6_init_25 0 rfl 2 (by decide) w_133 rfl rfl hnm rfl rfl rfl (Nat.le_of_ble_eq_true rfl) rfl rfl ?_
  refine g_aload_n (z := 29) C dX6_init_28 0 rfl rfl rfl ?_
  refine g_sipush (v := 1544) (z := 32) C dX6_init_29 (by decide) rfl ?_
  refine g_newI (N := 1544) (a2 := 3) (b2 := 6245) (z := 34) C hR dX6_init_32 w_109 (by decide) (by decide) (Nat.le_of_ble_eq_true rfl) rfl rfl (Nat.le_of_ble_eq_true rfl) (Nat.le_of_ble_eq_true rfl) rfl (fun q3 => ?_)
  refine g_ws (w2 := [(h0, .inr (2, [.null, .ref q1, .ref q2, .null, .null, .null, .int 0, .int 0, .int 0, .null, .null, .null, .int 0, .int 0, .int 0, .int 0, .int 0, .int 0])), (q1, .inl (gK X 2, 3157, .inl (fun _ => 0))), (q2, .inl (gK X 0, 1544, .inl (fun _ => 0))), (q3, .inl (gK X 0, 1544, .inl (fun _ => 0)))]) rfl ?_
  refine g_putF (w2 := [(h0, .inr (2, [.null, .ref q1, .ref q2, .ref q3, .null, .null, .int 0, .int 0, .int 0, .null, .null, .null, .int 0, .int 0, .int 0, .int 0, .int 0, .int 0])), (q1, .inl (gK X 2, 3157, .inl (fun _ => 0))), (q2, .inl (gK X 0, 1544, .inl (fun _ => 0))), (q3, .inl (gK X 0, 1544, .inl (fun _ => 0)))]) (z := 37) C kX6 dX6_init_34 0 rfl 3 (by decide) w_134 rfl rfl hnm rfl rfl rfl (Nat.le_of_ble_eq_true rfl) rfl rfl ?_
  refine g_aload_n (z := 38) C dX6_init_37 0 rfl rfl rfl ?_
  refine g_sipush (v := 1544) (z := 41) C dX6_init_38 (by decide) rfl ?_
  refine g_newI (N := 1544) (a2 := 4) (b2 := 7789) (z := 43) C hR dX6_init_41 w_109 (by decide) (by decide) (Nat.le_of_ble_eq_true rfl) rfl rfl (Nat.le_of_ble_eq_true rfl) (Nat.le_of_ble_eq_true rfl) rfl (fun q4 => ?_)
  refine g_ws (w2 := [(h0, .inr (2, [.null, .ref q1, .ref q2, .ref q3, .null, .null, .int 0, .int 0, .int 0, .null, .null, .null, .int 0, .int 0, .int 0, .int 0, .int 0, .int 0])), (q1, .inl (gK X 2, 3157, .inl (fun _ => 0))), (q2, .inl (gK X 0, 1544, .inl (fun _ => 0))), (q3, .inl (gK X 0, 1544, .inl (fun _ => 0))), (q4, .inl (gK X 0, 1544, .inl (fun _ => 0)))]) rfl ?_
  refine g_putF (w2 := [(h0, .inr (2, [.null, .ref q1, .ref q2, .ref q3, .ref q4, .null, .int 0, .int 0, .int 0, .null, .null, .null, .int 0, .int 0, .int 0, .int 0, .int 0, .int 0])), (q1, .inl (gK X 2, 3157, .inl (fun _ => 0))), (q2, .inl (gK X 0, 1544, .inl (fun _ => 0))), (q3, .inl (gK X 0, 1544, .inl (fun _ => 0))), (q4, .inl (gK X 0, 1544, .inl (fun _ => 0)))]) (z := 46) C kX6 dX6_init_43 0 rfl 4 (by decide) w_135 rfl rfl hnm rfl rfl rfl (Nat.le_of_ble_eq_true rfl) rfl rfl ?_
  refine g_aload_n (z := 47) C dX6_init_46 0 rfl rfl rfl ?_
  refine g_sipush (v := 256) (z := 50) C dX6_init_47 (by decide) rfl ?_
  refine g_newI (N := 256) (a2 := 5) (b2 := 8045) (z := 52) C hR dX6_init_50 w_109 (by decide) (by decide) (Nat.le_of_ble_eq_true rfl) rfl rfl (Nat.le_of_ble_eq_true rfl) (Nat.le_of_ble_eq_true rfl) rfl (fun q5 => ?_)
  refine g_ws (w2 := [(h0, .inr (2, [.null, .ref q1, .ref q2, .ref q3, .ref q4, .null, .int 0, .int 0, .int 0, .null, .null, .null, .int 0, .int 0, .int 0, .int 0, .int 0, .int 0])), (q1, .inl (gK X 2, 3157, .inl (fun _ => 0))), (q2, .inl (gK X 0, 1544, .inl (fun _ => 0))), (q3, .inl (gK X 0, 1544, .inl (fun _ => 0))), (q4, .inl (gK X 0, 1544, .inl (fun _ => 0))), (q5, .inl (gK X 0, 256, .inl (fun _ => 0)))]) rfl ?_
  refine g_putF (w2 := [(h0, .inr (2, [.null, .ref q1, .ref q2, .ref q3, .ref q4, .ref q5, .int 0, .int 0, .int 0, .null, .null, .null, .int 0, .int 0, .int 0, .int 0, .int 0, .int 0])), (q1, .inl (gK X 2, 3157, .inl (fun _ => 0))), (q2, .inl (gK X 0, 1544, .inl (fun _ => 0))), (q3, .inl (gK X 0, 1544, .inl (fun _ => 0))), (q4, .inl (gK X 0, 1544, .inl (fun _ => 0))), (q5, .inl (gK X 0, 256, .inl (fun _ => 0)))]) (z := 55) C kX6 dX6_init_52 0 rfl 5 (by decide) w_136 rfl rfl hnm rfl rfl rfl (Nat.le_of_ble_eq_true rfl) rfl rfl ?_
  refine g_aload_n (z := 56) C dX6_init_55 0 rfl rfl rfl ?_
  refine g_sipush (v := 3001) (z := 59) C dX6_init_56 (by decide) rfl ?_
  refine g_newI (N := 3001) (a2 := 6) (b2 := 11046) (z := 61) C hR dX6_init_59 w_109 (by decide) (by decide) (Nat.le_of_ble_eq_true rfl) rfl rfl (Nat.le_of_ble_eq_true rfl) (Nat.le_of_ble_eq_true rfl) rfl (fun q6 => ?_)
  refine g_ws (w2 := [(h0, .inr (2, [.null, .ref q1, .ref q2, .ref q3, .ref q4, .ref q5, .int 0, .int 0, .int 0, .null, .null, .null, .int 0, .int 0, .int 0, .int 0, .int 0, .int 0])), (q1, .inl (gK X 2, 3157, .inl (fun _ => 0))), (q2, .inl (gK X 0, 1544, .inl (fun _ => 0))), (q3, .inl (gK X 0, 1544, .inl (fun _ => 0))), (q4, .inl (gK X 0, 1544, .inl (fun _ => 0))), (q5, .inl (gK X 0, 256, .inl (fun _ => 0))), (q6, .inl (gK X 0, 3001, .inl (fun _ => 0)))]) rfl ?_
  refine g_putF (w2 := [(h0, .inr (2, [.null, .ref q1, .ref q2, .ref q3, .ref q4, .ref q5, .int 0, .int 0, .int 0, .ref q6, .null, .null, .int 0, .int 0, .int 0, .int 0, .int 0, .int 0])), (q1, .inl (gK X 2, 3157, .inl (fun _ => 0))), (q2, .inl (gK X 0, 1544, .inl (fun _ => 0))), (q3, .inl (gK X 0, 1544, .inl (fun _ => 0))), (q4, .inl (gK X 0, 1544, .inl (fun _ => 0))), (q5, .inl (gK X 0, 256, .inl (fun _ => 0))), (q6, .inl (gK X 0, 3001, .inl (fun _ => 0)))]) (z := 64) C kX6 dX6_init_61 0 rfl 9 (by decide) w_137 rfl rfl hnm rfl rfl rfl (Nat.le_of_ble_eq_true rfl) rfl rfl ?_
  refine g_aload_n (z := 65) C dX6_init_64 0 rfl rfl rfl ?_
  refine g_sipush (v := 3001) (z := 68) C dX6_init_65 (by decide) rfl ?_
  refine g_newI (N := 3001) (a2 := 7) (b2 := 14047) (z := 70) C hR dX6_init_68 w_109 (by decide) (by decide) (Nat.le_of_ble_eq_true rfl) rfl rfl (Nat.le_of_ble_eq_true rfl) (Nat.le_of_ble_eq_true rfl) rfl (fun q7 => ?_)
  refine g_ws (w2 := [(h0, .inr (2, [.null, .ref q1, .ref q2, .ref q3, .ref q4, .ref q5, .int 0, .int 0, .int 0, .ref q6, .null, .null, .int 0, .int 0, .int 0, .int 0, .int 0, .int 0])), (q1, .inl (gK X 2, 3157, .inl (fun _ => 0))), (q2, .inl (gK X 0, 1544, .inl (fun _ => 0))), (q3, .inl (gK X 0, 1544, .inl (fun _ => 0))), (q4, .inl (gK X 0, 1544, .inl (fun _ => 0))), (q5, .inl (gK X 0, 256, .inl (fun _ => 0))), (q6, .inl (gK X 0, 3001, .inl (fun _ => 0))), (q7, .inl (gK X 0, 3001, .inl (fun _ => 0)))]) rfl ?_
  refine g_putF (w2 := [(h0, .inr (2, [.null, .ref q1, .ref q2, .ref q3, .ref q4, .ref q5, .int 0, .int 0, .int 0, .ref q6, .ref q7, .null, .int 0, .int 0, .int 0, .int 0, .int 0, .int 0])), (q1, .inl (gK X 2, 3157, .inl (fun _ => 0))), (q2, .inl (gK X 0, 1544, .inl (fun _ => 0))), (q3, .inl (gK X 0, 1544, .inl (fun _ => 0))), (q4, .inl (gK X 0, 1544, .inl (fun _ => 0))), (q5, .inl (gK X 0, 256, .inl (fun _ => 0))), (q6, .inl (gK X 0, 3001, .inl (fun _ => 0))), (q7, .inl (gK X 0, 3001, .inl (fun _ => 0)))]) (z := 73) C kX6 dX6_init_70 0 rfl 10 (by decide) w_138 rfl rfl hnm rfl rfl rfl (Nat.le_of_ble_eq_true rfl) rfl rfl ?_
  refine g_aload_n (z := 74) C dX6_init_73 0 rfl rfl rfl ?_
  refine g_sipush (v := 3001) (z := 77) C dX6_init_74 (by decide) rfl ?_
  refine g_newJD (N := 3001) (a2 := 8) (b2 := 17048) (z := 79) C hR dX6_init_77 w_8 (by decide) (by decide) (Nat.le_of_ble_eq_true rfl) rfl rfl (Nat.le_of_ble_eq_true rfl) (Nat.le_of_ble_eq_true rfl) rfl (fun q8 => ?_)
  refine g_putF (w2 := [(h0, .inr (2, [.null, .ref q1, .ref q2, .ref q3, .ref q4, .ref q5, .int 0, .int 0, .int 0, .ref q6, .ref q7, .ref q8, .int 0, .int 0, .int 0, .int 0, .int 0, .int 0])), (q1, .inl (gK X 2, 3157, .inl (fun _ => 0))), (q2, .inl (gK X 0, 1544, .inl (fun _ => 0))), (q3, .inl (gK X 0, 1544, .inl (fun _ => 0))), (q4, .inl (gK X 0, 1544, .inl (fun _ => 0))), (q5, .inl (gK X 0, 256, .inl (fun _ => 0))), (q6, .inl (gK X 0, 3001, .inl (fun _ => 0))), (q7, .inl (gK X 0, 3001, .inl (fun _ => 0)))]) (z := 82) C kX6 dX6_init_79 0 rfl 11 (by decide) w_139 rfl rfl hnm rfl rfl rfl (Nat.le_of_ble_eq_true rfl) rfl rfl ?_
  refine g_aload_n (z := 83) C dX6_init_82 0 rfl rfl rfl ?_
  refine g_aload_n (z := 84) C dX6_init_83 1 rfl rfl rfl ?_
  refine g_putF (w2 := [(h0, .inr (2, [.ref h1, .ref q1, .ref q2, .ref q3, .ref q4, .ref q5, .int 0, .int 0, .int 0, .ref q6, .ref q7, .ref q8, .int 0, .int 0, .int 0, .int 0, .int 0, .int 0])), (q1, .inl (gK X 2, 3157, .inl (fun _ => 0))), (q2, .inl (gK X 0, 1544, .inl (fun _ => 0))), (q3, .inl (gK X 0, 1544, .inl (fun _ => 0))), (q4, .inl (gK X 0, 1544, .inl (fun _ => 0))), (q5, .inl (gK X 0, 256, .inl (fun _ => 0))), (q6, .inl (gK X 0, 3001, .inl (fun _ => 0))), (q7, .inl (gK X 0, 3001, .inl (fun _ => 0)))]) (z := 87) C kX6 dX6_init_84 0 rfl 0 (by decide) w_140 rfl rfl hnm rfl rfl rfl (Nat.le_of_ble_eq_true rfl) rfl rfl ?_
  refine g_iconst (v := 0) (z := 88) C dX6_init_87 (by decide) rfl ?_
  refine g_istore_n (l2 := [(2, .int 0), (0, .ref h0), (1, .ref h1)]) (z := 89) C dX6_init_88 rfl (by decide) rfl rfl ?_
  refine g_lv (l2 := [(2, .int 0), (0, .ref h0), (1, .ref h1)]) [0, 1, 2] rfl ?_
  have loop : ∀ (n i : Nat) (x : Int32) (f : Nat → Int32), x = nI i → i ≤ 157 → 158 ≤ i + n → G X 8 17048 [(h0, .inr (2, [.ref h1, .ref q1, .ref q2, .ref q3, .ref q4, .ref q5, .int 0, .int 0, .int 0, .ref q6, .ref q7, .ref q8, .int 0, .int 0, .int 0, .int 0, .int 0, .int 0])), (q1, .inl (gK X 2, 3157, .inl (f))), (q2, .inl (gK X 0, 1544, .inl (fun _ => 0))), (q3, .inl (gK X 0, 1544, .inl (fun _ => 0))), (q4, .inl (gK X 0, 1544, .inl (fun _ => 0))), (q5, .inl (gK X 0, 256, .inl (fun _ => 0))), (q6, .inl (gK X 0, 3001, .inl (fun _ => 0))), (q7, .inl (gK X 0, 3001, .inl (fun _ => 0)))] [(2, .int x), (0, .ref h0), (1, .ref h1)] 89 [] := by
    intro n
    induction n with
    | zero => intro i x f _ u1 u2; omega
    | succ n ih =>
      intro i x f hx u1 u2
      subst hx
      refine g_iload_n (z := 90) C dX6_init_89 0 rfl rfl rfl ?_
      refine g_ldcS (z := 92) C dX6_init_90 (evW C) rfl ?_
      refine g_callVE (n := 0) (As := []) (rest := [.int (nI i)]) (wr := [(h0, .inr (2, [.ref h1, .ref q1, .ref q2, .ref q3, .ref q4, .ref q5, .int 0, .int 0, .int 0, .ref q6, .ref q7, .ref q8, .int 0, .int 0, .int 0, .int 0, .int 0, .int 0])), (q1, .inl (gK X 2, 3157, .inl (f))), (q2, .inl (gK X 0, 1544, .inl (fun _ => 0))), (q3, .inl (gK X 0, 1544, .inl (fun _ => 0))), (q4, .inl (gK X 0, 1544, .inl (fun _ => 0))), (q5, .inl (gK X 0, 256, .inl (fun _ => 0))), (q6, .inl (gK X 0, 3001, .inl (fun _ => 0))), (q7, .inl (gK X 0, 3001, .inl (fun _ => 0)))]) (a2 := 8) (b2 := 17048) (z := 95) C hR (k_lengthW (gl X) (gD X) (gK X)) dX6_init_92 w_131 w_721 w_722 w_720 w_391 ⟨by decide +kernel, by decide +kernel, by decide +kernel⟩ [] [0, 1, 2, 3, 4, 5, 6, 7] rfl rfl rfl rfl rfl (by decide) ⟨(Nat.le_of_ble_eq_true rfl), (Nat.le_of_ble_eq_true rfl)⟩ rfl rfl (Nat.le_of_ble_eq_true rfl) (Nat.le_of_ble_eq_true rfl) (Nat.le_of_ble_eq_true rfl) rfl rfl (evWo C) rfl rfl rfl (fun v ws' hp => ?_)
      obtain ⟨rfl, rfl⟩ := hp
      refine g_ws (w2 := [(h0, .inr (2, [.ref h1, .ref q1, .ref q2, .ref q3, .ref q4, .ref q5, .int 0, .int 0, .int 0, .ref q6, .ref q7, .ref q8, .int 0, .int 0, .int 0, .int 0, .int 0, .int 0])), (q1, .inl (gK X 2, 3157, .inl (f))), (q2, .inl (gK X 0, 1544, .inl (fun _ => 0))), (q3, .inl (gK X 0, 1544, .inl (fun _ => 0))), (q4, .inl (gK X 0, 1544, .inl (fun _ => 0))), (q5, .inl (gK X 0, 256, .inl (fun _ => 0))), (q6, .inl (gK X 0, 3001, .inl (fun _ => 0))), (q7, .inl (gK X 0, 3001, .inl (fun _ => 0)))]) rfl ?_
      refine g_st (s2 := [.int 157, .int (nI i)]) rfl ?_
      refine g_icmp_ge (z2 := 117) (z := 98) C dX6_init_95 (by decide) rfl (fun hc => ?_) (fun hc => ?_)
      · exact g_vret C hQ dX6_init_117 (Nat.le_of_ble_eq_true rfl) (Nat.le_of_ble_eq_true rfl) ⟨rfl, f, q1, q2, q3, q4, q5, q6, q7, q8, rfl⟩
      · have hi : i < 157 := by
          rcases Nat.lt_or_ge i 157 with q | q
          · exact q
          · exact absurd (nI_le (a := 157) (b := i) q (by omega)) hc
        refine g_aload_n (z := 99) C dX6_init_98 1 rfl rfl rfl ?_
        refine g_get (z := 102) C kX6 dX6_init_99 0 rfl 1 (by decide) w_132 rfl rfl rfl ?_
        refine g_iload_n (z := 103) C dX6_init_102 0 rfl rfl rfl ?_
        refine g_ldcS (z := 105) C dX6_init_103 (evW C) rfl ?_
        refine g_iload_n (z := 106) C dX6_init_105 0 rfl rfl rfl ?_
        refine g_callVE (n := 1) (As := [.int (nI i)]) (rest := [.int (nI i), .ref q1]) (wr := [(h0, .inr (2, [.ref h1, .ref q1, .ref q2, .ref q3, .ref q4, .ref q5, .int 0, .int 0, .int 0, .ref q6, .ref q7, .ref q8, .int 0, .int 0, .int 0, .int 0, .int 0, .int 0])), (q1, .inl (gK X 2, 3157, .inl (f))), (q2, .inl (gK X 0, 1544, .inl (fun _ => 0))), (q3, .inl (gK X 0, 1544, .inl (fun _ => 0))), (q4, .inl (gK X 0, 1544, .inl (fun _ => 0))), (q5, .inl (gK X 0, 256, .inl (fun _ => 0))), (q6, .inl (gK X 0, 3001, .inl (fun _ => 0))), (q7, .inl (gK X 0, 3001, .inl (fun _ => 0)))]) (a2 := 8) (b2 := 17048) (z := 109) C hR (k_charW (gl X) (gD X) (gK X) i hi) dX6_init_106 w_141 w_725 w_726 w_724 w_391 ⟨by decide +kernel, by decide +kernel, by decide +kernel⟩ [] [0, 1, 2, 3, 4, 5, 6, 7] rfl rfl rfl rfl rfl (by decide) ⟨(Nat.le_of_ble_eq_true rfl), (Nat.le_of_ble_eq_true rfl)⟩ rfl rfl (Nat.le_of_ble_eq_true rfl) (Nat.le_of_ble_eq_true rfl) (Nat.le_of_ble_eq_true rfl) rfl rfl (evWo C) rfl rfl rfl (fun v ws' hp => ?_)
        obtain ⟨⟨r, rfl⟩, rfl⟩ := hp
        refine g_ws (w2 := [(h0, .inr (2, [.ref h1, .ref q1, .ref q2, .ref q3, .ref q4, .ref q5, .int 0, .int 0, .int 0, .ref q6, .ref q7, .ref q8, .int 0, .int 0, .int 0, .int 0, .int 0, .int 0])), (q1, .inl (gK X 2, 3157, .inl (f))), (q2, .inl (gK X 0, 1544, .inl (fun _ => 0))), (q3, .inl (gK X 0, 1544, .inl (fun _ => 0))), (q4, .inl (gK X 0, 1544, .inl (fun _ => 0))), (q5, .inl (gK X 0, 256, .inl (fun _ => 0))), (q6, .inl (gK X 0, 3001, .inl (fun _ => 0))), (q7, .inl (gK X 0, 3001, .inl (fun _ => 0)))]) rfl ?_
        refine g_st (s2 := [.int r, .int (nI i), .ref q1]) rfl ?_
        refine g_i2b (v := r.toInt8.toInt32) (z := 110) C dX6_init_109 rfl rfl ?_
        refine g_bast (w2 := [(h0, .inr (2, [.ref h1, .ref q1, .ref q2, .ref q3, .ref q4, .ref q5, .int 0, .int 0, .int 0, .ref q6, .ref q7, .ref q8, .int 0, .int 0, .int 0, .int 0, .int 0, .int 0])), (q1, .inl (gK X 2, 3157, .inl (upd (f) ((nI i) : Int32).toNatClampNeg (vp_nar .byte r.toInt8.toInt32)))), (q2, .inl (gK X 0, 1544, .inl (fun _ => 0))), (q3, .inl (gK X 0, 1544, .inl (fun _ => 0))), (q4, .inl (gK X 0, 1544, .inl (fun _ => 0))), (q5, .inl (gK X 0, 256, .inl (fun _ => 0))), (q6, .inl (gK X 0, 3001, .inl (fun _ => 0))), (q7, .inl (gK X 0, 3001, .inl (fun _ => 0)))]) (z := 111) C dX6_init_110 1 rfl (vp_in_nI (by omega) (by omega)) rfl rfl ?_
        refine g_iinc (v := ((nI i) + 1)) (l2 := [(2, .int ((nI i) + 1)), (0, .ref h0), (1, .ref h1)]) (z := 114) C dX6_init_111 0 rfl (by rfl) (by decide) rfl rfl ?_
        refine g_goto (z := 89) C dX6_init_114 (by decide) ?_
        refine g_lv (l2 := [(2, .int ((nI i) + 1)), (0, .ref h0), (1, .ref h1)]) [0, 1, 2] rfl ?_
        exact ih (i + 1) _ _ (nI_1 i) (by omega) (by omega)
  exact loop 158 0 0 _ nI_0.symm (by omega) (by omega)

theorem dX30_about_0 : decode cX30_about 0 = .ok (.aload_n 0, 1) := by decide +kernel
theorem dX30_about_1 : decode cX30_about 1 = .ok (.getfield 1253, 3) := by decide +kernel
theorem dX30_about_4 : decode cX30_about 4 = .ok (.ifCond .ne 5, 3) := by decide +kernel
theorem dX30_about_7 : decode cX30_about 7 = .ok (.iconst (-1), 1) := by decide +kernel
theorem dX30_about_8 : decode cX30_about 8 = .ok (.ireturn, 1) := by decide +kernel
theorem dX30_clashes__0 : decode cX30_clashes_ 0 = .ok (.aload_n 0, 1) := by decide +kernel
theorem dX30_clashes__1 : decode cX30_clashes_ 1 = .ok (.getfield 1417, 3) := by decide +kernel
theorem dX30_clashes__4 : decode cX30_clashes_ 4 = .ok (.ireturn, 1) := by decide +kernel
theorem dX30_count_0 : decode cX30_count 0 = .ok (.iload_n 1, 1) := by decide +kernel
theorem dX30_count_1 : decode cX30_count 1 = .ok (.ifCond .lt 8, 3) := by decide +kernel
theorem dX30_count_4 : decode cX30_count 4 = .ok (.iload_n 1, 1) := by decide +kernel
theorem dX30_count_5 : decode cX30_count 5 = .ok (.iconst 3, 1) := by decide +kernel
theorem dX30_count_6 : decode cX30_count 6 = .ok (.if_icmp .le 5, 3) := by decide +kernel
theorem dX30_count_9 : decode cX30_count 9 = .ok (.iconst (-1), 1) := by decide +kernel
theorem dX30_count_10 : decode cX30_count 10 = .ok (.ireturn, 1) := by decide +kernel
theorem dX30_count_11 : decode cX30_count 11 = .ok (.aload_n 0, 1) := by decide +kernel
theorem dX30_count_12 : decode cX30_count 12 = .ok (.getfield 1250, 3) := by decide +kernel
theorem dX30_count_15 : decode cX30_count 15 = .ok (.ifnonnull 5, 3) := by decide +kernel
theorem dX30_count_18 : decode cX30_count 18 = .ok (.iconst 0, 1) := by decide +kernel
theorem dX30_count_19 : decode cX30_count 19 = .ok (.ireturn, 1) := by decide +kernel
theorem dX30_fault_0 : decode cX30_fault 0 = .ok (.iload_n 1, 1) := by decide +kernel
theorem dX30_fault_1 : decode cX30_fault 1 = .ok (.ifCond .ne 10, 3) := by decide +kernel
theorem dX30_fault_4 : decode cX30_fault 4 = .ok (.aload_n 0, 1) := by decide +kernel
theorem dX30_fault_5 : decode cX30_fault 5 = .ok (.getfield 110, 3) := by decide +kernel
theorem dX30_fault_8 : decode cX30_fault 8 = .ok (.goto 28, 3) := by decide +kernel
theorem dX30_fault_11 : decode cX30_fault 11 = .ok (.iload_n 1, 1) := by decide +kernel
theorem dX30_fault_12 : decode cX30_fault 12 = .ok (.iconst 1, 1) := by decide +kernel
theorem dX30_fault_13 : decode cX30_fault 13 = .ok (.if_icmp .ne 10, 3) := by decide +kernel
theorem dX30_fault_16 : decode cX30_fault 16 = .ok (.aload_n 0, 1) := by decide +kernel
theorem dX30_fault_17 : decode cX30_fault 17 = .ok (.getfield 114, 3) := by decide +kernel
theorem dX30_fault_20 : decode cX30_fault 20 = .ok (.goto 16, 3) := by decide +kernel
theorem dX30_fault_23 : decode cX30_fault 23 = .ok (.iload_n 1, 1) := by decide +kernel
theorem dX30_fault_24 : decode cX30_fault 24 = .ok (.iconst 2, 1) := by decide +kernel
theorem dX30_fault_25 : decode cX30_fault 25 = .ok (.if_icmp .ne 10, 3) := by decide +kernel
theorem dX30_fault_28 : decode cX30_fault 28 = .ok (.aload_n 0, 1) := by decide +kernel
theorem dX30_fault_29 : decode cX30_fault 29 = .ok (.getfield 117, 3) := by decide +kernel
theorem dX30_fault_32 : decode cX30_fault 32 = .ok (.goto 4, 3) := by decide +kernel
theorem dX30_fault_35 : decode cX30_fault 35 = .ok (.iconst (-1), 1) := by decide +kernel
theorem dX30_fault_36 : decode cX30_fault 36 = .ok (.ireturn, 1) := by decide +kernel
theorem dX30_feed_0 : decode cX30_feed 0 = .ok (.aload_n 0, 1) := by decide +kernel
theorem dX30_feed_1 : decode cX30_feed 1 = .ok (.getfield 1231, 3) := by decide +kernel
theorem dX30_feed_4 : decode cX30_feed 4 = .ok (.bipush 20, 2) := by decide +kernel
theorem dX30_feed_6 : decode cX30_feed 6 = .ok (.iadd, 1) := by decide +kernel
theorem dX30_feed_7 : decode cX30_feed 7 = .ok (.sipush 3000, 3) := by decide +kernel
theorem dX30_feed_10 : decode cX30_feed 10 = .ok (.if_icmp .le 5, 3) := by decide +kernel
theorem dX30_feed_15 : decode cX30_feed 15 = .ok (.iconst 5, 1) := by decide +kernel
theorem dX30_feed_16 : decode cX30_feed 16 = .ok (.newarray .int, 2) := by decide +kernel
theorem dX30_feed_18 : decode cX30_feed 18 = .ok (.dup, 1) := by decide +kernel
theorem dX30_feed_19 : decode cX30_feed 19 = .ok (.iconst 0, 1) := by decide +kernel
theorem dX30_feed_20 : decode cX30_feed 20 = .ok (.iload_n 1, 1) := by decide +kernel
theorem dX30_feed_21 : decode cX30_feed 21 = .ok (.iastore, 1) := by decide +kernel
theorem dX30_feed_22 : decode cX30_feed 22 = .ok (.dup, 1) := by decide +kernel
theorem dX30_feed_23 : decode cX30_feed 23 = .ok (.iconst 1, 1) := by decide +kernel
theorem dX30_feed_24 : decode cX30_feed 24 = .ok (.iload_n 2, 1) := by decide +kernel
theorem dX30_feed_25 : decode cX30_feed 25 = .ok (.iastore, 1) := by decide +kernel
theorem dX30_feed_26 : decode cX30_feed 26 = .ok (.dup, 1) := by decide +kernel
theorem dX30_feed_27 : decode cX30_feed 27 = .ok (.iconst 2, 1) := by decide +kernel
theorem dX30_feed_28 : decode cX30_feed 28 = .ok (.iload_n 3, 1) := by decide +kernel
theorem dX30_feed_29 : decode cX30_feed 29 = .ok (.iastore, 1) := by decide +kernel
theorem dX30_feed_30 : decode cX30_feed 30 = .ok (.dup, 1) := by decide +kernel
theorem dX30_feed_31 : decode cX30_feed 31 = .ok (.iconst 3, 1) := by decide +kernel
theorem dX30_feed_32 : decode cX30_feed 32 = .ok (.iload 4, 2) := by decide +kernel
theorem dX30_feed_34 : decode cX30_feed 34 = .ok (.iastore, 1) := by decide +kernel
theorem dX30_feed_35 : decode cX30_feed 35 = .ok (.dup, 1) := by decide +kernel
theorem dX30_feed_36 : decode cX30_feed 36 = .ok (.iconst 4, 1) := by decide +kernel
theorem dX30_feed_37 : decode cX30_feed 37 = .ok (.iload 5, 2) := by decide +kernel
theorem dX30_feed_39 : decode cX30_feed 39 = .ok (.iastore, 1) := by decide +kernel
theorem dX30_feed_40 : decode cX30_feed 40 = .ok (.astore 6, 2) := by decide +kernel
theorem dX30_feed_42 : decode cX30_feed 42 = .ok (.iconst 0, 1) := by decide +kernel
theorem dX30_feed_43 : decode cX30_feed 43 = .ok (.istore 7, 2) := by decide +kernel
theorem dX30_feed_45 : decode cX30_feed 45 = .ok (.iload 7, 2) := by decide +kernel
theorem dX30_feed_47 : decode cX30_feed 47 = .ok (.bipush 20, 2) := by decide +kernel
theorem dX30_feed_49 : decode cX30_feed 49 = .ok (.if_icmp .ge 47, 3) := by decide +kernel
theorem dX30_feed_52 : decode cX30_feed 52 = .ok (.aload_n 0, 1) := by decide +kernel
theorem dX30_feed_53 : decode cX30_feed 53 = .ok (.getfield 9, 3) := by decide +kernel
theorem dX30_feed_56 : decode cX30_feed 56 = .ok (.aload_n 0, 1) := by decide +kernel
theorem dX30_feed_57 : decode cX30_feed 57 = .ok (.getfield 1231, 3) := by decide +kernel
theorem dX30_feed_60 : decode cX30_feed 60 = .ok (.aload 6, 2) := by decide +kernel
theorem dX30_feed_62 : decode cX30_feed 62 = .ok (.iload 7, 2) := by decide +kernel
theorem dX30_feed_64 : decode cX30_feed 64 = .ok (.iconst 4, 1) := by decide +kernel
theorem dX30_feed_65 : decode cX30_feed 65 = .ok (.idiv, 1) := by decide +kernel
theorem dX30_feed_66 : decode cX30_feed 66 = .ok (.iaload, 1) := by decide +kernel
theorem dX30_feed_67 : decode cX30_feed 67 = .ok (.bipush 24, 2) := by decide +kernel
theorem dX30_feed_69 : decode cX30_feed 69 = .ok (.bipush 8, 2) := by decide +kernel
theorem dX30_feed_71 : decode cX30_feed 71 = .ok (.iload 7, 2) := by decide +kernel
theorem dX30_feed_73 : decode cX30_feed 73 = .ok (.iconst 4, 1) := by decide +kernel
theorem dX30_feed_74 : decode cX30_feed 74 = .ok (.irem, 1) := by decide +kernel
theorem dX30_feed_75 : decode cX30_feed 75 = .ok (.imul, 1) := by decide +kernel
theorem dX30_feed_76 : decode cX30_feed 76 = .ok (.isub, 1) := by decide +kernel
theorem dX30_feed_77 : decode cX30_feed 77 = .ok (.ishr, 1) := by decide +kernel
theorem dX30_feed_78 : decode cX30_feed 78 = .ok (.i2b, 1) := by decide +kernel
theorem dX30_feed_79 : decode cX30_feed 79 = .ok (.bastore, 1) := by decide +kernel
theorem dX30_feed_80 : decode cX30_feed 80 = .ok (.aload_n 0, 1) := by decide +kernel
theorem dX30_feed_81 : decode cX30_feed 81 = .ok (.dup, 1) := by decide +kernel
theorem dX30_feed_82 : decode cX30_feed 82 = .ok (.getfield 1231, 3) := by decide +kernel
theorem dX30_feed_85 : decode cX30_feed 85 = .ok (.iconst 1, 1) := by decide +kernel
theorem dX30_feed_86 : decode cX30_feed 86 = .ok (.iadd, 1) := by decide +kernel
theorem dX30_feed_87 : decode cX30_feed 87 = .ok (.putfield 1231, 3) := by decide +kernel
theorem dX30_feed_90 : decode cX30_feed 90 = .ok (.iinc 7 1, 3) := by decide +kernel
theorem dX30_feed_93 : decode cX30_feed 93 = .ok (.goto (-48), 3) := by decide +kernel
theorem dX30_feed_96 : decode cX30_feed 96 = .ok (.aload_n 0, 1) := by decide +kernel
theorem dX30_feed_97 : decode cX30_feed 97 = .ok (.getfield 1231, 3) := by decide +kernel
theorem dX30_feed_100 : decode cX30_feed 100 = .ok (.ireturn, 1) := by decide +kernel
theorem dX30_force_0 : decode cX30_force 0 = .ok (.aload_n 0, 1) := by decide +kernel
theorem dX30_force_1 : decode cX30_force 1 = .ok (.getfield 1250, 3) := by decide +kernel
theorem dX30_force_4 : decode cX30_force 4 = .ok (.ifnull 37, 3) := by decide +kernel
theorem dX30_force_41 : decode cX30_force 41 = .ok (.iconst (-1), 1) := by decide +kernel
theorem dX30_force_42 : decode cX30_force 42 = .ok (.ireturn, 1) := by decide +kernel
theorem dX30_function_0 : decode cX30_function 0 = .ok (.aload_n 0, 1) := by decide +kernel
theorem dX30_function_1 : decode cX30_function 1 = .ok (.getfield 1250, 3) := by decide +kernel
theorem dX30_function_4 : decode cX30_function 4 = .ok (.ifnull 20, 3) := by decide +kernel
theorem dX30_function_24 : decode cX30_function 24 = .ok (.iconst (-1), 1) := by decide +kernel
theorem dX30_function_25 : decode cX30_function 25 = .ok (.ireturn, 1) := by decide +kernel
theorem dX30_give__0 : decode cX30_give_ 0 = .ok (.aload_n 0, 1) := by decide +kernel
theorem dX30_give__1 : decode cX30_give_ 1 = .ok (.getfield 1502, 3) := by decide +kernel
theorem dX30_give__4 : decode cX30_give_ 4 = .ok (.sipush 200, 3) := by decide +kernel
theorem dX30_give__7 : decode cX30_give_ 7 = .ok (.if_icmp .ne 5, 3) := by decide +kernel
theorem dX30_give__12 : decode cX30_give_ 12 = .ok (.aload_n 0, 1) := by decide +kernel
theorem dX30_give__13 : decode cX30_give_ 13 = .ok (.getfield 161, 3) := by decide +kernel
theorem dX30_give__16 : decode cX30_give_ 16 = .ok (.aload_n 0, 1) := by decide +kernel
theorem dX30_give__17 : decode cX30_give_ 17 = .ok (.getfield 1502, 3) := by decide +kernel
theorem dX30_give__20 : decode cX30_give_ 20 = .ok (.lload_n 1, 1) := by decide +kernel
theorem dX30_give__21 : decode cX30_give_ 21 = .ok (.lastore, 1) := by decide +kernel
theorem dX30_give__22 : decode cX30_give_ 22 = .ok (.aload_n 0, 1) := by decide +kernel
theorem dX30_give__23 : decode cX30_give_ 23 = .ok (.dup, 1) := by decide +kernel
theorem dX30_give__24 : decode cX30_give_ 24 = .ok (.getfield 1502, 3) := by decide +kernel
theorem dX30_give__27 : decode cX30_give_ 27 = .ok (.iconst 1, 1) := by decide +kernel
theorem dX30_give__28 : decode cX30_give_ 28 = .ok (.iadd, 1) := by decide +kernel
theorem dX30_give__29 : decode cX30_give_ 29 = .ok (.putfield 1502, 3) := by decide +kernel
theorem dX30_give__32 : decode cX30_give_ 32 = .ok (.aload_n 0, 1) := by decide +kernel
theorem dX30_give__33 : decode cX30_give_ 33 = .ok (.getfield 1502, 3) := by decide +kernel
theorem dX30_give__36 : decode cX30_give_ 36 = .ok (.ireturn, 1) := by decide +kernel
theorem dX30_lefts_0 : decode cX30_lefts 0 = .ok (.aload_n 0, 1) := by decide +kernel
theorem dX30_lefts_1 : decode cX30_lefts 1 = .ok (.getfield 1546, 3) := by decide +kernel
theorem dX30_lefts_4 : decode cX30_lefts 4 = .ok (.ireturn, 1) := by decide +kernel
theorem dX30_loan_0 : decode cX30_loan 0 = .ok (.aload_n 0, 1) := by decide +kernel
theorem dX30_loan_1 : decode cX30_loan 1 = .ok (.getfield 1250, 3) := by decide +kernel
theorem dX30_loan_4 : decode cX30_loan 4 = .ok (.ifnull 20, 3) := by decide +kernel
theorem dX30_loan_24 : decode cX30_loan 24 = .ok (.iconst (-1), 1) := by decide +kernel
theorem dX30_loan_25 : decode cX30_loan 25 = .ok (.ireturn, 1) := by decide +kernel
theorem dX30_out__0 : decode cX30_out_ 0 = .ok (.aload_n 0, 1) := by decide +kernel
theorem dX30_out__1 : decode cX30_out_ 1 = .ok (.getfield 1253, 3) := by decide +kernel
theorem dX30_out__4 : decode cX30_out_ 4 = .ok (.ifCond .eq 24, 3) := by decide +kernel
theorem dX30_out__28 : decode cX30_out_ 28 = .ok (.lconst 0, 1) := by decide +kernel
theorem dX30_out__29 : decode cX30_out_ 29 = .ok (.lreturn, 1) := by decide +kernel
theorem dX30_place__0 : decode cX30_place_ 0 = .ok (.aload_n 0, 1) := by decide +kernel
theorem dX30_place__1 : decode cX30_place_ 1 = .ok (.getfield 1250, 3) := by decide +kernel
theorem dX30_place__4 : decode cX30_place_ 4 = .ok (.ifnull 20, 3) := by decide +kernel
theorem dX30_place__24 : decode cX30_place_ 24 = .ok (.iconst (-1), 1) := by decide +kernel
theorem dX30_place__25 : decode cX30_place_ 25 = .ok (.ireturn, 1) := by decide +kernel
theorem dX30_run_0 : decode cX30_run 0 = .ok (.iload_n 1, 1) := by decide +kernel
theorem dX30_run_1 : decode cX30_run 1 = .ok (.iconst 1, 1) := by decide +kernel
theorem dX30_run_2 : decode cX30_run 2 = .ok (.if_icmp .lt 17, 3) := by decide +kernel
theorem dX30_run_5 : decode cX30_run 5 = .ok (.iload_n 1, 1) := by decide +kernel
theorem dX30_run_6 : decode cX30_run 6 = .ok (.ldc_w 1545, 3) := by decide +kernel
theorem dX30_run_9 : decode cX30_run 9 = .ok (.if_icmp .gt 10, 3) := by decide +kernel
theorem dX30_run_12 : decode cX30_run 12 = .ok (.aload_n 0, 1) := by decide +kernel
theorem dX30_run_13 : decode cX30_run 13 = .ok (.getfield 1250, 3) := by decide +kernel
theorem dX30_run_16 : decode cX30_run 16 = .ok (.ifnonnull 5, 3) := by decide +kernel
theorem dX30_run_19 : decode cX30_run 19 = .ok (.iconst (-1), 1) := by decide +kernel
theorem dX30_run_20 : decode cX30_run 20 = .ok (.ireturn, 1) := by decide +kernel
theorem dX30_size_0 : decode cX30_size 0 = .ok (.aload_n 0, 1) := by decide +kernel
theorem dX30_size_1 : decode cX30_size 1 = .ok (.getfield 1250, 3) := by decide +kernel
theorem dX30_size_4 : decode cX30_size 4 = .ok (.ifnull 20, 3) := by decide +kernel
theorem dX30_size_24 : decode cX30_size 24 = .ok (.iconst (-1), 1) := by decide +kernel
theorem dX30_size_25 : decode cX30_size 25 = .ok (.goto 20, 3) := by decide +kernel
theorem dX30_size_45 : decode cX30_size 45 = .ok (.ireturn, 1) := by decide +kernel
theorem dX30_strays_0 : decode cX30_strays 0 = .ok (.aload_n 0, 1) := by decide +kernel
theorem dX30_strays_1 : decode cX30_strays 1 = .ok (.getfield 1359, 3) := by decide +kernel
theorem dX30_strays_4 : decode cX30_strays 4 = .ok (.ireturn, 1) := by decide +kernel
theorem dX30_twices_0 : decode cX30_twices 0 = .ok (.aload_n 0, 1) := by decide +kernel
theorem dX30_twices_1 : decode cX30_twices 1 = .ok (.getfield 1387, 3) := by decide +kernel
theorem dX30_twices_4 : decode cX30_twices 4 = .ok (.ireturn, 1) := by decide +kernel
set_option maxHeartbeats 4000000 in
set_option maxRecDepth 100000 in
/-- about of a fresh reference -/
theorem k_Mabout (l : Launch) (D : va_G) (K : KS) (h0 q1 q2 q3 q4 q5 q6 q7 q9 q10 q11 q12 q13 q14 q15 q16 q17 q18 q19 q20 q21 q22 q23 q24 q25 q26 q27 q28 q29 q30 q31 q32 q33 q34 q35 q36 q37 q38 q39 q40 q41 q42 q43 q44 q45 q46 q47 q48 q49 : Nat) (n : Int32) : Con l D K yX30_about cX30_about 2 (some .int) 0 0 0 0 [.ref h0, .int n] [(h0, .inr (13, [.ref q1, .int 0, .int 0, .int 0, .int 0, .ref q2, .ref q3, .ref q4, .ref q5, .int 0, .int 0, .int 0, .ref q6, .ref q7, .ref q9, .null, .null, .ref q10, .ref q11, .int 0, .ref q12, .ref q13, .ref q14, .int 0, .ref q15, .null, .ref q16, .null, .null, .int 0, .ref q17, .ref q18, .int 0, .ref q19, .ref q20, .ref q21, .ref q22, .int 0, .ref q23, .ref q24, .ref q25, .ref q26, .null, .ref q27, .int (-1), .int (-1), .int (-1), .ref q28, .ref q29, .ref q30, .ref q31, .ref q32, .ref q33, .ref q34, .ref q35, .int 0, .int 0, .long 0, .ref q36, .int 0, .int 0, .int 0, .int 0, .int 0, .ref q37, .int 0, .ref q38, .ref q39, .int 0, .int 0, .int 0, .int 0, .int 0, .int 0, .int 0, .ref q40, .ref q41, .int 0, .int 0, .int 0, .int 0, .int 0, .int 0, .int 0, .ref q42, .int 0, .int 0, .ref q43, .ref q44, .ref q45, .ref q46, .ref q47, .ref q48, .int 0, .ref q49]))] (fun v _ => v = some (.int (-1))) := by
  refine Con.of (by decide +kernel) (Nat.le_of_ble_eq_true rfl) ?_
  intro X hXl hXD hXK C hR hQ hnm
  subst hXl; subst hXD; subst hXK
  refine g_lv (l2 := [(0, .ref h0), (1, .int n)]) [0, 1] rfl ?_
  refine g_aload_n (z := 1) C dX30_about_0 0 rfl rfl rfl ?_
  refine g_get (z := 4) C kX30 dX30_about_1 0 rfl 78 (by decide) w_482 rfl rfl rfl ?_
  refine g_if_ne_f (z := 7) 9 C dX30_about_4 (by decide) (by decide) rfl ?_
  refine g_iconst (v := (-1)) (z := 8) C dX30_about_7 (by decide) rfl ?_
  exact g_iret C hQ dX30_about_8 rfl (Nat.le_of_ble_eq_true rfl) (Nat.le_of_ble_eq_true rfl) rfl
set_option maxHeartbeats 4000000 in
set_option maxRecDepth 100000 in
/-- size of a fresh reference -/
theorem k_Msize (l : Launch) (D : va_G) (K : KS) (h0 q1 q2 q3 q4 q5 q6 q7 q9 q10 q11 q12 q13 q14 q15 q16 q17 q18 q19 q20 q21 q22 q23 q24 q25 q26 q27 q28 q29 q30 q31 q32 q33 q34 q35 q36 q37 q38 q39 q40 q41 q42 q43 q44 q45 q46 q47 q48 q49 : Nat) (n : Int32) : Con l D K yX30_size cX30_size 2 (some .int) 0 0 0 0 [.ref h0, .int n] [(h0, .inr (13, [.ref q1, .int 0, .int 0, .int 0, .int 0, .ref q2, .ref q3, .ref q4, .ref q5, .int 0, .int 0, .int 0, .ref q6, .ref q7, .ref q9, .null, .null, .ref q10, .ref q11, .int 0, .ref q12, .ref q13, .ref q14, .int 0, .ref q15, .null, .ref q16, .null, .null, .int 0, .ref q17, .ref q18, .int 0, .ref q19, .ref q20, .ref q21, .ref q22, .int 0, .ref q23, .ref q24, .ref q25, .ref q26, .null, .ref q27, .int (-1), .int (-1), .int (-1), .ref q28, .ref q29, .ref q30, .ref q31, .ref q32, .ref q33, .ref q34, .ref q35, .int 0, .int 0, .long 0, .ref q36, .int 0, .int 0, .int 0, .int 0, .int 0, .ref q37, .int 0, .ref q38, .ref q39, .int 0, .int 0, .int 0, .int 0, .int 0, .int 0, .int 0, .ref q40, .ref q41, .int 0, .int 0, .int 0, .int 0, .int 0, .int 0, .int 0, .ref q42, .int 0, .int 0, .ref q43, .ref q44, .ref q45, .ref q46, .ref q47, .ref q48, .int 0, .ref q49]))] (fun v _ => v = some (.int (-1))) := by
  refine Con.of (by decide +kernel) (Nat.le_of_ble_eq_true rfl) ?_
  intro X hXl hXD hXK C hR hQ hnm
  subst hXl; subst hXD; subst hXK
  refine g_lv (l2 := [(0, .ref h0), (1, .int n)]) [0, 1] rfl ?_
  refine g_aload_n (z := 1) C dX30_size_0 0 rfl rfl rfl ?_
  refine g_get (z := 4) C kX30 dX30_size_1 0 rfl 42 (by decide) w_481 rfl rfl rfl ?_
  refine g_nullN (z := 24) C dX30_size_4 (by decide) ?_
  refine g_iconst (v := (-1)) (z := 25) C dX30_size_24 (by decide) rfl ?_
  refine g_goto (z := 45) C dX30_size_25 (by decide) ?_
  exact g_iret C hQ dX30_size_45 rfl (Nat.le_of_ble_eq_true rfl) (Nat.le_of_ble_eq_true rfl) rfl
set_option maxHeartbeats 4000000 in
set_option maxRecDepth 100000 in
/-- place of a fresh reference -/
theorem k_Mplace (l : Launch) (D : va_G) (K : KS) (h0 q1 q2 q3 q4 q5 q6 q7 q9 q10 q11 q12 q13 q14 q15 q16 q17 q18 q19 q20 q21 q22 q23 q24 q25 q26 q27 q28 q29 q30 q31 q32 q33 q34 q35 q36 q37 q38 q39 q40 q41 q42 q43 q44 q45 q46 q47 q48 q49 : Nat) (n m : Int32) : Con l D K yX30_place_ cX30_place_ 4 (some .int) 0 0 0 0 [.ref h0, .int n, .int m] [(h0, .inr (13, [.ref q1, .int 0, .int 0, .int 0, .int 0, .ref q2, .ref q3, .ref q4, .ref q5, .int 0, .int 0, .int 0, .ref q6, .ref q7, .ref q9, .null, .null, .ref q10, .ref q11, .int 0, .ref q12, .ref q13, .ref q14, .int 0, .ref q15, .null, .ref q16, .null, .null, .int 0, .ref q17, .ref q18, .int 0, .ref q19, .ref q20, .ref q21, .ref q22, .int 0, .ref q23, .ref q24, .ref q25, .ref q26, .null, .ref q27, .int (-1), .int (-1), .int (-1), .ref q28, .ref q29, .ref q30, .ref q31, .ref q32, .ref q33, .ref q34, .ref q35, .int 0, .int 0, .long 0, .ref q36, .int 0, .int 0, .int 0, .int 0, .int 0, .ref q37, .int 0, .ref q38, .ref q39, .int 0, .int 0, .int 0, .int 0, .int 0, .int 0, .int 0, .ref q40, .ref q41, .int 0, .int 0, .int 0, .int 0, .int 0, .int 0, .int 0, .ref q42, .int 0, .int 0, .ref q43, .ref q44, .ref q45, .ref q46, .ref q47, .ref q48, .int 0, .ref q49]))] (fun v _ => v = some (.int (-1))) := by
  refine Con.of (by decide +kernel) (Nat.le_of_ble_eq_true rfl) ?_
  intro X hXl hXD hXK C hR hQ hnm
  subst hXl; subst hXD; subst hXK
  refine g_lv (l2 := [(0, .ref h0), (1, .int n), (2, .int m)]) [0, 1, 2] rfl ?_
  refine g_aload_n (z := 1) C dX30_place__0 0 rfl rfl rfl ?_
  refine g_get (z := 4) C kX30 dX30_place__1 0 rfl 42 (by decide) w_481 rfl rfl rfl ?_
  refine g_nullN (z := 24) C dX30_place__4 (by decide) ?_
  refine g_iconst (v := (-1)) (z := 25) C dX30_place__24 (by decide) rfl ?_
  exact g_iret C hQ dX30_place__25 rfl (Nat.le_of_ble_eq_true rfl) (Nat.le_of_ble_eq_true rfl) rfl
set_option maxHeartbeats 4000000 in
set_option maxRecDepth 100000 in
/-- loan of a fresh reference -/
theorem k_Mloan (l : Launch) (D : va_G) (K : KS) (h0 q1 q2 q3 q4 q5 q6 q7 q9 q10 q11 q12 q13 q14 q15 q16 q17 q18 q19 q20 q21 q22 q23 q24 q25 q26 q27 q28 q29 q30 q31 q32 q33 q34 q35 q36 q37 q38 q39 q40 q41 q42 q43 q44 q45 q46 q47 q48 q49 : Nat) (n m : Int32) : Con l D K yX30_loan cX30_loan 4 (some .int) 0 0 0 0 [.ref h0, .int n, .int m] [(h0, .inr (13, [.ref q1, .int 0, .int 0, .int 0, .int 0, .ref q2, .ref q3, .ref q4, .ref q5, .int 0, .int 0, .int 0, .ref q6, .ref q7, .ref q9, .null, .null, .ref q10, .ref q11, .int 0, .ref q12, .ref q13, .ref q14, .int 0, .ref q15, .null, .ref q16, .null, .null, .int 0, .ref q17, .ref q18, .int 0, .ref q19, .ref q20, .ref q21, .ref q22, .int 0, .ref q23, .ref q24, .ref q25, .ref q26, .null, .ref q27, .int (-1), .int (-1), .int (-1), .ref q28, .ref q29, .ref q30, .ref q31, .ref q32, .ref q33, .ref q34, .ref q35, .int 0, .int 0, .long 0, .ref q36, .int 0, .int 0, .int 0, .int 0, .int 0, .ref q37, .int 0, .ref q38, .ref q39, .int 0, .int 0, .int 0, .int 0, .int 0, .int 0, .int 0, .ref q40, .ref q41, .int 0, .int 0, .int 0, .int 0, .int 0, .int 0, .int 0, .ref q42, .int 0, .int 0, .ref q43, .ref q44, .ref q45, .ref q46, .ref q47, .ref q48, .int 0, .ref q49]))] (fun v _ => v = some (.int (-1))) := by
  refine Con.of (by decide +kernel) (Nat.le_of_ble_eq_true rfl) ?_
  intro X hXl hXD hXK C hR hQ hnm
  subst hXl; subst hXD; subst hXK
  refine g_lv (l2 := [(0, .ref h0), (1, .int n), (2, .int m)]) [0, 1, 2] rfl ?_
  refine g_aload_n (z := 1) C dX30_loan_0 0 rfl rfl rfl ?_
  refine g_get (z := 4) C kX30 dX30_loan_1 0 rfl 42 (by decide) w_481 rfl rfl rfl ?_
  refine g_nullN (z := 24) C dX30_loan_4 (by decide) ?_
  refine g_iconst (v := (-1)) (z := 25) C dX30_loan_24 (by decide) rfl ?_
  exact g_iret C hQ dX30_loan_25 rfl (Nat.le_of_ble_eq_true rfl) (Nat.le_of_ble_eq_true rfl) rfl
set_option maxHeartbeats 4000000 in
set_option maxRecDepth 100000 in
/-- force of a fresh reference -/
theorem k_Mforce (l : Launch) (D : va_G) (K : KS) (h0 q1 q2 q3 q4 q5 q6 q7 q9 q10 q11 q12 q13 q14 q15 q16 q17 q18 q19 q20 q21 q22 q23 q24 q25 q26 q27 q28 q29 q30 q31 q32 q33 q34 q35 q36 q37 q38 q39 q40 q41 q42 q43 q44 q45 q46 q47 q48 q49 : Nat) (n m : Int32) : Con l D K yX30_force cX30_force 3 (some .int) 0 0 0 0 [.ref h0, .int n, .int m] [(h0, .inr (13, [.ref q1, .int 0, .int 0, .int 0, .int 0, .ref q2, .ref q3, .ref q4, .ref q5, .int 0, .int 0, .int 0, .ref q6, .ref q7, .ref q9, .null, .null, .ref q10, .ref q11, .int 0, .ref q12, .ref q13, .ref q14, .int 0, .ref q15, .null, .ref q16, .null, .null, .int 0, .ref q17, .ref q18, .int 0, .ref q19, .ref q20, .ref q21, .ref q22, .int 0, .ref q23, .ref q24, .ref q25, .ref q26, .null, .ref q27, .int (-1), .int (-1), .int (-1), .ref q28, .ref q29, .ref q30, .ref q31, .ref q32, .ref q33, .ref q34, .ref q35, .int 0, .int 0, .long 0, .ref q36, .int 0, .int 0, .int 0, .int 0, .int 0, .ref q37, .int 0, .ref q38, .ref q39, .int 0, .int 0, .int 0, .int 0, .int 0, .int 0, .int 0, .ref q40, .ref q41, .int 0, .int 0, .int 0, .int 0, .int 0, .int 0, .int 0, .ref q42, .int 0, .int 0, .ref q43, .ref q44, .ref q45, .ref q46, .ref q47, .ref q48, .int 0, .ref q49]))] (fun v _ => v = some (.int (-1))) := by
  refine Con.of (by decide +kernel) (Nat.le_of_ble_eq_true rfl) ?_
  intro X hXl hXD hXK C hR hQ hnm
  subst hXl; subst hXD; subst hXK
  refine g_lv (l2 := [(0, .ref h0), (1, .int n), (2, .int m)]) [0, 1, 2] rfl ?_
  refine g_aload_n (z := 1) C dX30_force_0 0 rfl rfl rfl ?_
  refine g_get (z := 4) C kX30 dX30_force_1 0 rfl 42 (by decide) w_481 rfl rfl rfl ?_
  refine g_nullN (z := 41) C dX30_force_4 (by decide) ?_
  refine g_iconst (v := (-1)) (z := 42) C dX30_force_41 (by decide) rfl ?_
  exact g_iret C hQ dX30_force_42 rfl (Nat.le_of_ble_eq_true rfl) (Nat.le_of_ble_eq_true rfl) rfl
set_option maxHeartbeats 4000000 in
set_option maxRecDepth 100000 in
/-- function of a fresh reference -/
theorem k_Mfunction (l : Launch) (D : va_G) (K : KS) (h0 q1 q2 q3 q4 q5 q6 q7 q9 q10 q11 q12 q13 q14 q15 q16 q17 q18 q19 q20 q21 q22 q23 q24 q25 q26 q27 q28 q29 q30 q31 q32 q33 q34 q35 q36 q37 q38 q39 q40 q41 q42 q43 q44 q45 q46 q47 q48 q49 : Nat) (n m : Int32) : Con l D K yX30_function cX30_function 4 (some .int) 0 0 0 0 [.ref h0, .int n, .int m] [(h0, .inr (13, [.ref q1, .int 0, .int 0, .int 0, .int 0, .ref q2, .ref q3, .ref q4, .ref q5, .int 0, .int 0, .int 0, .ref q6, .ref q7, .ref q9, .null, .null, .ref q10, .ref q11, .int 0, .ref q12, .ref q13, .ref q14, .int 0, .ref q15, .null, .ref q16, .null, .null, .int 0, .ref q17, .ref q18, .int 0, .ref q19, .ref q20, .ref q21, .ref q22, .int 0, .ref q23, .ref q24, .ref q25, .ref q26, .null, .ref q27, .int (-1), .int (-1), .int (-1), .ref q28, .ref q29, .ref q30, .ref q31, .ref q32, .ref q33, .ref q34, .ref q35, .int 0, .int 0, .long 0, .ref q36, .int 0, .int 0, .int 0, .int 0, .int 0, .ref q37, .int 0, .ref q38, .ref q39, .int 0, .int 0, .int 0, .int 0, .int 0, .int 0, .int 0, .ref q40, .ref q41, .int 0, .int 0, .int 0, .int 0, .int 0, .int 0, .int 0, .ref q42, .int 0, .int 0, .ref q43, .ref q44, .ref q45, .ref q46, .ref q47, .ref q48, .int 0, .ref q49]))] (fun v _ => v = some (.int (-1))) := by
  refine Con.of (by decide +kernel) (Nat.le_of_ble_eq_true rfl) ?_
  intro X hXl hXD hXK C hR hQ hnm
  subst hXl; subst hXD; subst hXK
  refine g_lv (l2 := [(0, .ref h0), (1, .int n), (2, .int m)]) [0, 1, 2] rfl ?_
  refine g_aload_n (z := 1) C dX30_function_0 0 rfl rfl rfl ?_
  refine g_get (z := 4) C kX30 dX30_function_1 0 rfl 42 (by decide) w_481 rfl rfl rfl ?_
  refine g_nullN (z := 24) C dX30_function_4 (by decide) ?_
  refine g_iconst (v := (-1)) (z := 25) C dX30_function_24 (by decide) rfl ?_
  exact g_iret C hQ dX30_function_25 rfl (Nat.le_of_ble_eq_true rfl) (Nat.le_of_ble_eq_true rfl) rfl
set_option maxHeartbeats 4000000 in
set_option maxRecDepth 100000 in
/-- out of a fresh reference -/
theorem k_Mout (l : Launch) (D : va_G) (K : KS) (h0 q1 q2 q3 q4 q5 q6 q7 q9 q10 q11 q12 q13 q14 q15 q16 q17 q18 q19 q20 q21 q22 q23 q24 q25 q26 q27 q28 q29 q30 q31 q32 q33 q34 q35 q36 q37 q38 q39 q40 q41 q42 q43 q44 q45 q46 q47 q48 q49 : Nat) (n m : Int32) : Con l D K yX30_out_ cX30_out_ 3 (some .long) 0 0 0 0 [.ref h0, .int n, .int m] [(h0, .inr (13, [.ref q1, .int 0, .int 0, .int 0, .int 0, .ref q2, .ref q3, .ref q4, .ref q5, .int 0, .int 0, .int 0, .ref q6, .ref q7, .ref q9, .null, .null, .ref q10, .ref q11, .int 0, .ref q12, .ref q13, .ref q14, .int 0, .ref q15, .null, .ref q16, .null, .null, .int 0, .ref q17, .ref q18, .int 0, .ref q19, .ref q20, .ref q21, .ref q22, .int 0, .ref q23, .ref q24, .ref q25, .ref q26, .null, .ref q27, .int (-1), .int (-1), .int (-1), .ref q28, .ref q29, .ref q30, .ref q31, .ref q32, .ref q33, .ref q34, .ref q35, .int 0, .int 0, .long 0, .ref q36, .int 0, .int 0, .int 0, .int 0, .int 0, .ref q37, .int 0, .ref q38, .ref q39, .int 0, .int 0, .int 0, .int 0, .int 0, .int 0, .int 0, .ref q40, .ref q41, .int 0, .int 0, .int 0, .int 0, .int 0, .int 0, .int 0, .ref q42, .int 0, .int 0, .ref q43, .ref q44, .ref q45, .ref q46, .ref q47, .ref q48, .int 0, .ref q49]))] (fun v _ => v = some (.long 0)) := by
  refine Con.of (by decide +kernel) (Nat.le_of_ble_eq_true rfl) ?_
  intro X hXl hXD hXK C hR hQ hnm
  subst hXl; subst hXD; subst hXK
  refine g_lv (l2 := [(0, .ref h0), (1, .int n), (2, .int m)]) [0, 1, 2] rfl ?_
  refine g_aload_n (z := 1) C dX30_out__0 0 rfl rfl rfl ?_
  refine g_get (z := 4) C kX30 dX30_out__1 0 rfl 78 (by decide) w_482 rfl rfl rfl ?_
  refine g_if_eq_t (z := 28) C dX30_out__4 (by decide) (by decide) ?_
  refine g_lconst (v := 0) (z := 29) C dX30_out__28 (by decide) rfl ?_
  exact g_lret C hQ dX30_out__29 (Nat.le_of_ble_eq_true rfl) (Nat.le_of_ble_eq_true rfl) rfl
set_option maxHeartbeats 4000000 in
set_option maxRecDepth 100000 in
/-- strays of a fresh reference -/
theorem k_Mstrays (l : Launch) (D : va_G) (K : KS) (h0 q1 q2 q3 q4 q5 q6 q7 q9 q10 q11 q12 q13 q14 q15 q16 q17 q18 q19 q20 q21 q22 q23 q24 q25 q26 q27 q28 q29 q30 q31 q32 q33 q34 q35 q36 q37 q38 q39 q40 q41 q42 q43 q44 q45 q46 q47 q48 q49 : Nat)  : Con l D K yX30_strays cX30_strays 1 (some .int) 0 0 0 0 [.ref h0] [(h0, .inr (13, [.ref q1, .int 0, .int 0, .int 0, .int 0, .ref q2, .ref q3, .ref q4, .ref q5, .int 0, .int 0, .int 0, .ref q6, .ref q7, .ref q9, .null, .null, .ref q10, .ref q11, .int 0, .ref q12, .ref q13, .ref q14, .int 0, .ref q15, .null, .ref q16, .null, .null, .int 0, .ref q17, .ref q18, .int 0, .ref q19, .ref q20, .ref q21, .ref q22, .int 0, .ref q23, .ref q24, .ref q25, .ref q26, .null, .ref q27, .int (-1), .int (-1), .int (-1), .ref q28, .ref q29, .ref q30, .ref q31, .ref q32, .ref q33, .ref q34, .ref q35, .int 0, .int 0, .long 0, .ref q36, .int 0, .int 0, .int 0, .int 0, .int 0, .ref q37, .int 0, .ref q38, .ref q39, .int 0, .int 0, .int 0, .int 0, .int 0, .int 0, .int 0, .ref q40, .ref q41, .int 0, .int 0, .int 0, .int 0, .int 0, .int 0, .int 0, .ref q42, .int 0, .int 0, .ref q43, .ref q44, .ref q45, .ref q46, .ref q47, .ref q48, .int 0, .ref q49]))] (fun v _ => v = some (.int 0)) := by
  refine Con.of (by decide +kernel) (Nat.le_of_ble_eq_true rfl) ?_
  intro X hXl hXD hXK C hR hQ hnm
  subst hXl; subst hXD; subst hXK
  refine g_lv (l2 := [(0, .ref h0)]) [0] rfl ?_
  refine g_aload_n (z := 1) C dX30_strays_0 0 rfl rfl rfl ?_
  refine g_get (z := 4) C kX30 dX30_strays_1 0 rfl 60 (by decide) w_583 rfl rfl rfl ?_
  exact g_iret C hQ dX30_strays_4 rfl (Nat.le_of_ble_eq_true rfl) (Nat.le_of_ble_eq_true rfl) rfl
set_option maxHeartbeats 4000000 in
set_option maxRecDepth 100000 in
/-- twices of a fresh reference -/
theorem k_Mtwices (l : Launch) (D : va_G) (K : KS) (h0 q1 q2 q3 q4 q5 q6 q7 q9 q10 q11 q12 q13 q14 q15 q16 q17 q18 q19 q20 q21 q22 q23 q24 q25 q26 q27 q28 q29 q30 q31 q32 q33 q34 q35 q36 q37 q38 q39 q40 q41 q42 q43 q44 q45 q46 q47 q48 q49 : Nat)  : Con l D K yX30_twices cX30_twices 1 (some .int) 0 0 0 0 [.ref h0] [(h0, .inr (13, [.ref q1, .int 0, .int 0, .int 0, .int 0, .ref q2, .ref q3, .ref q4, .ref q5, .int 0, .int 0, .int 0, .ref q6, .ref q7, .ref q9, .null, .null, .ref q10, .ref q11, .int 0, .ref q12, .ref q13, .ref q14, .int 0, .ref q15, .null, .ref q16, .null, .null, .int 0, .ref q17, .ref q18, .int 0, .ref q19, .ref q20, .ref q21, .ref q22, .int 0, .ref q23, .ref q24, .ref q25, .ref q26, .null, .ref q27, .int (-1), .int (-1), .int (-1), .ref q28, .ref q29, .ref q30, .ref q31, .ref q32, .ref q33, .ref q34, .ref q35, .int 0, .int 0, .long 0, .ref q36, .int 0, .int 0, .int 0, .int 0, .int 0, .ref q37, .int 0, .ref q38, .ref q39, .int 0, .int 0, .int 0, .int 0, .int 0, .int 0, .int 0, .ref q40, .ref q41, .int 0, .int 0, .int 0, .int 0, .int 0, .int 0, .int 0, .ref q42, .int 0, .int 0, .ref q43, .ref q44, .ref q45, .ref q46, .ref q47, .ref q48, .int 0, .ref q49]))] (fun v _ => v = some (.int 0)) := by
  refine Con.of (by decide +kernel) (Nat.le_of_ble_eq_true rfl) ?_
  intro X hXl hXD hXK C hR hQ hnm
  subst hXl; subst hXD; subst hXK
  refine g_lv (l2 := [(0, .ref h0)]) [0] rfl ?_
  refine g_aload_n (z := 1) C dX30_twices_0 0 rfl rfl rfl ?_
  refine g_get (z := 4) C kX30 dX30_twices_1 0 rfl 61 (by decide) w_584 rfl rfl rfl ?_
  exact g_iret C hQ dX30_twices_4 rfl (Nat.le_of_ble_eq_true rfl) (Nat.le_of_ble_eq_true rfl) rfl
set_option maxHeartbeats 4000000 in
set_option maxRecDepth 100000 in
/-- lefts of a fresh reference -/
theorem k_Mlefts (l : Launch) (D : va_G) (K : KS) (h0 q1 q2 q3 q4 q5 q6 q7 q9 q10 q11 q12 q13 q14 q15 q16 q17 q18 q19 q20 q21 q22 q23 q24 q25 q26 q27 q28 q29 q30 q31 q32 q33 q34 q35 q36 q37 q38 q39 q40 q41 q42 q43 q44 q45 q46 q47 q48 q49 : Nat)  : Con l D K yX30_lefts cX30_lefts 1 (some .int) 0 0 0 0 [.ref h0] [(h0, .inr (13, [.ref q1, .int 0, .int 0, .int 0, .int 0, .ref q2, .ref q3, .ref q4, .ref q5, .int 0, .int 0, .int 0, .ref q6, .ref q7, .ref q9, .null, .null, .ref q10, .ref q11, .int 0, .ref q12, .ref q13, .ref q14, .int 0, .ref q15, .null, .ref q16, .null, .null, .int 0, .ref q17, .ref q18, .int 0, .ref q19, .ref q20, .ref q21, .ref q22, .int 0, .ref q23, .ref q24, .ref q25, .ref q26, .null, .ref q27, .int (-1), .int (-1), .int (-1), .ref q28, .ref q29, .ref q30, .ref q31, .ref q32, .ref q33, .ref q34, .ref q35, .int 0, .int 0, .long 0, .ref q36, .int 0, .int 0, .int 0, .int 0, .int 0, .ref q37, .int 0, .ref q38, .ref q39, .int 0, .int 0, .int 0, .int 0, .int 0, .int 0, .int 0, .ref q40, .ref q41, .int 0, .int 0, .int 0, .int 0, .int 0, .int 0, .int 0, .ref q42, .int 0, .int 0, .ref q43, .ref q44, .ref q45, .ref q46, .ref q47, .ref q48, .int 0, .ref q49]))] (fun v _ => v = some (.int 0)) := by
  refine Con.of (by decide +kernel) (Nat.le_of_ble_eq_true rfl) ?_
  intro X hXl hXD hXK C hR hQ hnm
  subst hXl; subst hXD; subst hXK
  refine g_lv (l2 := [(0, .ref h0)]) [0] rfl ?_
  refine g_aload_n (z := 1) C dX30_lefts_0 0 rfl rfl rfl ?_
  refine g_get (z := 4) C kX30 dX30_lefts_1 0 rfl 63 (by decide) w_586 rfl rfl rfl ?_
  exact g_iret C hQ dX30_lefts_4 rfl (Nat.le_of_ble_eq_true rfl) (Nat.le_of_ble_eq_true rfl) rfl
set_option maxHeartbeats 4000000 in
set_option maxRecDepth 100000 in
/-- clashes of a fresh reference -/
theorem k_Mclashes (l : Launch) (D : va_G) (K : KS) (h0 q1 q2 q3 q4 q5 q6 q7 q9 q10 q11 q12 q13 q14 q15 q16 q17 q18 q19 q20 q21 q22 q23 q24 q25 q26 q27 q28 q29 q30 q31 q32 q33 q34 q35 q36 q37 q38 q39 q40 q41 q42 q43 q44 q45 q46 q47 q48 q49 : Nat)  : Con l D K yX30_clashes_ cX30_clashes_ 1 (some .int) 0 0 0 0 [.ref h0] [(h0, .inr (13, [.ref q1, .int 0, .int 0, .int 0, .int 0, .ref q2, .ref q3, .ref q4, .ref q5, .int 0, .int 0, .int 0, .ref q6, .ref q7, .ref q9, .null, .null, .ref q10, .ref q11, .int 0, .ref q12, .ref q13, .ref q14, .int 0, .ref q15, .null, .ref q16, .null, .null, .int 0, .ref q17, .ref q18, .int 0, .ref q19, .ref q20, .ref q21, .ref q22, .int 0, .ref q23, .ref q24, .ref q25, .ref q26, .null, .ref q27, .int (-1), .int (-1), .int (-1), .ref q28, .ref q29, .ref q30, .ref q31, .ref q32, .ref q33, .ref q34, .ref q35, .int 0, .int 0, .long 0, .ref q36, .int 0, .int 0, .int 0, .int 0, .int 0, .ref q37, .int 0, .ref q38, .ref q39, .int 0, .int 0, .int 0, .int 0, .int 0, .int 0, .int 0, .ref q40, .ref q41, .int 0, .int 0, .int 0, .int 0, .int 0, .int 0, .int 0, .ref q42, .int 0, .int 0, .ref q43, .ref q44, .ref q45, .ref q46, .ref q47, .ref q48, .int 0, .ref q49]))] (fun v _ => v = some (.int 0)) := by
  refine Con.of (by decide +kernel) (Nat.le_of_ble_eq_true rfl) ?_
  intro X hXl hXD hXK C hR hQ hnm
  subst hXl; subst hXD; subst hXK
  refine g_lv (l2 := [(0, .ref h0)]) [0] rfl ?_
  refine g_aload_n (z := 1) C dX30_clashes__0 0 rfl rfl rfl ?_
  refine g_get (z := 4) C kX30 dX30_clashes__1 0 rfl 62 (by decide) w_585 rfl rfl rfl ?_
  exact g_iret C hQ dX30_clashes__4 rfl (Nat.le_of_ble_eq_true rfl) (Nat.le_of_ble_eq_true rfl) rfl
set_option maxHeartbeats 4000000 in
set_option maxRecDepth 100000 in
/-- run of a fresh reference -/
theorem k_Mrun (l : Launch) (D : va_G) (K : KS) (h0 q1 q2 q3 q4 q5 q6 q7 q9 q10 q11 q12 q13 q14 q15 q16 q17 q18 q19 q20 q21 q22 q23 q24 q25 q26 q27 q28 q29 q30 q31 q32 q33 q34 q35 q36 q37 q38 q39 q40 q41 q42 q43 q44 q45 q46 q47 q48 q49 : Nat) (n : Int32) : Con l D K yX30_run cX30_run 4 (some .int) 0 0 0 0 [.ref h0, .int n] [(h0, .inr (13, [.ref q1, .int 0, .int 0, .int 0, .int 0, .ref q2, .ref q3, .ref q4, .ref q5, .int 0, .int 0, .int 0, .ref q6, .ref q7, .ref q9, .null, .null, .ref q10, .ref q11, .int 0, .ref q12, .ref q13, .ref q14, .int 0, .ref q15, .null, .ref q16, .null, .null, .int 0, .ref q17, .ref q18, .int 0, .ref q19, .ref q20, .ref q21, .ref q22, .int 0, .ref q23, .ref q24, .ref q25, .ref q26, .null, .ref q27, .int (-1), .int (-1), .int (-1), .ref q28, .ref q29, .ref q30, .ref q31, .ref q32, .ref q33, .ref q34, .ref q35, .int 0, .int 0, .long 0, .ref q36, .int 0, .int 0, .int 0, .int 0, .int 0, .ref q37, .int 0, .ref q38, .ref q39, .int 0, .int 0, .int 0, .int 0, .int 0, .int 0, .int 0, .ref q40, .ref q41, .int 0, .int 0, .int 0, .int 0, .int 0, .int 0, .int 0, .ref q42, .int 0, .int 0, .ref q43, .ref q44, .ref q45, .ref q46, .ref q47, .ref q48, .int 0, .ref q49]))] (fun v _ => v = some (.int (-1))) := by
  refine Con.of (by decide +kernel) (Nat.le_of_ble_eq_true rfl) ?_
  intro X hXl hXD hXK C hR hQ hnm
  subst hXl; subst hXD; subst hXK
  refine g_lv (l2 := [(0, .ref h0), (1, .int n)]) [0, 1] rfl ?_
  refine g_iload_n (z := 1) C dX30_run_0 1 rfl rfl rfl ?_
  refine g_iconst (v := 1) (z := 2) C dX30_run_1 (by decide) rfl ?_
  refine g_icmp_lt (z2 := 19) (z := 5) C dX30_run_2 (by decide) rfl (fun u1 => ?_) (fun u1 => ?_)
  · refine g_iconst (v := (-1)) (z := 20) C dX30_run_19 (by decide) rfl ?_
    exact g_iret C hQ dX30_run_20 rfl (Nat.le_of_ble_eq_true rfl) (Nat.le_of_ble_eq_true rfl) rfl
  · refine g_iload_n (z := 6) C dX30_run_5 1 rfl rfl rfl ?_
    refine g_ldcw (v := 50000) (z := 9) C dX30_run_6 w_578 rfl ?_
    refine g_icmp_gt (z2 := 19) (z := 12) C dX30_run_9 (by decide) rfl (fun u2 => ?_) (fun u2 => ?_)
    · refine g_iconst (v := (-1)) (z := 20) C dX30_run_19 (by decide) rfl ?_
      exact g_iret C hQ dX30_run_20 rfl (Nat.le_of_ble_eq_true rfl) (Nat.le_of_ble_eq_true rfl) rfl
    · refine g_aload_n (z := 13) C dX30_run_12 0 rfl rfl rfl ?_
      refine g_get (z := 16) C kX30 dX30_run_13 0 rfl 42 (by decide) w_481 rfl rfl rfl ?_
      refine g_nonnullN (z := 19) C dX30_run_16 rfl ?_
      refine g_iconst (v := (-1)) (z := 20) C dX30_run_19 (by decide) rfl ?_
      exact g_iret C hQ dX30_run_20 rfl (Nat.le_of_ble_eq_true rfl) (Nat.le_of_ble_eq_true rfl) rfl
set_option maxHeartbeats 4000000 in
set_option maxRecDepth 100000 in
/-- count of a fresh reference -/
theorem k_Mcount (l : Launch) (D : va_G) (K : KS) (h0 q1 q2 q3 q4 q5 q6 q7 q9 q10 q11 q12 q13 q14 q15 q16 q17 q18 q19 q20 q21 q22 q23 q24 q25 q26 q27 q28 q29 q30 q31 q32 q33 q34 q35 q36 q37 q38 q39 q40 q41 q42 q43 q44 q45 q46 q47 q48 q49 : Nat) (n : Int32) : Con l D K yX30_count cX30_count 2 (some .int) 0 0 0 0 [.ref h0, .int n] [(h0, .inr (13, [.ref q1, .int 0, .int 0, .int 0, .int 0, .ref q2, .ref q3, .ref q4, .ref q5, .int 0, .int 0, .int 0, .ref q6, .ref q7, .ref q9, .null, .null, .ref q10, .ref q11, .int 0, .ref q12, .ref q13, .ref q14, .int 0, .ref q15, .null, .ref q16, .null, .null, .int 0, .ref q17, .ref q18, .int 0, .ref q19, .ref q20, .ref q21, .ref q22, .int 0, .ref q23, .ref q24, .ref q25, .ref q26, .null, .ref q27, .int (-1), .int (-1), .int (-1), .ref q28, .ref q29, .ref q30, .ref q31, .ref q32, .ref q33, .ref q34, .ref q35, .int 0, .int 0, .long 0, .ref q36, .int 0, .int 0, .int 0, .int 0, .int 0, .ref q37, .int 0, .ref q38, .ref q39, .int 0, .int 0, .int 0, .int 0, .int 0, .int 0, .int 0, .ref q40, .ref q41, .int 0, .int 0, .int 0, .int 0, .int 0, .int 0, .int 0, .ref q42, .int 0, .int 0, .ref q43, .ref q44, .ref q45, .ref q46, .ref q47, .ref q48, .int 0, .ref q49]))] (fun v _ => v = some (.int (aC n))) := by
  refine Con.of (by decide +kernel) (Nat.le_of_ble_eq_true rfl) ?_
  intro X hXl hXD hXK C hR hQ hnm
  subst hXl; subst hXD; subst hXK
  refine g_lv (l2 := [(0, .ref h0), (1, .int n)]) [0, 1] rfl ?_
  refine g_iload_n (z := 1) C dX30_count_0 1 rfl rfl rfl ?_
  refine g_if_lt (z2 := 9) (z := 4) C dX30_count_1 (by decide) rfl (fun u1 => ?_) (fun u1 => ?_)
  · refine g_iconst (v := (-1)) (z := 10) C dX30_count_9 (by decide) rfl ?_
    exact g_iret C hQ dX30_count_10 rfl (Nat.le_of_ble_eq_true rfl) (Nat.le_of_ble_eq_true rfl) (by rw [aC_neg u1])
  · refine g_iload_n (z := 5) C dX30_count_4 1 rfl rfl rfl ?_
    refine g_iconst (v := 3) (z := 6) C dX30_count_5 (by decide) rfl ?_
    refine g_icmp_le (z2 := 11) (z := 9) C dX30_count_6 (by decide) rfl (fun u2 => ?_) (fun u2 => ?_)
    · refine g_aload_n (z := 12) C dX30_count_11 0 rfl rfl rfl ?_
      refine g_get (z := 15) C kX30 dX30_count_12 0 rfl 42 (by decide) w_481 rfl rfl rfl ?_
      refine g_nonnullN (z := 18) C dX30_count_15 rfl ?_
      refine g_iconst (v := 0) (z := 19) C dX30_count_18 (by decide) rfl ?_
      exact g_iret C hQ dX30_count_19 rfl (Nat.le_of_ble_eq_true rfl) (Nat.le_of_ble_eq_true rfl) (by rw [aC_in u1 u2])
    · refine g_iconst (v := (-1)) (z := 10) C dX30_count_9 (by decide) rfl ?_
      exact g_iret C hQ dX30_count_10 rfl (Nat.le_of_ble_eq_true rfl) (Nat.le_of_ble_eq_true rfl) (by rw [aC_big u2])
set_option maxHeartbeats 4000000 in
set_option maxRecDepth 100000 in
/-- fault of a fresh reference -/
theorem k_Mfault (l : Launch) (D : va_G) (K : KS) (h0 q1 q2 q3 q4 q5 q6 q7 q9 q10 q11 q12 q13 q14 q15 q16 q17 q18 q19 q20 q21 q22 q23 q24 q25 q26 q27 q28 q29 q30 q31 q32 q33 q34 q35 q36 q37 q38 q39 q40 q41 q42 q43 q44 q45 q46 q47 q48 q49 : Nat) (n : Int32) : Con l D K yX30_fault cX30_fault 2 (some .int) 0 0 0 0 [.ref h0, .int n] [(h0, .inr (13, [.ref q1, .int 0, .int 0, .int 0, .int 0, .ref q2, .ref q3, .ref q4, .ref q5, .int 0, .int 0, .int 0, .ref q6, .ref q7, .ref q9, .null, .null, .ref q10, .ref q11, .int 0, .ref q12, .ref q13, .ref q14, .int 0, .ref q15, .null, .ref q16, .null, .null, .int 0, .ref q17, .ref q18, .int 0, .ref q19, .ref q20, .ref q21, .ref q22, .int 0, .ref q23, .ref q24, .ref q25, .ref q26, .null, .ref q27, .int (-1), .int (-1), .int (-1), .ref q28, .ref q29, .ref q30, .ref q31, .ref q32, .ref q33, .ref q34, .ref q35, .int 0, .int 0, .long 0, .ref q36, .int 0, .int 0, .int 0, .int 0, .int 0, .ref q37, .int 0, .ref q38, .ref q39, .int 0, .int 0, .int 0, .int 0, .int 0, .int 0, .int 0, .ref q40, .ref q41, .int 0, .int 0, .int 0, .int 0, .int 0, .int 0, .int 0, .ref q42, .int 0, .int 0, .ref q43, .ref q44, .ref q45, .ref q46, .ref q47, .ref q48, .int 0, .ref q49]))] (fun v _ => v = some (.int (-1))) := by
  refine Con.of (by decide +kernel) (Nat.le_of_ble_eq_true rfl) ?_
  intro X hXl hXD hXK C hR hQ hnm
  subst hXl; subst hXD; subst hXK
  refine g_lv (l2 := [(0, .ref h0), (1, .int n)]) [0, 1] rfl ?_
  refine g_iload_n (z := 1) C dX30_fault_0 1 rfl rfl rfl ?_
  refine g_if_ne (z2 := 11) (z := 4) C dX30_fault_1 (by decide) rfl (fun u1 => ?_) (fun u1 => ?_)
  · refine g_iload_n (z := 12) C dX30_fault_11 1 rfl rfl rfl ?_
    refine g_iconst (v := 1) (z := 13) C dX30_fault_12 (by decide) rfl ?_
    refine g_icmp_ne (z2 := 23) (z := 16) C dX30_fault_13 (by decide) rfl (fun u2 => ?_) (fun u2 => ?_)
    · refine g_iload_n (z := 24) C dX30_fault_23 1 rfl rfl rfl ?_
      refine g_iconst (v := 2) (z := 25) C dX30_fault_24 (by decide) rfl ?_
      refine g_icmp_ne (z2 := 35) (z := 28) C dX30_fault_25 (by decide) rfl (fun u3 => ?_) (fun u3 => ?_)
      · refine g_iconst (v := (-1)) (z := 36) C dX30_fault_35 (by decide) rfl ?_
        exact g_iret C hQ dX30_fault_36 rfl (Nat.le_of_ble_eq_true rfl) (Nat.le_of_ble_eq_true rfl) rfl
      · refine g_aload_n (z := 29) C dX30_fault_28 0 rfl rfl rfl ?_
        refine g_get (z := 32) C kX30 dX30_fault_29 0 rfl 46 (by decide) w_428 rfl rfl rfl ?_
        refine g_goto (z := 36) C dX30_fault_32 (by decide) ?_
        exact g_iret C hQ dX30_fault_36 rfl (Nat.le_of_ble_eq_true rfl) (Nat.le_of_ble_eq_true rfl) rfl
    · refine g_aload_n (z := 17) C dX30_fault_16 0 rfl rfl rfl ?_
      refine g_get (z := 20) C kX30 dX30_fault_17 0 rfl 45 (by decide) w_427 rfl rfl rfl ?_
      refine g_goto (z := 36) C dX30_fault_20 (by decide) ?_
      exact g_iret C hQ dX30_fault_36 rfl (Nat.le_of_ble_eq_true rfl) (Nat.le_of_ble_eq_true rfl) rfl
  · refine g_aload_n (z := 5) C dX30_fault_4 0 rfl rfl rfl ?_
    refine g_get (z := 8) C kX30 dX30_fault_5 0 rfl 44 (by decide) w_426 rfl rfl rfl ?_
    refine g_goto (z := 36) C dX30_fault_8 (by decide) ?_
    exact g_iret C hQ dX30_fault_36 rfl (Nat.le_of_ble_eq_true rfl) (Nat.le_of_ble_eq_true rfl) rfl
set_option maxHeartbeats 4000000 in
set_option maxRecDepth 100000 in
/-- give of a fresh reference -/
theorem k_Mgive (l : Launch) (D : va_G) (K : KS) (h0 q1 q2 q3 q4 q5 q6 q7 q9 q10 q11 q12 q13 q14 q15 q16 q17 q18 q19 q20 q21 q22 q23 q24 q25 q26 q27 q28 q29 q30 q31 q32 q33 q34 q35 q36 q37 q38 q39 q40 q41 q42 q43 q44 q45 q46 q47 q48 q49 : Nat) (n : Int64) : Con l D K yX30_give_ cX30_give_ 3 (some .int) 0 0 0 0 [.ref h0, .long n] [(h0, .inr (13, [.ref q1, .int 0, .int 0, .int 0, .int 0, .ref q2, .ref q3, .ref q4, .ref q5, .int 0, .int 0, .int 0, .ref q6, .ref q7, .ref q9, .null, .null, .ref q10, .ref q11, .int 0, .ref q12, .ref q13, .ref q14, .int 0, .ref q15, .null, .ref q16, .null, .null, .int 0, .ref q17, .ref q18, .int 0, .ref q19, .ref q20, .ref q21, .ref q22, .int 0, .ref q23, .ref q24, .ref q25, .ref q26, .null, .ref q27, .int (-1), .int (-1), .int (-1), .ref q28, .ref q29, .ref q30, .ref q31, .ref q32, .ref q33, .ref q34, .ref q35, .int 0, .int 0, .long 0, .ref q36, .int 0, .int 0, .int 0, .int 0, .int 0, .ref q37, .int 0, .ref q38, .ref q39, .int 0, .int 0, .int 0, .int 0, .int 0, .int 0, .int 0, .ref q40, .ref q41, .int 0, .int 0, .int 0, .int 0, .int 0, .int 0, .int 0, .ref q42, .int 0, .int 0, .ref q43, .ref q44, .ref q45, .ref q46, .ref q47, .ref q48, .int 0, .ref q49])), (q41, .inl (K 1, 200, .inr (.inl (fun _ => 0))))] (fun v _ => v = some (.int 1)) := by
  refine Con.of (by decide +kernel) (Nat.le_of_ble_eq_true rfl) ?_
  intro X hXl hXD hXK C hR hQ hnm
  subst hXl; subst hXD; subst hXK
  refine g_lv (l2 := [(0, .ref h0), (1, .long n)]) [0, 1] rfl ?_
  refine g_aload_n (z := 1) C dX30_give__0 0 rfl rfl rfl ?_
  refine g_get (z := 4) C kX30 dX30_give__1 0 rfl 77 (by decide) w_574 rfl rfl rfl ?_
  refine g_sipush (v := 200) (z := 7) C dX30_give__4 (by decide) rfl ?_
  refine g_icmp_ne_t (z := 12) C dX30_give__7 (by decide) (by decide) ?_
  refine g_aload_n (z := 13) C dX30_give__12 0 rfl rfl rfl ?_
  refine g_get (z := 16) C kX30 dX30_give__13 0 rfl 76 (by decide) w_443 rfl rfl rfl ?_
  refine g_aload_n (z := 17) C dX30_give__16 0 rfl rfl rfl ?_
  refine g_get (z := 20) C kX30 dX30_give__17 0 rfl 77 (by decide) w_574 rfl rfl rfl ?_
  refine g_lload_n (z := 21) C dX30_give__20 1 rfl rfl rfl ?_
  refine g_last (w2 := [(h0, .inr (13, [.ref q1, .int 0, .int 0, .int 0, .int 0, .ref q2, .ref q3, .ref q4, .ref q5, .int 0, .int 0, .int 0, .ref q6, .ref q7, .ref q9, .null, .null, .ref q10, .ref q11, .int 0, .ref q12, .ref q13, .ref q14, .int 0, .ref q15, .null, .ref q16, .null, .null, .int 0, .ref q17, .ref q18, .int 0, .ref q19, .ref q20, .ref q21, .ref q22, .int 0, .ref q23, .ref q24, .ref q25, .ref q26, .null, .ref q27, .int (-1), .int (-1), .int (-1), .ref q28, .ref q29, .ref q30, .ref q31, .ref q32, .ref q33, .ref q34, .ref q35, .int 0, .int 0, .long 0, .ref q36, .int 0, .int 0, .int 0, .int 0, .int 0, .ref q37, .int 0, .ref q38, .ref q39, .int 0, .int 0, .int 0, .int 0, .int 0, .int 0, .int 0, .ref q40, .ref q41, .int 0, .int 0, .int 0, .int 0, .int 0, .int 0, .int 0, .ref q42, .int 0, .int 0, .ref q43, .ref q44, .ref q45, .ref q46, .ref q47, .ref q48, .int 0, .ref q49])), (q41, .inl (gK X 1, 200, .inr (.inl (vp_updL (fun _ => 0) (0 : Int32).toNatClampNeg n))))]) (z := 22) C dX30_give__21 1 rfl (by unfold vp_in; decide) rfl rfl ?_
  refine g_aload_n (z := 23) C dX30_give__22 0 rfl rfl rfl ?_
  refine g_dup (z := 24) C dX30_give__23 rfl rfl ?_
  refine g_get (z := 27) C kX30 dX30_give__24 0 rfl 77 (by decide) w_574 rfl rfl rfl ?_
  refine g_iconst (v := 1) (z := 28) C dX30_give__27 (by decide) rfl ?_
  refine g_iadd (v := 1) (z := 29) C dX30_give__28 (by decide) rfl ?_
  refine g_put (w2 := [(h0, .inr (13, [.ref q1, .int 0, .int 0, .int 0, .int 0, .ref q2, .ref q3, .ref q4, .ref q5, .int 0, .int 0, .int 0, .ref q6, .ref q7, .ref q9, .null, .null, .ref q10, .ref q11, .int 0, .ref q12, .ref q13, .ref q14, .int 0, .ref q15, .null, .ref q16, .null, .null, .int 0, .ref q17, .ref q18, .int 0, .ref q19, .ref q20, .ref q21, .ref q22, .int 0, .ref q23, .ref q24, .ref q25, .ref q26, .null, .ref q27, .int (-1), .int (-1), .int (-1), .ref q28, .ref q29, .ref q30, .ref q31, .ref q32, .ref q33, .ref q34, .ref q35, .int 0, .int 0, .long 0, .ref q36, .int 0, .int 0, .int 0, .int 0, .int 0, .ref q37, .int 0, .ref q38, .ref q39, .int 0, .int 0, .int 0, .int 0, .int 0, .int 0, .int 0, .ref q40, .ref q41, .int 1, .int 0, .int 0, .int 0, .int 0, .int 0, .int 0, .ref q42, .int 0, .int 0, .ref q43, .ref q44, .ref q45, .ref q46, .ref q47, .ref q48, .int 0, .ref q49])), (q41, .inl (gK X 1, 200, .inr (.inl (vp_updL (fun _ => 0) (0 : Int32).toNatClampNeg n))))]) (z := 32) C kX30 dX30_give__29 0 rfl 77 (by decide) w_574 rfl rfl rfl rfl (Nat.le_of_ble_eq_true rfl) rfl rfl ?_
  refine g_aload_n (z := 33) C dX30_give__32 0 rfl rfl rfl ?_
  refine g_get (z := 36) C kX30 dX30_give__33 0 rfl 77 (by decide) w_574 rfl rfl rfl ?_
  exact g_iret C hQ dX30_give__36 rfl (Nat.le_of_ble_eq_true rfl) (Nat.le_of_ble_eq_true rfl) rfl
set_option maxHeartbeats 4000000 in
set_option maxRecDepth 100000 in
/-- feed of a fresh reference -/
theorem k_Mfeed (l : Launch) (D : va_G) (K : KS) (h0 q1 q2 q3 q4 q5 q6 q7 q9 q10 q11 q12 q13 q14 q15 q16 q17 q18 q19 q20 q21 q22 q23 q24 q25 q26 q27 q28 q29 q30 q31 q32 q33 q34 q35 q36 q37 q38 q39 q40 q41 q42 q43 q44 q45 q46 q47 q48 q49 : Nat) (n1 n2 n3 n4 n5 : Int32) : Con l D K yX30_feed cX30_feed 8 (some .int) 0 0 1 5 [.ref h0, .int n1, .int n2, .int n3, .int n4, .int n5] [(h0, .inr (13, [.ref q1, .int 0, .int 0, .int 0, .int 0, .ref q2, .ref q3, .ref q4, .ref q5, .int 0, .int 0, .int 0, .ref q6, .ref q7, .ref q9, .null, .null, .ref q10, .ref q11, .int 0, .ref q12, .ref q13, .ref q14, .int 0, .ref q15, .null, .ref q16, .null, .null, .int 0, .ref q17, .ref q18, .int 0, .ref q19, .ref q20, .ref q21, .ref q22, .int 0, .ref q23, .ref q24, .ref q25, .ref q26, .null, .ref q27, .int (-1), .int (-1), .int (-1), .ref q28, .ref q29, .ref q30, .ref q31, .ref q32, .ref q33, .ref q34, .ref q35, .int 0, .int 0, .long 0, .ref q36, .int 0, .int 0, .int 0, .int 0, .int 0, .ref q37, .int 0, .ref q38, .ref q39, .int 0, .int 0, .int 0, .int 0, .int 0, .int 0, .int 0, .ref q40, .ref q41, .int 0, .int 0, .int 0, .int 0, .int 0, .int 0, .int 0, .ref q42, .int 0, .int 0, .ref q43, .ref q44, .ref q45, .ref q46, .ref q47, .ref q48, .int 0, .ref q49])), (q1, .inl (K 2, 3000, .inl (fun _ => 0)))] (fun v _ => v = some (.int 20)) := by
  refine Con.of (by decide +kernel) (Nat.le_of_ble_eq_true rfl) ?_
  intro X hXl hXD hXK C hR hQ hnm
  subst hXl; subst hXD; subst hXK
  refine g_lv (l2 := [(0, .ref h0), (1, .int n1), (2, .int n2), (3, .int n3), (4, .int n4), (5, .int n5)]) [0, 1, 2, 3, 4, 5] rfl ?_
  refine g_aload_n (z := 1) C dX30_feed_0 0 rfl rfl rfl ?_
  refine g_get (z := 4) C kX30 dX30_feed_1 0 rfl 1 (by decide) w_461 rfl rfl rfl ?_
  refine g_bipush (v := 20) (z := 6) C dX30_feed_4 (by decide) rfl ?_
  refine g_iadd (v := 20) (z := 7) C dX30_feed_6 (by decide) rfl ?_
  refine g_sipush (v := 3000) (z := 10) C dX30_feed_7 (by decide) rfl ?_
  refine g_icmp_le_t (z := 15) C dX30_feed_10 (by decide) (by decide) ?_
  refine g_iconst (v := 5) (z := 16) C dX30_feed_15 (by decide) rfl ?_
  refine g_newI (N := 5) (a2 := 1) (b2 := 5) (z := 18) C hR dX30_feed_16 w_109 (by decide) (by decide) (Nat.le_of_ble_eq_true rfl) rfl rfl (Nat.le_of_ble_eq_true rfl) (Nat.le_of_ble_eq_true rfl) rfl (fun q8 => ?_)
  refine g_ws (w2 := [(h0, .inr (13, [.ref q1, .int 0, .int 0, .int 0, .int 0, .ref q2, .ref q3, .ref q4, .ref q5, .int 0, .int 0, .int 0, .ref q6, .ref q7, .ref q9, .null, .null, .ref q10, .ref q11, .int 0, .ref q12, .ref q13, .ref q14, .int 0, .ref q15, .null, .ref q16, .null, .null, .int 0, .ref q17, .ref q18, .int 0, .ref q19, .ref q20, .ref q21, .ref q22, .int 0, .ref q23, .ref q24, .ref q25, .ref q26, .null, .ref q27, .int (-1), .int (-1), .int (-1), .ref q28, .ref q29, .ref q30, .ref q31, .ref q32, .ref q33, .ref q34, .ref q35, .int 0, .int 0, .long 0, .ref q36, .int 0, .int 0, .int 0, .int 0, .int 0, .ref q37, .int 0, .ref q38, .ref q39, .int 0, .int 0, .int 0, .int 0, .int 0, .int 0, .int 0, .ref q40, .ref q41, .int 0, .int 0, .int 0, .int 0, .int 0, .int 0, .int 0, .ref q42, .int 0, .int 0, .ref q43, .ref q44, .ref q45, .ref q46, .ref q47, .ref q48, .int 0, .ref q49])), (q1, .inl (gK X 2, 3000, .inl (fun _ => 0))), (q8, .inl (gK X 0, 5, .inl (fun _ => 0)))]) rfl ?_
  refine g_dup (z := 19) C dX30_feed_18 rfl rfl ?_
  refine g_iconst (v := 0) (z := 20) C dX30_feed_19 (by decide) rfl ?_
  refine g_iload_n (z := 21) C dX30_feed_20 1 rfl rfl rfl ?_
  refine g_iast (w2 := [(h0, .inr (13, [.ref q1, .int 0, .int 0, .int 0, .int 0, .ref q2, .ref q3, .ref q4, .ref q5, .int 0, .int 0, .int 0, .ref q6, .ref q7, .ref q9, .null, .null, .ref q10, .ref q11, .int 0, .ref q12, .ref q13, .ref q14, .int 0, .ref q15, .null, .ref q16, .null, .null, .int 0, .ref q17, .ref q18, .int 0, .ref q19, .ref q20, .ref q21, .ref q22, .int 0, .ref q23, .ref q24, .ref q25, .ref q26, .null, .ref q27, .int (-1), .int (-1), .int (-1), .ref q28, .ref q29, .ref q30, .ref q31, .ref q32, .ref q33, .ref q34, .ref q35, .int 0, .int 0, .long 0, .ref q36, .int 0, .int 0, .int 0, .int 0, .int 0, .ref q37, .int 0, .ref q38, .ref q39, .int 0, .int 0, .int 0, .int 0, .int 0, .int 0, .int 0, .ref q40, .ref q41, .int 0, .int 0, .int 0, .int 0, .int 0, .int 0, .int 0, .ref q42, .int 0, .int 0, .ref q43, .ref q44, .ref q45, .ref q46, .ref q47, .ref q48, .int 0, .ref q49])), (q1, .inl (gK X 2, 3000, .inl (fun _ => 0))), (q8, .inl (gK X 0, 5, .inl (upd (fun _ => 0) (0 : Int32).toNatClampNeg n1)))]) (z := 22) C dX30_feed_21 2 rfl (by unfold vp_in; decide) rfl rfl ?_
  refine g_dup (z := 23) C dX30_feed_22 rfl rfl ?_
  refine g_iconst (v := 1) (z := 24) C dX30_feed_23 (by decide) rfl ?_
  refine g_iload_n (z := 25) C dX30_feed_24 2 rfl rfl rfl ?_
  refine g_iast (w2 := [(h0, .inr (13, [.ref q1, .int 0, .int 0, .int 0, .int 0, .ref q2, .ref q3, .ref q4, .ref q5, .int 0, .int 0, .int 0, .ref q6, .ref q7, .ref q9, .null, .null, .ref q10, .ref q11, .int 0, .ref q12, .ref q13, .ref q14, .int 0, .ref q15, .null, .ref q16, .null, .null, .int 0, .ref q17, .ref q18, .int 0, .ref q19, .ref q20, .ref q21, .ref q22, .int 0, .ref q23, .ref q24, .ref q25, .ref q26, .null, .ref q27, .int (-1), .int (-1), .int (-1), .ref q28, .ref q29, .ref q30, .ref q31, .ref q32, .ref q33, .ref q34, .ref q35, .int 0, .int 0, .long 0, .ref q36, .int 0, .int 0, .int 0, .int 0, .int 0, .ref q37, .int 0, .ref q38, .ref q39, .int 0, .int 0, .int 0, .int 0, .int 0, .int 0, .int 0, .ref q40, .ref q41, .int 0, .int 0, .int 0, .int 0, .int 0, .int 0, .int 0, .ref q42, .int 0, .int 0, .ref q43, .ref q44, .ref q45, .ref q46, .ref q47, .ref q48, .int 0, .ref q49])), (q1, .inl (gK X 2, 3000, .inl (fun _ => 0))), (q8, .inl (gK X 0, 5, .inl (upd (upd (fun _ => 0) (0 : Int32).toNatClampNeg n1) (1 : Int32).toNatClampNeg n2)))]) (z := 26) C dX30_feed_25 2 rfl (by unfold vp_in; decide) rfl rfl ?_
  refine g_dup (z := 27) C dX30_feed_26 rfl rfl ?_
  refine g_iconst (v := 2) (z := 28) C dX30_feed_27 (by decide) rfl ?_
  refine g_iload_n (z := 29) C dX30_feed_28 3 rfl rfl rfl ?_
  refine g_iast (w2 := [(h0, .inr (13, [.ref q1, .int 0, .int 0, .int 0, .int 0, .ref q2, .ref q3, .ref q4, .ref q5, .int 0, .int 0, .int 0, .ref q6, .ref q7, .ref q9, .null, .null, .ref q10, .ref q11, .int 0, .ref q12, .ref q13, .ref q14, .int 0, .ref q15, .null, .ref q16, .null, .null, .int 0, .ref q17, .ref q18, .int 0, .ref q19, .ref q20, .ref q21, .ref q22, .int 0, .ref q23, .ref q24, .ref q25, .ref q26, .null, .ref q27, .int (-1), .int (-1), .int (-1), .ref q28, .ref q29, .ref q30, .ref q31, .ref q32, .ref q33, .ref q34, .ref q35, .int 0, .int 0, .long 0, .ref q36, .int 0, .int 0, .int 0, .int 0, .int 0, .ref q37, .int 0, .ref q38, .ref q39, .int 0, .int 0, .int 0, .int 0, .int 0, .int 0, .int 0, .ref q40, .ref q41, .int 0, .int 0, .int 0, .int 0, .int 0, .int 0, .int 0, .ref q42, .int 0, .int 0, .ref q43, .ref q44, .ref q45, .ref q46, .ref q47, .ref q48, .int 0, .ref q49])), (q1, .inl (gK X 2, 3000, .inl (fun _ => 0))), (q8, .inl (gK X 0, 5, .inl (upd (upd (upd (fun _ => 0) (0 : Int32).toNatClampNeg n1) (1 : Int32).toNatClampNeg n2) (2 : Int32).toNatClampNeg n3)))]) (z := 30) C dX30_feed_29 2 rfl (by unfold vp_in; decide) rfl rfl ?_
  refine g_dup (z := 31) C dX30_feed_30 rfl rfl ?_
  refine g_iconst (v := 3) (z := 32) C dX30_feed_31 (by decide) rfl ?_
  refine g_iload (z := 34) C dX30_feed_32 4 rfl rfl ?_
  refine g_iast (w2 := [(h0, .inr (13, [.ref q1, .int 0, .int 0, .int 0, .int 0, .ref q2, .ref q3, .ref q4, .ref q5, .int 0, .int 0, .int 0, .ref q6, .ref q7, .ref q9, .null, .null, .ref q10, .ref q11, .int 0, .ref q12, .ref q13, .ref q14, .int 0, .ref q15, .null, .ref q16, .null, .null, .int 0, .ref q17, .ref q18, .int 0, .ref q19, .ref q20, .ref q21, .ref q22, .int 0, .ref q23, .ref q24, .ref q25, .ref q26, .null, .ref q27, .int (-1), .int (-1), .int (-1), .ref q28, .ref q29, .ref q30, .ref q31, .ref q32, .ref q33, .ref q34, .ref q35, .int 0, .int 0, .long 0, .ref q36, .int 0, .int 0, .int 0, .int 0, .int 0, .ref q37, .int 0, .ref q38, .ref q39, .int 0, .int 0, .int 0, .int 0, .int 0, .int 0, .int 0, .ref q40, .ref q41, .int 0, .int 0, .int 0, .int 0, .int 0, .int 0, .int 0, .ref q42, .int 0, .int 0, .ref q43, .ref q44, .ref q45, .ref q46, .ref q47, .ref q48, .int 0, .ref q49])), (q1, .inl (gK X 2, 3000, .inl (fun _ => 0))), (q8, .inl (gK X 0, 5, .inl (upd (upd (upd (upd (fun _ => 0) (0 : Int32).toNatClampNeg n1) (1 : Int32).toNatClampNeg n2) (2 : Int32).toNatClampNeg n3) (3 : Int32).toNatClampNeg n4)))]) (z := 35) C dX30_feed_34 2 rfl (by unfold vp_in; decide) rfl rfl ?_
  refine g_dup (z := 36) C dX30_feed_35 rfl rfl ?_
  refine g_iconst (v := 4) (z := 37) C dX30_feed_36 (by decide) rfl ?_
  refine g_iload (z := 39) C dX30_feed_37 5 rfl rfl ?_
  refine g_iast (w2 := [(h0, .inr (13, [.ref q1, .int 0, .int 0, .int 0, .int 0, .ref q2, .ref q3, .ref q4, .ref q5, .int 0, .int 0, .int 0, .ref q6, .ref q7, .ref q9, .null, .null, .ref q10, .ref q11, .int 0, .ref q12, .ref q13, .ref q14, .int 0, .ref q15, .null, .ref q16, .null, .null, .int 0, .ref q17, .ref q18, .int 0, .ref q19, .ref q20, .ref q21, .ref q22, .int 0, .ref q23, .ref q24, .ref q25, .ref q26, .null, .ref q27, .int (-1), .int (-1), .int (-1), .ref q28, .ref q29, .ref q30, .ref q31, .ref q32, .ref q33, .ref q34, .ref q35, .int 0, .int 0, .long 0, .ref q36, .int 0, .int 0, .int 0, .int 0, .int 0, .ref q37, .int 0, .ref q38, .ref q39, .int 0, .int 0, .int 0, .int 0, .int 0, .int 0, .int 0, .ref q40, .ref q41, .int 0, .int 0, .int 0, .int 0, .int 0, .int 0, .int 0, .ref q42, .int 0, .int 0, .ref q43, .ref q44, .ref q45, .ref q46, .ref q47, .ref q48, .int 0, .ref q49])), (q1, .inl (gK X 2, 3000, .inl (fun _ => 0))), (q8, .inl (gK X 0, 5, .inl (upd (upd (upd (upd (upd (fun _ => 0) (0 : Int32).toNatClampNeg n1) (1 : Int32).toNatClampNeg n2) (2 : Int32).toNatClampNeg n3) (3 : Int32).toNatClampNeg n4) (4 : Int32).toNatClampNeg n5)))]) (z := 40) C dX30_feed_39 2 rfl (by unfold vp_in; decide) rfl rfl ?_
  refine g_astore (l2 := [(6, .ref q8), (0, .ref h0), (1, .int n1), (2, .int n2), (3, .int n3), (4, .int n4), (5, .int n5)]) (z := 42) C dX30_feed_40 (by decide) rfl rfl ?_
  refine g_iconst (v := 0) (z := 43) C dX30_feed_42 (by decide) rfl ?_
  refine g_istore (l2 := [(7, .int 0), (6, .ref q8), (0, .ref h0), (1, .int n1), (2, .int n2), (3, .int n3), (4, .int n4), (5, .int n5)]) (z := 45) C dX30_feed_43 (by decide) rfl rfl ?_
  refine g_iload (z := 47) C dX30_feed_45 0 rfl rfl ?_
  refine g_bipush (v := 20) (z := 49) C dX30_feed_47 (by decide) rfl ?_
  refine g_icmp_ge_f (z := 52) 96 C dX30_feed_49 (by decide) (by decide) rfl ?_
  refine g_aload_n (z := 53) C dX30_feed_52 2 rfl rfl rfl ?_
  refine g_get (z := 56) C kX30 dX30_feed_53 0 rfl 0 (by decide) w_385 rfl rfl rfl ?_
  refine g_aload_n (z := 57) C dX30_feed_56 2 rfl rfl rfl ?_
  refine g_get (z := 60) C kX30 dX30_feed_57 0 rfl 1 (by decide) w_461 rfl rfl rfl ?_
  refine g_aload (z := 62) C dX30_feed_60 1 rfl rfl ?_
  refine g_iload (z := 64) C dX30_feed_62 0 rfl rfl ?_
  refine g_iconst (v := 4) (z := 65) C dX30_feed_64 (by decide) rfl ?_
  refine g_idiv (v := 0) (z := 66) C dX30_feed_65 (by decide) (by decide) rfl ?_
  generalize hfv : upd (upd (upd (upd (upd (fun _ => 0) (0 : Int32).toNatClampNeg n1) (1 : Int32).toNatClampNeg n2) (2 : Int32).toNatClampNeg n3) (3 : Int32).toNatClampNeg n4) (4 : Int32).toNatClampNeg n5 = fv
  refine g_iald (v := (fv (0 : Int32).toNatClampNeg)) (z := 67) C dX30_feed_66 2 rfl (by unfold vp_in; decide) rfl rfl ?_
  refine g_bipush (v := 24) (z := 69) C dX30_feed_67 (by decide) rfl ?_
  refine g_bipush (v := 8) (z := 71) C dX30_feed_69 (by decide) rfl ?_
  refine g_iload (z := 73) C dX30_feed_71 0 rfl rfl ?_
  refine g_iconst (v := 4) (z := 74) C dX30_feed_73 (by decide) rfl ?_
  refine g_irem (v := 0) (z := 75) C dX30_feed_74 (by decide) (by decide) rfl ?_
  refine g_imul (v := 0) (z := 76) C dX30_feed_75 (by decide) rfl ?_
  refine g_isub (v := 24) (z := 77) C dX30_feed_76 (by decide) rfl ?_
  refine g_ishr (v := ((fv (0 : Int32).toNatClampNeg) >>> (24 &&& 31))) (z := 78) C dX30_feed_77 (rfl) rfl ?_
  refine g_i2b (v := (((fv (0 : Int32).toNatClampNeg) >>> (24 &&& 31))).toInt8.toInt32) (z := 79) C dX30_feed_78 rfl rfl ?_
  refine g_bast (w2 := [(h0, .inr (13, [.ref q1, .int 0, .int 0, .int 0, .int 0, .ref q2, .ref q3, .ref q4, .ref q5, .int 0, .int 0, .int 0, .ref q6, .ref q7, .ref q9, .null, .null, .ref q10, .ref q11, .int 0, .ref q12, .ref q13, .ref q14, .int 0, .ref q15, .null, .ref q16, .null, .null, .int 0, .ref q17, .ref q18, .int 0, .ref q19, .ref q20, .ref q21, .ref q22, .int 0, .ref q23, .ref q24, .ref q25, .ref q26, .null, .ref q27, .int (-1), .int (-1), .int (-1), .ref q28, .ref q29, .ref q30, .ref q31, .ref q32, .ref q33, .ref q34, .ref q35, .int 0, .int 0, .long 0, .ref q36, .int 0, .int 0, .int 0, .int 0, .int 0, .ref q37, .int 0, .ref q38, .ref q39, .int 0, .int 0, .int 0, .int 0, .int 0, .int 0, .int 0, .ref q40, .ref q41, .int 0, .int 0, .int 0, .int 0, .int 0, .int 0, .int 0, .ref q42, .int 0, .int 0, .ref q43, .ref q44, .ref q45, .ref q46, .ref q47, .ref q48, .int 0, .ref q49])), (q1, .inl (gK X 2, 3000, .inl (upd (fun _ => 0) (0 : Int32).toNatClampNeg (vp_nar .byte (((fv (0 : Int32).toNatClampNeg) >>> (24 &&& 31))).toInt8.toInt32)))), (q8, .inl (gK X 0, 5, .inl (fv)))]) (z := 80) C dX30_feed_79 1 rfl (by unfold vp_in; decide) rfl rfl ?_
  generalize ht1 : upd (fun _ => 0) (0 : Int32).toNatClampNeg (vp_nar .byte (((fv (0 : Int32).toNatClampNeg) >>> (24 &&& 31))).toInt8.toInt32) = t1
  refine g_aload_n (z := 81) C dX30_feed_80 2 rfl rfl rfl ?_
  refine g_dup (z := 82) C dX30_feed_81 rfl rfl ?_
  refine g_get (z := 85) C kX30 dX30_feed_82 0 rfl 1 (by decide) w_461 rfl rfl rfl ?_
  refine g_iconst (v := 1) (z := 86) C dX30_feed_85 (by decide) rfl ?_
  refine g_iadd (v := 1) (z := 87) C dX30_feed_86 (by decide) rfl ?_
  refine g_put (w2 := [(h0, .inr (13, [.ref q1, .int 1, .int 0, .int 0, .int 0, .ref q2, .ref q3, .ref q4, .ref q5, .int 0, .int 0, .int 0, .ref q6, .ref q7, .ref q9, .null, .null, .ref q10, .ref q11, .int 0, .ref q12, .ref q13, .ref q14, .int 0, .ref q15, .null, .ref q16, .null, .null, .int 0, .ref q17, .ref q18, .int 0, .ref q19, .ref q20, .ref q21, .ref q22, .int 0, .ref q23, .ref q24, .ref q25, .ref q26, .null, .ref q27, .int (-1), .int (-1), .int (-1), .ref q28, .ref q29, .ref q30, .ref q31, .ref q32, .ref q33, .ref q34, .ref q35, .int 0, .int 0, .long 0, .ref q36, .int 0, .int 0, .int 0, .int 0, .int 0, .ref q37, .int 0, .ref q38, .ref q39, .int 0, .int 0, .int 0, .int 0, .int 0, .int 0, .int 0, .ref q40, .ref q41, .int 0, .int 0, .int 0, .int 0, .int 0, .int 0, .int 0, .ref q42, .int 0, .int 0, .ref q43, .ref q44, .ref q45, .ref q46, .ref q47, .ref q48, .int 0, .ref q49])), (q1, .inl (gK X 2, 3000, .inl (t1))), (q8, .inl (gK X 0, 5, .inl (fv)))]) (z := 90) C kX30 dX30_feed_87 0 rfl 1 (by decide) w_461 rfl rfl rfl rfl (Nat.le_of_ble_eq_true rfl) rfl rfl ?_
  refine g_iinc (v := 1) (l2 := [(7, .int 1), (6, .ref q8), (0, .ref h0), (1, .int n1), (2, .int n2), (3, .int n3), (4, .int n4), (5, .int n5)]) (z := 93) C dX30_feed_90 0 rfl (by decide) (by decide) rfl rfl ?_
  refine g_goto (z := 45) C dX30_feed_93 (by decide) ?_
  refine g_iload (z := 47) C dX30_feed_45 0 rfl rfl ?_
  refine g_bipush (v := 20) (z := 49) C dX30_feed_47 (by decide) rfl ?_
  refine g_icmp_ge_f (z := 52) 96 C dX30_feed_49 (by decide) (by decide) rfl ?_
  refine g_aload_n (z := 53) C dX30_feed_52 2 rfl rfl rfl ?_
  refine g_get (z := 56) C kX30 dX30_feed_53 0 rfl 0 (by decide) w_385 rfl rfl rfl ?_
  refine g_aload_n (z := 57) C dX30_feed_56 2 rfl rfl rfl ?_
  refine g_get (z := 60) C kX30 dX30_feed_57 0 rfl 1 (by decide) w_461 rfl rfl rfl ?_
  refine g_aload (z := 62) C dX30_feed_60 1 rfl rfl ?_
  refine g_iload (z := 64) C dX30_feed_62 0 rfl rfl ?_
  refine g_iconst (v := 4) (z := 65) C dX30_feed_64 (by decide) rfl ?_
  refine g_idiv (v := 0) (z := 66) C dX30_feed_65 (by decide) (by decide) rfl ?_
  refine g_iald (v := (fv (0 : Int32).toNatClampNeg)) (z := 67) C dX30_feed_66 2 rfl (by unfold vp_in; decide) rfl rfl ?_
  refine g_bipush (v := 24) (z := 69) C dX30_feed_67 (by decide) rfl ?_
  refine g_bipush (v := 8) (z := 71) C dX30_feed_69 (by decide) rfl ?_
  refine g_iload (z := 73) C dX30_feed_71 0 rfl rfl ?_
  refine g_iconst (v := 4) (z := 74) C dX30_feed_73 (by decide) rfl ?_
  refine g_irem (v := 1) (z := 75) C dX30_feed_74 (by decide) (by decide) rfl ?_
  refine g_imul (v := 8) (z := 76) C dX30_feed_75 (by decide) rfl ?_
  refine g_isub (v := 16) (z := 77) C dX30_feed_76 (by decide) rfl ?_
  refine g_ishr (v := ((fv (0 : Int32).toNatClampNeg) >>> (16 &&& 31))) (z := 78) C dX30_feed_77 (rfl) rfl ?_
  refine g_i2b (v := (((fv (0 : Int32).toNatClampNeg) >>> (16 &&& 31))).toInt8.toInt32) (z := 79) C dX30_feed_78 rfl rfl ?_
  refine g_bast (w2 := [(h0, .inr (13, [.ref q1, .int 1, .int 0, .int 0, .int 0, .ref q2, .ref q3, .ref q4, .ref q5, .int 0, .int 0, .int 0, .ref q6, .ref q7, .ref q9, .null, .null, .ref q10, .ref q11, .int 0, .ref q12, .ref q13, .ref q14, .int 0, .ref q15, .null, .ref q16, .null, .null, .int 0, .ref q17, .ref q18, .int 0, .ref q19, .ref q20, .ref q21, .ref q22, .int 0, .ref q23, .ref q24, .ref q25, .ref q26, .null, .ref q27, .int (-1), .int (-1), .int (-1), .ref q28, .ref q29, .ref q30, .ref q31, .ref q32, .ref q33, .ref q34, .ref q35, .int 0, .int 0, .long 0, .ref q36, .int 0, .int 0, .int 0, .int 0, .int 0, .ref q37, .int 0, .ref q38, .ref q39, .int 0, .int 0, .int 0, .int 0, .int 0, .int 0, .int 0, .ref q40, .ref q41, .int 0, .int 0, .int 0, .int 0, .int 0, .int 0, .int 0, .ref q42, .int 0, .int 0, .ref q43, .ref q44, .ref q45, .ref q46, .ref q47, .ref q48, .int 0, .ref q49])), (q1, .inl (gK X 2, 3000, .inl (upd (t1) (1 : Int32).toNatClampNeg (vp_nar .byte (((fv (0 : Int32).toNatClampNeg) >>> (16 &&& 31))).toInt8.toInt32)))), (q8, .inl (gK X 0, 5, .inl (fv)))]) (z := 80) C dX30_feed_79 1 rfl (by unfold vp_in; decide) rfl rfl ?_
  generalize ht2 : upd (t1) (1 : Int32).toNatClampNeg (vp_nar .byte (((fv (0 : Int32).toNatClampNeg) >>> (16 &&& 31))).toInt8.toInt32) = t2
  refine g_aload_n (z := 81) C dX30_feed_80 2 rfl rfl rfl ?_
  refine g_dup (z := 82) C dX30_feed_81 rfl rfl ?_
  refine g_get (z := 85) C kX30 dX30_feed_82 0 rfl 1 (by decide) w_461 rfl rfl rfl ?_
  refine g_iconst (v := 1) (z := 86) C dX30_feed_85 (by decide) rfl ?_
  refine g_iadd (v := 2) (z := 87) C dX30_feed_86 (by decide) rfl ?_
  refine g_put (w2 := [(h0, .inr (13, [.ref q1, .int 2, .int 0, .int 0, .int 0, .ref q2, .ref q3, .ref q4, .ref q5, .int 0, .int 0, .int 0, .ref q6, .ref q7, .ref q9, .null, .null, .ref q10, .ref q11, .int 0, .ref q12, .ref q13, .ref q14, .int 0, .ref q15, .null, .ref q16, .null, .null, .int 0, .ref q17, .ref q18, .int 0, .ref q19, .ref q20, .ref q21, .ref q22, .int 0, .ref q23, .ref q24, .ref q25, .ref q26, .null, .ref q27, .int (-1), .int (-1), .int (-1), .ref q28, .ref q29, .ref q30, .ref q31, .ref q32, .ref q33, .ref q34, .ref q35, .int 0, .int 0, .long 0, .ref q36, .int 0, .int 0, .int 0, .int 0, .int 0, .ref q37, .int 0, .ref q38, .ref q39, .int 0, .int 0, .int 0, .int 0, .int 0, .int 0, .int 0, .ref q40, .ref q41, .int 0, .int 0, .int 0, .int 0, .int 0, .int 0, .int 0, .ref q42, .int 0, .int 0, .ref q43, .ref q44, .ref q45, .ref q46, .ref q47, .ref q48, .int 0, .ref q49])), (q1, .inl (gK X 2, 3000, .inl (t2))), (q8, .inl (gK X 0, 5, .inl (fv)))]) (z := 90) C kX30 dX30_feed_87 0 rfl 1 (by decide) w_461 rfl rfl rfl rfl (Nat.le_of_ble_eq_true rfl) rfl rfl ?_
  refine g_iinc (v := 2) (l2 := [(7, .int 2), (6, .ref q8), (0, .ref h0), (1, .int n1), (2, .int n2), (3, .int n3), (4, .int n4), (5, .int n5)]) (z := 93) C dX30_feed_90 0 rfl (by decide) (by decide) rfl rfl ?_
  refine g_goto (z := 45) C dX30_feed_93 (by decide) ?_
  refine g_iload (z := 47) C dX30_feed_45 0 rfl rfl ?_
  refine g_bipush (v := 20) (z := 49) C dX30_feed_47 (by decide) rfl ?_
  refine g_icmp_ge_f (z := 52) 96 C dX30_feed_49 (by decide) (by decide) rfl ?_
  refine g_aload_n (z := 53) C dX30_feed_52 2 rfl rfl rfl ?_
  refine g_get (z := 56) C kX30 dX30_feed_53 0 rfl 0 (by decide) w_385 rfl rfl rfl ?_
  refine g_aload_n (z := 57) C dX30_feed_56 2 rfl rfl rfl ?_
  refine g_get (z := 60) C kX30 dX30_feed_57 0 rfl 1 (by decide) w_461 rfl rfl rfl ?_
  refine g_aload (z := 62) C dX30_feed_60 1 rfl rfl ?_
  refine g_iload (z := 64) C dX30_feed_62 0 rfl rfl ?_
  refine g_iconst (v := 4) (z := 65) C dX30_feed_64 (by decide) rfl ?_
  refine g_idiv (v := 0) (z := 66) C dX30_feed_65 (by decide) (by decide) rfl ?_
  refine g_iald (v := (fv (0 : Int32).toNatClampNeg)) (z := 67) C dX30_feed_66 2 rfl (by unfold vp_in; decide) rfl rfl ?_
  refine g_bipush (v := 24) (z := 69) C dX30_feed_67 (by decide) rfl ?_
  refine g_bipush (v := 8) (z := 71) C dX30_feed_69 (by decide) rfl ?_
  refine g_iload (z := 73) C dX30_feed_71 0 rfl rfl ?_
  refine g_iconst (v := 4) (z := 74) C dX30_feed_73 (by decide) rfl ?_
  refine g_irem (v := 2) (z := 75) C dX30_feed_74 (by decide) (by decide) rfl ?_
  refine g_imul (v := 16) (z := 76) C dX30_feed_75 (by decide) rfl ?_
  refine g_isub (v := 8) (z := 77) C dX30_feed_76 (by decide) rfl ?_
  refine g_ishr (v := ((fv (0 : Int32).toNatClampNeg) >>> (8 &&& 31))) (z := 78) C dX30_feed_77 (rfl) rfl ?_
  refine g_i2b (v := (((fv (0 : Int32).toNatClampNeg) >>> (8 &&& 31))).toInt8.toInt32) (z := 79) C dX30_feed_78 rfl rfl ?_
  refine g_bast (w2 := [(h0, .inr (13, [.ref q1, .int 2, .int 0, .int 0, .int 0, .ref q2, .ref q3, .ref q4, .ref q5, .int 0, .int 0, .int 0, .ref q6, .ref q7, .ref q9, .null, .null, .ref q10, .ref q11, .int 0, .ref q12, .ref q13, .ref q14, .int 0, .ref q15, .null, .ref q16, .null, .null, .int 0, .ref q17, .ref q18, .int 0, .ref q19, .ref q20, .ref q21, .ref q22, .int 0, .ref q23, .ref q24, .ref q25, .ref q26, .null, .ref q27, .int (-1), .int (-1), .int (-1), .ref q28, .ref q29, .ref q30, .ref q31, .ref q32, .ref q33, .ref q34, .ref q35, .int 0, .int 0, .long 0, .ref q36, .int 0, .int 0, .int 0, .int 0, .int 0, .ref q37, .int 0, .ref q38, .ref q39, .int 0, .int 0, .int 0, .int 0, .int 0, .int 0, .int 0, .ref q40, .ref q41, .int 0, .int 0, .int 0, .int 0, .int 0, .int 0, .int 0, .ref q42, .int 0, .int 0, .ref q43, .ref q44, .ref q45, .ref q46, .ref q47, .ref q48, .int 0, .ref q49])), (q1, .inl (gK X 2, 3000, .inl (upd (t2) (2 : Int32).toNatClampNeg (vp_nar .byte (((fv (0 : Int32).toNatClampNeg) >>> (8 &&& 31))).toInt8.toInt32)))), (q8, .inl (gK X 0, 5, .inl (fv)))]) (z := 80) C dX30_feed_79 1 rfl (by unfold vp_in; decide) rfl rfl ?_
  generalize ht3 : upd (t2) (2 : Int32).toNatClampNeg (vp_nar .byte (((fv (0 : Int32).toNatClampNeg) >>> (8 &&& 31))).toInt8.toInt32) = t3
  refine g_aload_n (z := 81) C dX30_feed_80 2 rfl rfl rfl ?_
  refine g_dup (z := 82) C dX30_feed_81 rfl rfl ?_
  refine g_get (z := 85) C kX30 dX30_feed_82 0 rfl 1 (by decide) w_461 rfl rfl rfl ?_
  refine g_iconst (v := 1) (z := 86) C dX30_feed_85 (by decide) rfl ?_
  refine g_iadd (v := 3) (z := 87) C dX30_feed_86 (by decide) rfl ?_
  refine g_put (w2 := [(h0, .inr (13, [.ref q1, .int 3, .int 0, .int 0, .int 0, .ref q2, .ref q3, .ref q4, .ref q5, .int 0, .int 0, .int 0, .ref q6, .ref q7, .ref q9, .null, .null, .ref q10, .ref q11, .int 0, .ref q12, .ref q13, .ref q14, .int 0, .ref q15, .null, .ref q16, .null, .null, .int 0, .ref q17, .ref q18, .int 0, .ref q19, .ref q20, .ref q21, .ref q22, .int 0, .ref q23, .ref q24, .ref q25, .ref q26, .null, .ref q27, .int (-1), .int (-1), .int (-1), .ref q28, .ref q29, .ref q30, .ref q31, .ref q32, .ref q33, .ref q34, .ref q35, .int 0, .int 0, .long 0, .ref q36, .int 0, .int 0, .int 0, .int 0, .int 0, .ref q37, .int 0, .ref q38, .ref q39, .int 0, .int 0, .int 0, .int 0, .int 0, .int 0, .int 0, .ref q40, .ref q41, .int 0, .int 0, .int 0, .int 0, .int 0, .int 0, .int 0, .ref q42, .int 0, .int 0, .ref q43, .ref q44, .ref q45, .ref q46, .ref q47, .ref q48, .int 0, .ref q49])), (q1, .inl (gK X 2, 3000, .inl (t3))), (q8, .inl (gK X 0, 5, .inl (fv)))]) (z := 90) C kX30 dX30_feed_87 0 rfl 1 (by decide) w_461 rfl rfl rfl rfl (Nat.le_of_ble_eq_true rfl) rfl rfl ?_
  refine g_iinc (v := 3) (l2 := [(7, .int 3), (6, .ref q8), (0, .ref h0), (1, .int n1), (2, .int n2), (3, .int n3), (4, .int n4), (5, .int n5)]) (z := 93) C dX30_feed_90 0 rfl (by decide) (by decide) rfl rfl ?_
  refine g_goto (z := 45) C dX30_feed_93 (by decide) ?_
  refine g_iload (z := 47) C dX30_feed_45 0 rfl rfl ?_
  refine g_bipush (v := 20) (z := 49) C dX30_feed_47 (by decide) rfl ?_
  refine g_icmp_ge_f (z := 52) 96 C dX30_feed_49 (by decide) (by decide) rfl ?_
  refine g_aload_n (z := 53) C dX30_feed_52 2 rfl rfl rfl ?_
  refine g_get (z := 56) C kX30 dX30_feed_53 0 rfl 0 (by decide) w_385 rfl rfl rfl ?_
  refine g_aload_n (z := 57) C dX30_feed_56 2 rfl rfl rfl ?_
  refine g_get (z := 60) C kX30 dX30_feed_57 0 rfl 1 (by decide) w_461 rfl rfl rfl ?_
  refine g_aload (z := 62) C dX30_feed_60 1 rfl rfl ?_
  refine g_iload (z := 64) C dX30_feed_62 0 rfl rfl ?_
  refine g_iconst (v := 4) (z := 65) C dX30_feed_64 (by decide) rfl ?_
  refine g_idiv (v := 0) (z := 66) C dX30_feed_65 (by decide) (by decide) rfl ?_
  refine g_iald (v := (fv (0 : Int32).toNatClampNeg)) (z := 67) C dX30_feed_66 2 rfl (by unfold vp_in; decide) rfl rfl ?_
  refine g_bipush (v := 24) (z := 69) C dX30_feed_67 (by decide) rfl ?_
  refine g_bipush (v := 8) (z := 71) C dX30_feed_69 (by decide) rfl ?_
  refine g_iload (z := 73) C dX30_feed_71 0 rfl rfl ?_
  refine g_iconst (v := 4) (z := 74) C dX30_feed_73 (by decide) rfl ?_
  refine g_irem (v := 3) (z := 75) C dX30_feed_74 (by decide) (by decide) rfl ?_
  refine g_imul (v := 24) (z := 76) C dX30_feed_75 (by decide) rfl ?_
  refine g_isub (v := 0) (z := 77) C dX30_feed_76 (by decide) rfl ?_
  refine g_ishr (v := ((fv (0 : Int32).toNatClampNeg) >>> (0 &&& 31))) (z := 78) C dX30_feed_77 (rfl) rfl ?_
  refine g_i2b (v := (((fv (0 : Int32).toNatClampNeg) >>> (0 &&& 31))).toInt8.toInt32) (z := 79) C dX30_feed_78 rfl rfl ?_
  refine g_bast (w2 := [(h0, .inr (13, [.ref q1, .int 3, .int 0, .int 0, .int 0, .ref q2, .ref q3, .ref q4, .ref q5, .int 0, .int 0, .int 0, .ref q6, .ref q7, .ref q9, .null, .null, .ref q10, .ref q11, .int 0, .ref q12, .ref q13, .ref q14, .int 0, .ref q15, .null, .ref q16, .null, .null, .int 0, .ref q17, .ref q18, .int 0, .ref q19, .ref q20, .ref q21, .ref q22, .int 0, .ref q23, .ref q24, .ref q25, .ref q26, .null, .ref q27, .int (-1), .int (-1), .int (-1), .ref q28, .ref q29, .ref q30, .ref q31, .ref q32, .ref q33, .ref q34, .ref q35, .int 0, .int 0, .long 0, .ref q36, .int 0, .int 0, .int 0, .int 0, .int 0, .ref q37, .int 0, .ref q38, .ref q39, .int 0, .int 0, .int 0, .int 0, .int 0, .int 0, .int 0, .ref q40, .ref q41, .int 0, .int 0, .int 0, .int 0, .int 0, .int 0, .int 0, .ref q42, .int 0, .int 0, .ref q43, .ref q44, .ref q45, .ref q46, .ref q47, .ref q48, .int 0, .ref q49])), (q1, .inl (gK X 2, 3000, .inl (upd (t3) (3 : Int32).toNatClampNeg (vp_nar .byte (((fv (0 : Int32).toNatClampNeg) >>> (0 &&& 31))).toInt8.toInt32)))), (q8, .inl (gK X 0, 5, .inl (fv)))]) (z := 80) C dX30_feed_79 1 rfl (by unfold vp_in; decide) rfl rfl ?_
  generalize ht4 : upd (t3) (3 : Int32).toNatClampNeg (vp_nar .byte (((fv (0 : Int32).toNatClampNeg) >>> (0 &&& 31))).toInt8.toInt32) = t4
  refine g_aload_n (z := 81) C dX30_feed_80 2 rfl rfl rfl ?_
  refine g_dup (z := 82) C dX30_feed_81 rfl rfl ?_
  refine g_get (z := 85) C kX30 dX30_feed_82 0 rfl 1 (by decide) w_461 rfl rfl rfl ?_
  refine g_iconst (v := 1) (z := 86) C dX30_feed_85 (by decide) rfl ?_
  refine g_iadd (v := 4) (z := 87) C dX30_feed_86 (by decide) rfl ?_
  refine g_put (w2 := [(h0, .inr (13, [.ref q1, .int 4, .int 0, .int 0, .int 0, .ref q2, .ref q3, .ref q4, .ref q5, .int 0, .int 0, .int 0, .ref q6, .ref q7, .ref q9, .null, .null, .ref q10, .ref q11, .int 0, .ref q12, .ref q13, .ref q14, .int 0, .ref q15, .null, .ref q16, .null, .null, .int 0, .ref q17, .ref q18, .int 0, .ref q19, .ref q20, .ref q21, .ref q22, .int 0, .ref q23, .ref q24, .ref q25, .ref q26, .null, .ref q27, .int (-1), .int (-1), .int (-1), .ref q28, .ref q29, .ref q30, .ref q31, .ref q32, .ref q33, .ref q34, .ref q35, .int 0, .int 0, .long 0, .ref q36, .int 0, .int 0, .int 0, .int 0, .int 0, .ref q37, .int 0, .ref q38, .ref q39, .int 0, .int 0, .int 0, .int 0, .int 0, .int 0, .int 0, .ref q40, .ref q41, .int 0, .int 0, .int 0, .int 0, .int 0, .int 0, .int 0, .ref q42, .int 0, .int 0, .ref q43, .ref q44, .ref q45, .ref q46, .ref q47, .ref q48, .int 0, .ref q49])), (q1, .inl (gK X 2, 3000, .inl (t4))), (q8, .inl (gK X 0, 5, .inl (fv)))]) (z := 90) C kX30 dX30_feed_87 0 rfl 1 (by decide) w_461 rfl rfl rfl rfl (Nat.le_of_ble_eq_true rfl) rfl rfl ?_
  refine g_iinc (v := 4) (l2 := [(7, .int 4), (6, .ref q8), (0, .ref h0), (1, .int n1), (2, .int n2), (3, .int n3), (4, .int n4), (5, .int n5)]) (z := 93) C dX30_feed_90 0 rfl (by decide) (by decide) rfl rfl ?_
  refine g_goto (z := 45) C dX30_feed_93 (by decide) ?_
  refine g_iload (z := 47) C dX30_feed_45 0 rfl rfl ?_
  refine g_bipush (v := 20) (z := 49) C dX30_feed_47 (by decide) rfl ?_
  refine g_icmp_ge_f (z := 52) 96 C dX30_feed_49 (by decide) (by decide) rfl ?_
  refine g_aload_n (z := 53) C dX30_feed_52 2 rfl rfl rfl ?_
  refine g_get (z := 56) C kX30 dX30_feed_53 0 rfl 0 (by decide) w_385 rfl rfl rfl ?_
  refine g_aload_n (z := 57) C dX30_feed_56 2 rfl rfl rfl ?_
  refine g_get (z := 60) C kX30 dX30_feed_57 0 rfl 1 (by decide) w_461 rfl rfl rfl ?_
  refine g_aload (z := 62) C dX30_feed_60 1 rfl rfl ?_
  refine g_iload (z := 64) C dX30_feed_62 0 rfl rfl ?_
  refine g_iconst (v := 4) (z := 65) C dX30_feed_64 (by decide) rfl ?_
  refine g_idiv (v := 1) (z := 66) C dX30_feed_65 (by decide) (by decide) rfl ?_
  refine g_iald (v := (fv (1 : Int32).toNatClampNeg)) (z := 67) C dX30_feed_66 2 rfl (by unfold vp_in; decide) rfl rfl ?_
  refine g_bipush (v := 24) (z := 69) C dX30_feed_67 (by decide) rfl ?_
  refine g_bipush (v := 8) (z := 71) C dX30_feed_69 (by decide) rfl ?_
  refine g_iload (z := 73) C dX30_feed_71 0 rfl rfl ?_
  refine g_iconst (v := 4) (z := 74) C dX30_feed_73 (by decide) rfl ?_
  refine g_irem (v := 0) (z := 75) C dX30_feed_74 (by decide) (by decide) rfl ?_
  refine g_imul (v := 0) (z := 76) C dX30_feed_75 (by decide) rfl ?_
  refine g_isub (v := 24) (z := 77) C dX30_feed_76 (by decide) rfl ?_
  refine g_ishr (v := ((fv (1 : Int32).toNatClampNeg) >>> (24 &&& 31))) (z := 78) C dX30_feed_77 (rfl) rfl ?_
  refine g_i2b (v := (((fv (1 : Int32).toNatClampNeg) >>> (24 &&& 31))).toInt8.toInt32) (z := 79) C dX30_feed_78 rfl rfl ?_
  refine g_bast (w2 := [(h0, .inr (13, [.ref q1, .int 4, .int 0, .int 0, .int 0, .ref q2, .ref q3, .ref q4, .ref q5, .int 0, .int 0, .int 0, .ref q6, .ref q7, .ref q9, .null, .null, .ref q10, .ref q11, .int 0, .ref q12, .ref q13, .ref q14, .int 0, .ref q15, .null, .ref q16, .null, .null, .int 0, .ref q17, .ref q18, .int 0, .ref q19, .ref q20, .ref q21, .ref q22, .int 0, .ref q23, .ref q24, .ref q25, .ref q26, .null, .ref q27, .int (-1), .int (-1), .int (-1), .ref q28, .ref q29, .ref q30, .ref q31, .ref q32, .ref q33, .ref q34, .ref q35, .int 0, .int 0, .long 0, .ref q36, .int 0, .int 0, .int 0, .int 0, .int 0, .ref q37, .int 0, .ref q38, .ref q39, .int 0, .int 0, .int 0, .int 0, .int 0, .int 0, .int 0, .ref q40, .ref q41, .int 0, .int 0, .int 0, .int 0, .int 0, .int 0, .int 0, .ref q42, .int 0, .int 0, .ref q43, .ref q44, .ref q45, .ref q46, .ref q47, .ref q48, .int 0, .ref q49])), (q1, .inl (gK X 2, 3000, .inl (upd (t4) (4 : Int32).toNatClampNeg (vp_nar .byte (((fv (1 : Int32).toNatClampNeg) >>> (24 &&& 31))).toInt8.toInt32)))), (q8, .inl (gK X 0, 5, .inl (fv)))]) (z := 80) C dX30_feed_79 1 rfl (by unfold vp_in; decide) rfl rfl ?_
  generalize ht5 : upd (t4) (4 : Int32).toNatClampNeg (vp_nar .byte (((fv (1 : Int32).toNatClampNeg) >>> (24 &&& 31))).toInt8.toInt32) = t5
  refine g_aload_n (z := 81) C dX30_feed_80 2 rfl rfl rfl ?_
  refine g_dup (z := 82) C dX30_feed_81 rfl rfl ?_
  refine g_get (z := 85) C kX30 dX30_feed_82 0 rfl 1 (by decide) w_461 rfl rfl rfl ?_
  refine g_iconst (v := 1) (z := 86) C dX30_feed_85 (by decide) rfl ?_
  refine g_iadd (v := 5) (z := 87) C dX30_feed_86 (by decide) rfl ?_
  refine g_put (w2 := [(h0, .inr (13, [.ref q1, .int 5, .int 0, .int 0, .int 0, .ref q2, .ref q3, .ref q4, .ref q5, .int 0, .int 0, .int 0, .ref q6, .ref q7, .ref q9, .null, .null, .ref q10, .ref q11, .int 0, .ref q12, .ref q13, .ref q14, .int 0, .ref q15, .null, .ref q16, .null, .null, .int 0, .ref q17, .ref q18, .int 0, .ref q19, .ref q20, .ref q21, .ref q22, .int 0, .ref q23, .ref q24, .ref q25, .ref q26, .null, .ref q27, .int (-1), .int (-1), .int (-1), .ref q28, .ref q29, .ref q30, .ref q31, .ref q32, .ref q33, .ref q34, .ref q35, .int 0, .int 0, .long 0, .ref q36, .int 0, .int 0, .int 0, .int 0, .int 0, .ref q37, .int 0, .ref q38, .ref q39, .int 0, .int 0, .int 0, .int 0, .int 0, .int 0, .int 0, .ref q40, .ref q41, .int 0, .int 0, .int 0, .int 0, .int 0, .int 0, .int 0, .ref q42, .int 0, .int 0, .ref q43, .ref q44, .ref q45, .ref q46, .ref q47, .ref q48, .int 0, .ref q49])), (q1, .inl (gK X 2, 3000, .inl (t5))), (q8, .inl (gK X 0, 5, .inl (fv)))]) (z := 90) C kX30 dX30_feed_87 0 rfl 1 (by decide) w_461 rfl rfl rfl rfl (Nat.le_of_ble_eq_true rfl) rfl rfl ?_
  refine g_iinc (v := 5) (l2 := [(7, .int 5), (6, .ref q8), (0, .ref h0), (1, .int n1), (2, .int n2), (3, .int n3), (4, .int n4), (5, .int n5)]) (z := 93) C dX30_feed_90 0 rfl (by decide) (by decide) rfl rfl ?_
  refine g_goto (z := 45) C dX30_feed_93 (by decide) ?_
  refine g_iload (z := 47) C dX30_feed_45 0 rfl rfl ?_
  refine g_bipush (v := 20) (z := 49) C dX30_feed_47 (by decide) rfl ?_
  refine g_icmp_ge_f (z := 52) 96 C dX30_feed_49 (by decide) (by decide) rfl ?_
  refine g_aload_n (z := 53) C dX30_feed_52 2 rfl rfl rfl ?_
  refine g_get (z := 56) C kX30 dX30_feed_53 0 rfl 0 (by decide) w_385 rfl rfl rfl ?_
  refine g_aload_n (z := 57) C dX30_feed_56 2 rfl rfl rfl ?_
  refine g_get (z := 60) C kX30 dX30_feed_57 0 rfl 1 (by decide) w_461 rfl rfl rfl ?_
  refine g_aload (z := 62) C dX30_feed_60 1 rfl rfl ?_
  refine g_iload (z := 64) C dX30_feed_62 0 rfl rfl ?_
  refine g_iconst (v := 4) (z := 65) C dX30_feed_64 (by decide) rfl ?_
  refine g_idiv (v := 1) (z := 66) C dX30_feed_65 (by decide) (by decide) rfl ?_
  refine g_iald (v := (fv (1 : Int32).toNatClampNeg)) (z := 67) C dX30_feed_66 2 rfl (by unfold vp_in; decide) rfl rfl ?_
  refine g_bipush (v := 24) (z := 69) C dX30_feed_67 (by decide) rfl ?_
  refine g_bipush (v := 8) (z := 71) C dX30_feed_69 (by decide) rfl ?_
  refine g_iload (z := 73) C dX30_feed_71 0 rfl rfl ?_
  refine g_iconst (v := 4) (z := 74) C dX30_feed_73 (by decide) rfl ?_
  refine g_irem (v := 1) (z := 75) C dX30_feed_74 (by decide) (by decide) rfl ?_
  refine g_imul (v := 8) (z := 76) C dX30_feed_75 (by decide) rfl ?_
  refine g_isub (v := 16) (z := 77) C dX30_feed_76 (by decide) rfl ?_
  refine g_ishr (v := ((fv (1 : Int32).toNatClampNeg) >>> (16 &&& 31))) (z := 78) C dX30_feed_77 (rfl) rfl ?_
  refine g_i2b (v := (((fv (1 : Int32).toNatClampNeg) >>> (16 &&& 31))).toInt8.toInt32) (z := 79) C dX30_feed_78 rfl rfl ?_
  refine g_bast (w2 := [(h0, .inr (13, [.ref q1, .int 5, .int 0, .int 0, .int 0, .ref q2, .ref q3, .ref q4, .ref q5, .int 0, .int 0, .int 0, .ref q6, .ref q7, .ref q9, .null, .null, .ref q10, .ref q11, .int 0, .ref q12, .ref q13, .ref q14, .int 0, .ref q15, .null, .ref q16, .null, .null, .int 0, .ref q17, .ref q18, .int 0, .ref q19, .ref q20, .ref q21, .ref q22, .int 0, .ref q23, .ref q24, .ref q25, .ref q26, .null, .ref q27, .int (-1), .int (-1), .int (-1), .ref q28, .ref q29, .ref q30, .ref q31, .ref q32, .ref q33, .ref q34, .ref q35, .int 0, .int 0, .long 0, .ref q36, .int 0, .int 0, .int 0, .int 0, .int 0, .ref q37, .int 0, .ref q38, .ref q39, .int 0, .int 0, .int 0, .int 0, .int 0, .int 0, .int 0, .ref q40, .ref q41, .int 0, .int 0, .int 0, .int 0, .int 0, .int 0, .int 0, .ref q42, .int 0, .int 0, .ref q43, .ref q44, .ref q45, .ref q46, .ref q47, .ref q48, .int 0, .ref q49])), (q1, .inl (gK X 2, 3000, .inl (upd (t5) (5 : Int32).toNatClampNeg (vp_nar .byte (((fv (1 : Int32).toNatClampNeg) >>> (16 &&& 31))).toInt8.toInt32)))), (q8, .inl (gK X 0, 5, .inl (fv)))]) (z := 80) C dX30_feed_79 1 rfl (by unfold vp_in; decide) rfl rfl ?_
  generalize ht6 : upd (t5) (5 : Int32).toNatClampNeg (vp_nar .byte (((fv (1 : Int32).toNatClampNeg) >>> (16 &&& 31))).toInt8.toInt32) = t6
  refine g_aload_n (z := 81) C dX30_feed_80 2 rfl rfl rfl ?_
  refine g_dup (z := 82) C dX30_feed_81 rfl rfl ?_
  refine g_get (z := 85) C kX30 dX30_feed_82 0 rfl 1 (by decide) w_461 rfl rfl rfl ?_
  refine g_iconst (v := 1) (z := 86) C dX30_feed_85 (by decide) rfl ?_
  refine g_iadd (v := 6) (z := 87) C dX30_feed_86 (by decide) rfl ?_
  refine g_put (w2 := [(h0, .inr (13, [.ref q1, .int 6, .int 0, .int 0, .int 0, .ref q2, .ref q3, .ref q4, .ref q5, .int 0, .int 0, .int 0, .ref q6, .ref q7, .ref q9, .null, .null, .ref q10, .ref q11, .int 0, .ref q12, .ref q13, .ref q14, .int 0, .ref q15, .null, .ref q16, .null, .null, .int 0, .ref q17, .ref q18, .int 0, .ref q19, .ref q20, .ref q21, .ref q22, .int 0, .ref q23, .ref q24, .ref q25, .ref q26, .null, .ref q27, .int (-1), .int (-1), .int (-1), .ref q28, .ref q29, .ref q30, .ref q31, .ref q32, .ref q33, .ref q34, .ref q35, .int 0, .int 0, .long 0, .ref q36, .int 0, .int 0, .int 0, .int 0, .int 0, .ref q37, .int 0, .ref q38, .ref q39, .int 0, .int 0, .int 0, .int 0, .int 0, .int 0, .int 0, .ref q40, .ref q41, .int 0, .int 0, .int 0, .int 0, .int 0, .int 0, .int 0, .ref q42, .int 0, .int 0, .ref q43, .ref q44, .ref q45, .ref q46, .ref q47, .ref q48, .int 0, .ref q49])), (q1, .inl (gK X 2, 3000, .inl (t6))), (q8, .inl (gK X 0, 5, .inl (fv)))]) (z := 90) C kX30 dX30_feed_87 0 rfl 1 (by decide) w_461 rfl rfl rfl rfl (Nat.le_of_ble_eq_true rfl) rfl rfl ?_
  refine g_iinc (v := 6) (l2 := [(7, .int 6), (6, .ref q8), (0, .ref h0), (1, .int n1), (2, .int n2), (3, .int n3), (4, .int n4), (5, .int n5)]) (z := 93) C dX30_feed_90 0 rfl (by decide) (by decide) rfl rfl ?_
  refine g_goto (z := 45) C dX30_feed_93 (by decide) ?_
  refine g_iload (z := 47) C dX30_feed_45 0 rfl rfl ?_
  refine g_bipush (v := 20) (z := 49) C dX30_feed_47 (by decide) rfl ?_
  refine g_icmp_ge_f (z := 52) 96 C dX30_feed_49 (by decide) (by decide) rfl ?_
  refine g_aload_n (z := 53) C dX30_feed_52 2 rfl rfl rfl ?_
  refine g_get (z := 56) C kX30 dX30_feed_53 0 rfl 0 (by decide) w_385 rfl rfl rfl ?_
  refine g_aload_n (z := 57) C dX30_feed_56 2 rfl rfl rfl ?_
  refine g_get (z := 60) C kX30 dX30_feed_57 0 rfl 1 (by decide) w_461 rfl rfl rfl ?_
  refine g_aload (z := 62) C dX30_feed_60 1 rfl rfl ?_
  refine g_iload (z := 64) C dX30_feed_62 0 rfl rfl ?_
  refine g_iconst (v := 4) (z := 65) C dX30_feed_64 (by decide) rfl ?_
  refine g_idiv (v := 1) (z := 66) C dX30_feed_65 (by decide) (by decide) rfl ?_
  refine g_iald (v := (fv (1 : Int32).toNatClampNeg)) (z := 67) C dX30_feed_66 2 rfl (by unfold vp_in; decide) rfl rfl ?_
  refine g_bipush (v := 24) (z := 69) C dX30_feed_67 (by decide) rfl ?_
  refine g_bipush (v := 8) (z := 71) C dX30_feed_69 (by decide) rfl ?_
  refine g_iload (z := 73) C dX30_feed_71 0 rfl rfl ?_
  refine g_iconst (v := 4) (z := 74) C dX30_feed_73 (by decide) rfl ?_
  refine g_irem (v := 2) (z := 75) C dX30_feed_74 (by decide) (by decide) rfl ?_
  refine g_imul (v := 16) (z := 76) C dX30_feed_75 (by decide) rfl ?_
  refine g_isub (v := 8) (z := 77) C dX30_feed_76 (by decide) rfl ?_
  refine g_ishr (v := ((fv (1 : Int32).toNatClampNeg) >>> (8 &&& 31))) (z := 78) C dX30_feed_77 (rfl) rfl ?_
  refine g_i2b (v := (((fv (1 : Int32).toNatClampNeg) >>> (8 &&& 31))).toInt8.toInt32) (z := 79) C dX30_feed_78 rfl rfl ?_
  refine g_bast (w2 := [(h0, .inr (13, [.ref q1, .int 6, .int 0, .int 0, .int 0, .ref q2, .ref q3, .ref q4, .ref q5, .int 0, .int 0, .int 0, .ref q6, .ref q7, .ref q9, .null, .null, .ref q10, .ref q11, .int 0, .ref q12, .ref q13, .ref q14, .int 0, .ref q15, .null, .ref q16, .null, .null, .int 0, .ref q17, .ref q18, .int 0, .ref q19, .ref q20, .ref q21, .ref q22, .int 0, .ref q23, .ref q24, .ref q25, .ref q26, .null, .ref q27, .int (-1), .int (-1), .int (-1), .ref q28, .ref q29, .ref q30, .ref q31, .ref q32, .ref q33, .ref q34, .ref q35, .int 0, .int 0, .long 0, .ref q36, .int 0, .int 0, .int 0, .int 0, .int 0, .ref q37, .int 0, .ref q38, .ref q39, .int 0, .int 0, .int 0, .int 0, .int 0, .int 0, .int 0, .ref q40, .ref q41, .int 0, .int 0, .int 0, .int 0, .int 0, .int 0, .int 0, .ref q42, .int 0, .int 0, .ref q43, .ref q44, .ref q45, .ref q46, .ref q47, .ref q48, .int 0, .ref q49])), (q1, .inl (gK X 2, 3000, .inl (upd (t6) (6 : Int32).toNatClampNeg (vp_nar .byte (((fv (1 : Int32).toNatClampNeg) >>> (8 &&& 31))).toInt8.toInt32)))), (q8, .inl (gK X 0, 5, .inl (fv)))]) (z := 80) C dX30_feed_79 1 rfl (by unfold vp_in; decide) rfl rfl ?_
  generalize ht7 : upd (t6) (6 : Int32).toNatClampNeg (vp_nar .byte (((fv (1 : Int32).toNatClampNeg) >>> (8 &&& 31))).toInt8.toInt32) = t7
  refine g_aload_n (z := 81) C dX30_feed_80 2 rfl rfl rfl ?_
  refine g_dup (z := 82) C dX30_feed_81 rfl rfl ?_
  refine g_get (z := 85) C kX30 dX30_feed_82 0 rfl 1 (by decide) w_461 rfl rfl rfl ?_
  refine g_iconst (v := 1) (z := 86) C dX30_feed_85 (by decide) rfl ?_
  refine g_iadd (v := 7) (z := 87) C dX30_feed_86 (by decide) rfl ?_
  refine g_put (w2 := [(h0, .inr (13, [.ref q1, .int 7, .int 0, .int 0, .int 0, .ref q2, .ref q3, .ref q4, .ref q5, .int 0, .int 0, .int 0, .ref q6, .ref q7, .ref q9, .null, .null, .ref q10, .ref q11, .int 0, .ref q12, .ref q13, .ref q14, .int 0, .ref q15, .null, .ref q16, .null, .null, .int 0, .ref q17, .ref q18, .int 0, .ref q19, .ref q20, .ref q21, .ref q22, .int 0, .ref q23, .ref q24, .ref q25, .ref q26, .null, .ref q27, .int (-1), .int (-1), .int (-1), .ref q28, .ref q29, .ref q30, .ref q31, .ref q32, .ref q33, .ref q34, .ref q35, .int 0, .int 0, .long 0, .ref q36, .int 0, .int 0, .int 0, .int 0, .int 0, .ref q37, .int 0, .ref q38, .ref q39, .int 0, .int 0, .int 0, .int 0, .int 0, .int 0, .int 0, .ref q40, .ref q41, .int 0, .int 0, .int 0, .int 0, .int 0, .int 0, .int 0, .ref q42, .int 0, .int 0, .ref q43, .ref q44, .ref q45, .ref q46, .ref q47, .ref q48, .int 0, .ref q49])), (q1, .inl (gK X 2, 3000, .inl (t7))), (q8, .inl (gK X 0, 5, .inl (fv)))]) (z := 90) C kX30 dX30_feed_87 0 rfl 1 (by decide) w_461 rfl rfl rfl rfl (Nat.le_of_ble_eq_true rfl) rfl rfl ?_
  refine g_iinc (v := 7) (l2 := [(7, .int 7), (6, .ref q8), (0, .ref h0), (1, .int n1), (2, .int n2), (3, .int n3), (4, .int n4), (5, .int n5)]) (z := 93) C dX30_feed_90 0 rfl (by decide) (by decide) rfl rfl ?_
  refine g_goto (z := 45) C dX30_feed_93 (by decide) ?_
  refine g_iload (z := 47) C dX30_feed_45 0 rfl rfl ?_
  refine g_bipush (v := 20) (z := 49) C dX30_feed_47 (by decide) rfl ?_
  refine g_icmp_ge_f (z := 52) 96 C dX30_feed_49 (by decide) (by decide) rfl ?_
  refine g_aload_n (z := 53) C dX30_feed_52 2 rfl rfl rfl ?_
  refine g_get (z := 56) C kX30 dX30_feed_53 0 rfl 0 (by decide) w_385 rfl rfl rfl ?_
  refine g_aload_n (z := 57) C dX30_feed_56 2 rfl rfl rfl ?_
  refine g_get (z := 60) C kX30 dX30_feed_57 0 rfl 1 (by decide) w_461 rfl rfl rfl ?_
  refine g_aload (z := 62) C dX30_feed_60 1 rfl rfl ?_
  refine g_iload (z := 64) C dX30_feed_62 0 rfl rfl ?_
  refine g_iconst (v := 4) (z := 65) C dX30_feed_64 (by decide) rfl ?_
  refine g_idiv (v := 1) (z := 66) C dX30_feed_65 (by decide) (by decide) rfl ?_
  refine g_iald (v := (fv (1 : Int32).toNatClampNeg)) (z := 67) C dX30_feed_66 2 rfl (by unfold vp_in; decide) rfl rfl ?_
  refine g_bipush (v := 24) (z := 69) C dX30_feed_67 (by decide) rfl ?_
  refine g_bipush (v := 8) (z := 71) C dX30_feed_69 (by decide) rfl ?_
  refine g_iload (z := 73) C dX30_feed_71 0 rfl rfl ?_
  refine g_iconst (v := 4) (z := 74) C dX30_feed_73 (by decide) rfl ?_
  refine g_irem (v := 3) (z := 75) C dX30_feed_74 (by decide) (by decide) rfl ?_
  refine g_imul (v := 24) (z := 76) C dX30_feed_75 (by decide) rfl ?_
  refine g_isub (v := 0) (z := 77) C dX30_feed_76 (by decide) rfl ?_
  refine g_ishr (v := ((fv (1 : Int32).toNatClampNeg) >>> (0 &&& 31))) (z := 78) C dX30_feed_77 (rfl) rfl ?_
  refine g_i2b (v := (((fv (1 : Int32).toNatClampNeg) >>> (0 &&& 31))).toInt8.toInt32) (z := 79) C dX30_feed_78 rfl rfl ?_
  refine g_bast (w2 := [(h0, .inr (13, [.ref q1, .int 7, .int 0, .int 0, .int 0, .ref q2, .ref q3, .ref q4, .ref q5, .int 0, .int 0, .int 0, .ref q6, .ref q7, .ref q9, .null, .null, .ref q10, .ref q11, .int 0, .ref q12, .ref q13, .ref q14, .int 0, .ref q15, .null, .ref q16, .null, .null, .int 0, .ref q17, .ref q18, .int 0, .ref q19, .ref q20, .ref q21, .ref q22, .int 0, .ref q23, .ref q24, .ref q25, .ref q26, .null, .ref q27, .int (-1), .int (-1), .int (-1), .ref q28, .ref q29, .ref q30, .ref q31, .ref q32, .ref q33, .ref q34, .ref q35, .int 0, .int 0, .long 0, .ref q36, .int 0, .int 0, .int 0, .int 0, .int 0, .ref q37, .int 0, .ref q38, .ref q39, .int 0, .int 0, .int 0, .int 0, .int 0, .int 0, .int 0, .ref q40, .ref q41, .int 0, .int 0, .int 0, .int 0, .int 0, .int 0, .int 0, .ref q42, .int 0, .int 0, .ref q43, .ref q44, .ref q45, .ref q46, .ref q47, .ref q48, .int 0, .ref q49])), (q1, .inl (gK X 2, 3000, .inl (upd (t7) (7 : Int32).toNatClampNeg (vp_nar .byte (((fv (1 : Int32).toNatClampNeg) >>> (0 &&& 31))).toInt8.toInt32)))), (q8, .inl (gK X 0, 5, .inl (fv)))]) (z := 80) C dX30_feed_79 1 rfl (by unfold vp_in; decide) rfl rfl ?_
  generalize ht8 : upd (t7) (7 : Int32).toNatClampNeg (vp_nar .byte (((fv (1 : Int32).toNatClampNeg) >>> (0 &&& 31))).toInt8.toInt32) = t8
  refine g_aload_n (z := 81) C dX30_feed_80 2 rfl rfl rfl ?_
  refine g_dup (z := 82) C dX30_feed_81 rfl rfl ?_
  refine g_get (z := 85) C kX30 dX30_feed_82 0 rfl 1 (by decide) w_461 rfl rfl rfl ?_
  refine g_iconst (v := 1) (z := 86) C dX30_feed_85 (by decide) rfl ?_
  refine g_iadd (v := 8) (z := 87) C dX30_feed_86 (by decide) rfl ?_
  refine g_put (w2 := [(h0, .inr (13, [.ref q1, .int 8, .int 0, .int 0, .int 0, .ref q2, .ref q3, .ref q4, .ref q5, .int 0, .int 0, .int 0, .ref q6, .ref q7, .ref q9, .null, .null, .ref q10, .ref q11, .int 0, .ref q12, .ref q13, .ref q14, .int 0, .ref q15, .null, .ref q16, .null, .null, .int 0, .ref q17, .ref q18, .int 0, .ref q19, .ref q20, .ref q21, .ref q22, .int 0, .ref q23, .ref q24, .ref q25, .ref q26, .null, .ref q27, .int (-1), .int (-1), .int (-1), .ref q28, .ref q29, .ref q30, .ref q31, .ref q32, .ref q33, .ref q34, .ref q35, .int 0, .int 0, .long 0, .ref q36, .int 0, .int 0, .int 0, .int 0, .int 0, .ref q37, .int 0, .ref q38, .ref q39, .int 0, .int 0, .int 0, .int 0, .int 0, .int 0, .int 0, .ref q40, .ref q41, .int 0, .int 0, .int 0, .int 0, .int 0, .int 0, .int 0, .ref q42, .int 0, .int 0, .ref q43, .ref q44, .ref q45, .ref q46, .ref q47, .ref q48, .int 0, .ref q49])), (q1, .inl (gK X 2, 3000, .inl (t8))), (q8, .inl (gK X 0, 5, .inl (fv)))]) (z := 90) C kX30 dX30_feed_87 0 rfl 1 (by decide) w_461 rfl rfl rfl rfl (Nat.le_of_ble_eq_true rfl) rfl rfl ?_
  refine g_iinc (v := 8) (l2 := [(7, .int 8), (6, .ref q8), (0, .ref h0), (1, .int n1), (2, .int n2), (3, .int n3), (4, .int n4), (5, .int n5)]) (z := 93) C dX30_feed_90 0 rfl (by decide) (by decide) rfl rfl ?_
  refine g_goto (z := 45) C dX30_feed_93 (by decide) ?_
  refine g_iload (z := 47) C dX30_feed_45 0 rfl rfl ?_
  refine g_bipush (v := 20) (z := 49) C dX30_feed_47 (by decide) rfl ?_
  refine g_icmp_ge_f (z := 52) 96 C dX30_feed_49 (by decide) (by decide) rfl ?_
  refine g_aload_n (z := 53) C dX30_feed_52 2 rfl rfl rfl ?_
  refine g_get (z := 56) C kX30 dX30_feed_53 0 rfl 0 (by decide) w_385 rfl rfl rfl ?_
  refine g_aload_n (z := 57) C dX30_feed_56 2 rfl rfl rfl ?_
  refine g_get (z := 60) C kX30 dX30_feed_57 0 rfl 1 (by decide) w_461 rfl rfl rfl ?_
  refine g_aload (z := 62) C dX30_feed_60 1 rfl rfl ?_
  refine g_iload (z := 64) C dX30_feed_62 0 rfl rfl ?_
  refine g_iconst (v := 4) (z := 65) C dX30_feed_64 (by decide) rfl ?_
  refine g_idiv (v := 2) (z := 66) C dX30_feed_65 (by decide) (by decide) rfl ?_
  refine g_iald (v := (fv (2 : Int32).toNatClampNeg)) (z := 67) C dX30_feed_66 2 rfl (by unfold vp_in; decide) rfl rfl ?_
  refine g_bipush (v := 24) (z := 69) C dX30_feed_67 (by decide) rfl ?_
  refine g_bipush (v := 8) (z := 71) C dX30_feed_69 (by decide) rfl ?_
  refine g_iload (z := 73) C dX30_feed_71 0 rfl rfl ?_
  refine g_iconst (v := 4) (z := 74) C dX30_feed_73 (by decide) rfl ?_
  refine g_irem (v := 0) (z := 75) C dX30_feed_74 (by decide) (by decide) rfl ?_
  refine g_imul (v := 0) (z := 76) C dX30_feed_75 (by decide) rfl ?_
  refine g_isub (v := 24) (z := 77) C dX30_feed_76 (by decide) rfl ?_
  refine g_ishr (v := ((fv (2 : Int32).toNatClampNeg) >>> (24 &&& 31))) (z := 78) C dX30_feed_77 (rfl) rfl ?_
  refine g_i2b (v := (((fv (2 : Int32).toNatClampNeg) >>> (24 &&& 31))).toInt8.toInt32) (z := 79) C dX30_feed_78 rfl rfl ?_
  refine g_bast (w2 := [(h0, .inr (13, [.ref q1, .int 8, .int 0, .int 0, .int 0, .ref q2, .ref q3, .ref q4, .ref q5, .int 0, .int 0, .int 0, .ref q6, .ref q7, .ref q9, .null, .null, .ref q10, .ref q11, .int 0, .ref q12, .ref q13, .ref q14, .int 0, .ref q15, .null, .ref q16, .null, .null, .int 0, .ref q17, .ref q18, .int 0, .ref q19, .ref q20, .ref q21, .ref q22, .int 0, .ref q23, .ref q24, .ref q25, .ref q26, .null, .ref q27, .int (-1), .int (-1), .int (-1), .ref q28, .ref q29, .ref q30, .ref q31, .ref q32, .ref q33, .ref q34, .ref q35, .int 0, .int 0, .long 0, .ref q36, .int 0, .int 0, .int 0, .int 0, .int 0, .ref q37, .int 0, .ref q38, .ref q39, .int 0, .int 0, .int 0, .int 0, .int 0, .int 0, .int 0, .ref q40, .ref q41, .int 0, .int 0, .int 0, .int 0, .int 0, .int 0, .int 0, .ref q42, .int 0, .int 0, .ref q43, .ref q44, .ref q45, .ref q46, .ref q47, .ref q48, .int 0, .ref q49])), (q1, .inl (gK X 2, 3000, .inl (upd (t8) (8 : Int32).toNatClampNeg (vp_nar .byte (((fv (2 : Int32).toNatClampNeg) >>> (24 &&& 31))).toInt8.toInt32)))), (q8, .inl (gK X 0, 5, .inl (fv)))]) (z := 80) C dX30_feed_79 1 rfl (by unfold vp_in; decide) rfl rfl ?_
  generalize ht9 : upd (t8) (8 : Int32).toNatClampNeg (vp_nar .byte (((fv (2 : Int32).toNatClampNeg) >>> (24 &&& 31))).toInt8.toInt32) = t9
  refine g_aload_n (z := 81) C dX30_feed_80 2 rfl rfl rfl ?_
  refine g_dup (z := 82) C dX30_feed_81 rfl rfl ?_
  refine g_get (z := 85) C kX30 dX30_feed_82 0 rfl 1 (by decide) w_461 rfl rfl rfl ?_
  refine g_iconst (v := 1) (z := 86) C dX30_feed_85 (by decide) rfl ?_
  refine g_iadd (v := 9) (z := 87) C dX30_feed_86 (by decide) rfl ?_
  refine g_put (w2 := [(h0, .inr (13, [.ref q1, .int 9, .int 0, .int 0, .int 0, .ref q2, .ref q3, .ref q4, .ref q5, .int 0, .int 0, .int 0, .ref q6, .ref q7, .ref q9, .null, .null, .ref q10, .ref q11, .int 0, .ref q12, .ref q13, .ref q14, .int 0, .ref q15, .null, .ref q16, .null, .null, .int 0, .ref q17, .ref q18, .int 0, .ref q19, .ref q20, .ref q21, .ref q22, .int 0, .ref q23, .ref q24, .ref q25, .ref q26, .null, .ref q27, .int (-1), .int (-1), .int (-1), .ref q28, .ref q29, .ref q30, .ref q31, .ref q32, .ref q33, .ref q34, .ref q35, .int 0, .int 0, .long 0, .ref q36, .int 0, .int 0, .int 0, .int 0, .int 0, .ref q37, .int 0, .ref q38, .ref q39, .int 0, .int 0, .int 0, .int 0, .int 0, .int 0, .int 0, .ref q40, .ref q41, .int 0, .int 0, .int 0, .int 0, .int 0, .int 0, .int 0, .ref q42, .int 0, .int 0, .ref q43, .ref q44, .ref q45, .ref q46, .ref q47, .ref q48, .int 0, .ref q49])), (q1, .inl (gK X 2, 3000, .inl (t9))), (q8, .inl (gK X 0, 5, .inl (fv)))]) (z := 90) C kX30 dX30_feed_87 0 rfl 1 (by decide) w_461 rfl rfl rfl rfl (Nat.le_of_ble_eq_true rfl) rfl rfl ?_
  refine g_iinc (v := 9) (l2 := [(7, .int 9), (6, .ref q8), (0, .ref h0), (1, .int n1), (2, .int n2), (3, .int n3), (4, .int n4), (5, .int n5)]) (z := 93) C dX30_feed_90 0 rfl (by decide) (by decide) rfl rfl ?_
  refine g_goto (z := 45) C dX30_feed_93 (by decide) ?_
  refine g_iload (z := 47) C dX30_feed_45 0 rfl rfl ?_
  refine g_bipush (v := 20) (z := 49) C dX30_feed_47 (by decide) rfl ?_
  refine g_icmp_ge_f (z := 52) 96 C dX30_feed_49 (by decide) (by decide) rfl ?_
  refine g_aload_n (z := 53) C dX30_feed_52 2 rfl rfl rfl ?_
  refine g_get (z := 56) C kX30 dX30_feed_53 0 rfl 0 (by decide) w_385 rfl rfl rfl ?_
  refine g_aload_n (z := 57) C dX30_feed_56 2 rfl rfl rfl ?_
  refine g_get (z := 60) C kX30 dX30_feed_57 0 rfl 1 (by decide) w_461 rfl rfl rfl ?_
  refine g_aload (z := 62) C dX30_feed_60 1 rfl rfl ?_
  refine g_iload (z := 64) C dX30_feed_62 0 rfl rfl ?_
  refine g_iconst (v := 4) (z := 65) C dX30_feed_64 (by decide) rfl ?_
  refine g_idiv (v := 2) (z := 66) C dX30_feed_65 (by decide) (by decide) rfl ?_
  refine g_iald (v := (fv (2 : Int32).toNatClampNeg)) (z := 67) C dX30_feed_66 2 rfl (by unfold vp_in; decide) rfl rfl ?_
  refine g_bipush (v := 24) (z := 69) C dX30_feed_67 (by decide) rfl ?_
  refine g_bipush (v := 8) (z := 71) C dX30_feed_69 (by decide) rfl ?_
  refine g_iload (z := 73) C dX30_feed_71 0 rfl rfl ?_
  refine g_iconst (v := 4) (z := 74) C dX30_feed_73 (by decide) rfl ?_
  refine g_irem (v := 1) (z := 75) C dX30_feed_74 (by decide) (by decide) rfl ?_
  refine g_imul (v := 8) (z := 76) C dX30_feed_75 (by decide) rfl ?_
  refine g_isub (v := 16) (z := 77) C dX30_feed_76 (by decide) rfl ?_
  refine g_ishr (v := ((fv (2 : Int32).toNatClampNeg) >>> (16 &&& 31))) (z := 78) C dX30_feed_77 (rfl) rfl ?_
  refine g_i2b (v := (((fv (2 : Int32).toNatClampNeg) >>> (16 &&& 31))).toInt8.toInt32) (z := 79) C dX30_feed_78 rfl rfl ?_
  refine g_bast (w2 := [(h0, .inr (13, [.ref q1, .int 9, .int 0, .int 0, .int 0, .ref q2, .ref q3, .ref q4, .ref q5, .int 0, .int 0, .int 0, .ref q6, .ref q7, .ref q9, .null, .null, .ref q10, .ref q11, .int 0, .ref q12, .ref q13, .ref q14, .int 0, .ref q15, .null, .ref q16, .null, .null, .int 0, .ref q17, .ref q18, .int 0, .ref q19, .ref q20, .ref q21, .ref q22, .int 0, .ref q23, .ref q24, .ref q25, .ref q26, .null, .ref q27, .int (-1), .int (-1), .int (-1), .ref q28, .ref q29, .ref q30, .ref q31, .ref q32, .ref q33, .ref q34, .ref q35, .int 0, .int 0, .long 0, .ref q36, .int 0, .int 0, .int 0, .int 0, .int 0, .ref q37, .int 0, .ref q38, .ref q39, .int 0, .int 0, .int 0, .int 0, .int 0, .int 0, .int 0, .ref q40, .ref q41, .int 0, .int 0, .int 0, .int 0, .int 0, .int 0, .int 0, .ref q42, .int 0, .int 0, .ref q43, .ref q44, .ref q45, .ref q46, .ref q47, .ref q48, .int 0, .ref q49])), (q1, .inl (gK X 2, 3000, .inl (upd (t9) (9 : Int32).toNatClampNeg (vp_nar .byte (((fv (2 : Int32).toNatClampNeg) >>> (16 &&& 31))).toInt8.toInt32)))), (q8, .inl (gK X 0, 5, .inl (fv)))]) (z := 80) C dX30_feed_79 1 rfl (by unfold vp_in; decide) rfl rfl ?_
  generalize ht10 : upd (t9) (9 : Int32).toNatClampNeg (vp_nar .byte (((fv (2 : Int32).toNatClampNeg) >>> (16 &&& 31))).toInt8.toInt32) = t10
  refine g_aload_n (z := 81) C dX30_feed_80 2 rfl rfl rfl ?_
  refine g_dup (z := 82) C dX30_feed_81 rfl rfl ?_
  refine g_get (z := 85) C kX30 dX30_feed_82 0 rfl 1 (by decide) w_461 rfl rfl rfl ?_
  refine g_iconst (v := 1) (z := 86) C dX30_feed_85 (by decide) rfl ?_
  refine g_iadd (v := 10) (z := 87) C dX30_feed_86 (by decide) rfl ?_
  refine g_put (w2 := [(h0, .inr (13, [.ref q1, .int 10, .int 0, .int 0, .int 0, .ref q2, .ref q3, .ref q4, .ref q5, .int 0, .int 0, .int 0, .ref q6, .ref q7, .ref q9, .null, .null, .ref q10, .ref q11, .int 0, .ref q12, .ref q13, .ref q14, .int 0, .ref q15, .null, .ref q16, .null, .null, .int 0, .ref q17, .ref q18, .int 0, .ref q19, .ref q20, .ref q21, .ref q22, .int 0, .ref q23, .ref q24, .ref q25, .ref q26, .null, .ref q27, .int (-1), .int (-1), .int (-1), .ref q28, .ref q29, .ref q30, .ref q31, .ref q32, .ref q33, .ref q34, .ref q35, .int 0, .int 0, .long 0, .ref q36, .int 0, .int 0, .int 0, .int 0, .int 0, .ref q37, .int 0, .ref q38, .ref q39, .int 0, .int 0, .int 0, .int 0, .int 0, .int 0, .int 0, .ref q40, .ref q41, .int 0, .int 0, .int 0, .int 0, .int 0, .int 0, .int 0, .ref q42, .int 0, .int 0, .ref q43, .ref q44, .ref q45, .ref q46, .ref q47, .ref q48, .int 0, .ref q49])), (q1, .inl (gK X 2, 3000, .inl (t10))), (q8, .inl (gK X 0, 5, .inl (fv)))]) (z := 90) C kX30 dX30_feed_87 0 rfl 1 (by decide) w_461 rfl rfl rfl rfl (Nat.le_of_ble_eq_true rfl) rfl rfl ?_
  refine g_iinc (v := 10) (l2 := [(7, .int 10), (6, .ref q8), (0, .ref h0), (1, .int n1), (2, .int n2), (3, .int n3), (4, .int n4), (5, .int n5)]) (z := 93) C dX30_feed_90 0 rfl (by decide) (by decide) rfl rfl ?_
  refine g_goto (z := 45) C dX30_feed_93 (by decide) ?_
  refine g_iload (z := 47) C dX30_feed_45 0 rfl rfl ?_
  refine g_bipush (v := 20) (z := 49) C dX30_feed_47 (by decide) rfl ?_
  refine g_icmp_ge_f (z := 52) 96 C dX30_feed_49 (by decide) (by decide) rfl ?_
  refine g_aload_n (z := 53) C dX30_feed_52 2 rfl rfl rfl ?_
  refine g_get (z := 56) C kX30 dX30_feed_53 0 rfl 0 (by decide) w_385 rfl rfl rfl ?_
  refine g_aload_n (z := 57) C dX30_feed_56 2 rfl rfl rfl ?_
  refine g_get (z := 60) C kX30 dX30_feed_57 0 rfl 1 (by decide) w_461 rfl rfl rfl ?_
  refine g_aload (z := 62) C dX30_feed_60 1 rfl rfl ?_
  refine g_iload (z := 64) C dX30_feed_62 0 rfl rfl ?_
  refine g_iconst (v := 4) (z := 65) C dX30_feed_64 (by decide) rfl ?_
  refine g_idiv (v := 2) (z := 66) C dX30_feed_65 (by decide) (by decide) rfl ?_
  refine g_iald (v := (fv (2 : Int32).toNatClampNeg)) (z := 67) C dX30_feed_66 2 rfl (by unfold vp_in; decide) rfl rfl ?_
  refine g_bipush (v := 24) (z := 69) C dX30_feed_67 (by decide) rfl ?_
  refine g_bipush (v := 8) (z := 71) C dX30_feed_69 (by decide) rfl ?_
  refine g_iload (z := 73) C dX30_feed_71 0 rfl rfl ?_
  refine g_iconst (v := 4) (z := 74) C dX30_feed_73 (by decide) rfl ?_
  refine g_irem (v := 2) (z := 75) C dX30_feed_74 (by decide) (by decide) rfl ?_
  refine g_imul (v := 16) (z := 76) C dX30_feed_75 (by decide) rfl ?_
  refine g_isub (v := 8) (z := 77) C dX30_feed_76 (by decide) rfl ?_
  refine g_ishr (v := ((fv (2 : Int32).toNatClampNeg) >>> (8 &&& 31))) (z := 78) C dX30_feed_77 (rfl) rfl ?_
  refine g_i2b (v := (((fv (2 : Int32).toNatClampNeg) >>> (8 &&& 31))).toInt8.toInt32) (z := 79) C dX30_feed_78 rfl rfl ?_
  refine g_bast (w2 := [(h0, .inr (13, [.ref q1, .int 10, .int 0, .int 0, .int 0, .ref q2, .ref q3, .ref q4, .ref q5, .int 0, .int 0, .int 0, .ref q6, .ref q7, .ref q9, .null, .null, .ref q10, .ref q11, .int 0, .ref q12, .ref q13, .ref q14, .int 0, .ref q15, .null, .ref q16, .null, .null, .int 0, .ref q17, .ref q18, .int 0, .ref q19, .ref q20, .ref q21, .ref q22, .int 0, .ref q23, .ref q24, .ref q25, .ref q26, .null, .ref q27, .int (-1), .int (-1), .int (-1), .ref q28, .ref q29, .ref q30, .ref q31, .ref q32, .ref q33, .ref q34, .ref q35, .int 0, .int 0, .long 0, .ref q36, .int 0, .int 0, .int 0, .int 0, .int 0, .ref q37, .int 0, .ref q38, .ref q39, .int 0, .int 0, .int 0, .int 0, .int 0, .int 0, .int 0, .ref q40, .ref q41, .int 0, .int 0, .int 0, .int 0, .int 0, .int 0, .int 0, .ref q42, .int 0, .int 0, .ref q43, .ref q44, .ref q45, .ref q46, .ref q47, .ref q48, .int 0, .ref q49])), (q1, .inl (gK X 2, 3000, .inl (upd (t10) (10 : Int32).toNatClampNeg (vp_nar .byte (((fv (2 : Int32).toNatClampNeg) >>> (8 &&& 31))).toInt8.toInt32)))), (q8, .inl (gK X 0, 5, .inl (fv)))]) (z := 80) C dX30_feed_79 1 rfl (by unfold vp_in; decide) rfl rfl ?_
  generalize ht11 : upd (t10) (10 : Int32).toNatClampNeg (vp_nar .byte (((fv (2 : Int32).toNatClampNeg) >>> (8 &&& 31))).toInt8.toInt32) = t11
  refine g_aload_n (z := 81) C dX30_feed_80 2 rfl rfl rfl ?_
  refine g_dup (z := 82) C dX30_feed_81 rfl rfl ?_
  refine g_get (z := 85) C kX30 dX30_feed_82 0 rfl 1 (by decide) w_461 rfl rfl rfl ?_
  refine g_iconst (v := 1) (z := 86) C dX30_feed_85 (by decide) rfl ?_
  refine g_iadd (v := 11) (z := 87) C dX30_feed_86 (by decide) rfl ?_
  refine g_put (w2 := [(h0, .inr (13, [.ref q1, .int 11, .int 0, .int 0, .int 0, .ref q2, .ref q3, .ref q4, .ref q5, .int 0, .int 0, .int 0, .ref q6, .ref q7, .ref q9, .null, .null, .ref q10, .ref q11, .int 0, .ref q12, .ref q13, .ref q14, .int 0, .ref q15, .null, .ref q16, .null, .null, .int 0, .ref q17, .ref q18, .int 0, .ref q19, .ref q20, .ref q21, .ref q22, .int 0, .ref q23, .ref q24, .ref q25, .ref q26, .null, .ref q27, .int (-1), .int (-1), .int (-1), .ref q28, .ref q29, .ref q30, .ref q31, .ref q32, .ref q33, .ref q34, .ref q35, .int 0, .int 0, .long 0, .ref q36, .int 0, .int 0, .int 0, .int 0, .int 0, .ref q37, .int 0, .ref q38, .ref q39, .int 0, .int 0, .int 0, .int 0, .int 0, .int 0, .int 0, .ref q40, .ref q41, .int 0, .int 0, .int 0, .int 0, .int 0, .int 0, .int 0, .ref q42, .int 0, .int 0, .ref q43, .ref q44, .ref q45, .ref q46, .ref q47, .ref q48, .int 0, .ref q49])), (q1, .inl (gK X 2, 3000, .inl (t11))), (q8, .inl (gK X 0, 5, .inl (fv)))]) (z := 90) C kX30 dX30_feed_87 0 rfl 1 (by decide) w_461 rfl rfl rfl rfl (Nat.le_of_ble_eq_true rfl) rfl rfl ?_
  refine g_iinc (v := 11) (l2 := [(7, .int 11), (6, .ref q8), (0, .ref h0), (1, .int n1), (2, .int n2), (3, .int n3), (4, .int n4), (5, .int n5)]) (z := 93) C dX30_feed_90 0 rfl (by decide) (by decide) rfl rfl ?_
  refine g_goto (z := 45) C dX30_feed_93 (by decide) ?_
  refine g_iload (z := 47) C dX30_feed_45 0 rfl rfl ?_
  refine g_bipush (v := 20) (z := 49) C dX30_feed_47 (by decide) rfl ?_
  refine g_icmp_ge_f (z := 52) 96 C dX30_feed_49 (by decide) (by decide) rfl ?_
  refine g_aload_n (z := 53) C dX30_feed_52 2 rfl rfl rfl ?_
  refine g_get (z := 56) C kX30 dX30_feed_53 0 rfl 0 (by decide) w_385 rfl rfl rfl ?_
  refine g_aload_n (z := 57) C dX30_feed_56 2 rfl rfl rfl ?_
  refine g_get (z := 60) C kX30 dX30_feed_57 0 rfl 1 (by decide) w_461 rfl rfl rfl ?_
  refine g_aload (z := 62) C dX30_feed_60 1 rfl rfl ?_
  refine g_iload (z := 64) C dX30_feed_62 0 rfl rfl ?_
  refine g_iconst (v := 4) (z := 65) C dX30_feed_64 (by decide) rfl ?_
  refine g_idiv (v := 2) (z := 66) C dX30_feed_65 (by decide) (by decide) rfl ?_
  refine g_iald (v := (fv (2 : Int32).toNatClampNeg)) (z := 67) C dX30_feed_66 2 rfl (by unfold vp_in; decide) rfl rfl ?_
  refine g_bipush (v := 24) (z := 69) C dX30_feed_67 (by decide) rfl ?_
  refine g_bipush (v := 8) (z := 71) C dX30_feed_69 (by decide) rfl ?_
  refine g_iload (z := 73) C dX30_feed_71 0 rfl rfl ?_
  refine g_iconst (v := 4) (z := 74) C dX30_feed_73 (by decide) rfl ?_
  refine g_irem (v := 3) (z := 75) C dX30_feed_74 (by decide) (by decide) rfl ?_
  refine g_imul (v := 24) (z := 76) C dX30_feed_75 (by decide) rfl ?_
  refine g_isub (v := 0) (z := 77) C dX30_feed_76 (by decide) rfl ?_
  refine g_ishr (v := ((fv (2 : Int32).toNatClampNeg) >>> (0 &&& 31))) (z := 78) C dX30_feed_77 (rfl) rfl ?_
  refine g_i2b (v := (((fv (2 : Int32).toNatClampNeg) >>> (0 &&& 31))).toInt8.toInt32) (z := 79) C dX30_feed_78 rfl rfl ?_
  refine g_bast (w2 := [(h0, .inr (13, [.ref q1, .int 11, .int 0, .int 0, .int 0, .ref q2, .ref q3, .ref q4, .ref q5, .int 0, .int 0, .int 0, .ref q6, .ref q7, .ref q9, .null, .null, .ref q10, .ref q11, .int 0, .ref q12, .ref q13, .ref q14, .int 0, .ref q15, .null, .ref q16, .null, .null, .int 0, .ref q17, .ref q18, .int 0, .ref q19, .ref q20, .ref q21, .ref q22, .int 0, .ref q23, .ref q24, .ref q25, .ref q26, .null, .ref q27, .int (-1), .int (-1), .int (-1), .ref q28, .ref q29, .ref q30, .ref q31, .ref q32, .ref q33, .ref q34, .ref q35, .int 0, .int 0, .long 0, .ref q36, .int 0, .int 0, .int 0, .int 0, .int 0, .ref q37, .int 0, .ref q38, .ref q39, .int 0, .int 0, .int 0, .int 0, .int 0, .int 0, .int 0, .ref q40, .ref q41, .int 0, .int 0, .int 0, .int 0, .int 0, .int 0, .int 0, .ref q42, .int 0, .int 0, .ref q43, .ref q44, .ref q45, .ref q46, .ref q47, .ref q48, .int 0, .ref q49])), (q1, .inl (gK X 2, 3000, .inl (upd (t11) (11 : Int32).toNatClampNeg (vp_nar .byte (((fv (2 : Int32).toNatClampNeg) >>> (0 &&& 31))).toInt8.toInt32)))), (q8, .inl (gK X 0, 5, .inl (fv)))]) (z := 80) C dX30_feed_79 1 rfl (by unfold vp_in; decide) rfl rfl ?_
  generalize ht12 : upd (t11) (11 : Int32).toNatClampNeg (vp_nar .byte (((fv (2 : Int32).toNatClampNeg) >>> (0 &&& 31))).toInt8.toInt32) = t12
  refine g_aload_n (z := 81) C dX30_feed_80 2 rfl rfl rfl ?_
  refine g_dup (z := 82) C dX30_feed_81 rfl rfl ?_
  refine g_get (z := 85) C kX30 dX30_feed_82 0 rfl 1 (by decide) w_461 rfl rfl rfl ?_
  refine g_iconst (v := 1) (z := 86) C dX30_feed_85 (by decide) rfl ?_
  refine g_iadd (v := 12) (z := 87) C dX30_feed_86 (by decide) rfl ?_
  refine g_put (w2 := [(h0, .inr (13, [.ref q1, .int 12, .int 0, .int 0, .int 0, .ref q2, .ref q3, .ref q4, .ref q5, .int 0, .int 0, .int 0, .ref q6, .ref q7, .ref q9, .null, .null, .ref q10, .ref q11, .int 0, .ref q12, .ref q13, .ref q14, .int 0, .ref q15, .null, .ref q16, .null, .null, .int 0, .ref q17, .ref q18, .int 0, .ref q19, .ref q20, .ref q21, .ref q22, .int 0, .ref q23, .ref q24, .ref q25, .ref q26, .null, .ref q27, .int (-1), .int (-1), .int (-1), .ref q28, .ref q29, .ref q30, .ref q31, .ref q32, .ref q33, .ref q34, .ref q35, .int 0, .int 0, .long 0, .ref q36, .int 0, .int 0, .int 0, .int 0, .int 0, .ref q37, .int 0, .ref q38, .ref q39, .int 0, .int 0, .int 0, .int 0, .int 0, .int 0, .int 0, .ref q40, .ref q41, .int 0, .int 0, .int 0, .int 0, .int 0, .int 0, .int 0, .ref q42, .int 0, .int 0, .ref q43, .ref q44, .ref q45, .ref q46, .ref q47, .ref q48, .int 0, .ref q49])), (q1, .inl (gK X 2, 3000, .inl (t12))), (q8, .inl (gK X 0, 5, .inl (fv)))]) (z := 90) C kX30 dX30_feed_87 0 rfl 1 (by decide) w_461 rfl rfl rfl rfl (Nat.le_of_ble_eq_true rfl) rfl rfl ?_
  refine g_iinc (v := 12) (l2 := [(7, .int 12), (6, .ref q8), (0, .ref h0), (1, .int n1), (2, .int n2), (3, .int n3), (4, .int n4), (5, .int n5)]) (z := 93) C dX30_feed_90 0 rfl (by decide) (by decide) rfl rfl ?_
  refine g_goto (z := 45) C dX30_feed_93 (by decide) ?_
  refine g_iload (z := 47) C dX30_feed_45 0 rfl rfl ?_
  refine g_bipush (v := 20) (z := 49) C dX30_feed_47 (by decide) rfl ?_
  refine g_icmp_ge_f (z := 52) 96 C dX30_feed_49 (by decide) (by decide) rfl ?_
  refine g_aload_n (z := 53) C dX30_feed_52 2 rfl rfl rfl ?_
  refine g_get (z := 56) C kX30 dX30_feed_53 0 rfl 0 (by decide) w_385 rfl rfl rfl ?_
  refine g_aload_n (z := 57) C dX30_feed_56 2 rfl rfl rfl ?_
  refine g_get (z := 60) C kX30 dX30_feed_57 0 rfl 1 (by decide) w_461 rfl rfl rfl ?_
  refine g_aload (z := 62) C dX30_feed_60 1 rfl rfl ?_
  refine g_iload (z := 64) C dX30_feed_62 0 rfl rfl ?_
  refine g_iconst (v := 4) (z := 65) C dX30_feed_64 (by decide) rfl ?_
  refine g_idiv (v := 3) (z := 66) C dX30_feed_65 (by decide) (by decide) rfl ?_
  refine g_iald (v := (fv (3 : Int32).toNatClampNeg)) (z := 67) C dX30_feed_66 2 rfl (by unfold vp_in; decide) rfl rfl ?_
  refine g_bipush (v := 24) (z := 69) C dX30_feed_67 (by decide) rfl ?_
  refine g_bipush (v := 8) (z := 71) C dX30_feed_69 (by decide) rfl ?_
  refine g_iload (z := 73) C dX30_feed_71 0 rfl rfl ?_
  refine g_iconst (v := 4) (z := 74) C dX30_feed_73 (by decide) rfl ?_
  refine g_irem (v := 0) (z := 75) C dX30_feed_74 (by decide) (by decide) rfl ?_
  refine g_imul (v := 0) (z := 76) C dX30_feed_75 (by decide) rfl ?_
  refine g_isub (v := 24) (z := 77) C dX30_feed_76 (by decide) rfl ?_
  refine g_ishr (v := ((fv (3 : Int32).toNatClampNeg) >>> (24 &&& 31))) (z := 78) C dX30_feed_77 (rfl) rfl ?_
  refine g_i2b (v := (((fv (3 : Int32).toNatClampNeg) >>> (24 &&& 31))).toInt8.toInt32) (z := 79) C dX30_feed_78 rfl rfl ?_
  refine g_bast (w2 := [(h0, .inr (13, [.ref q1, .int 12, .int 0, .int 0, .int 0, .ref q2, .ref q3, .ref q4, .ref q5, .int 0, .int 0, .int 0, .ref q6, .ref q7, .ref q9, .null, .null, .ref q10, .ref q11, .int 0, .ref q12, .ref q13, .ref q14, .int 0, .ref q15, .null, .ref q16, .null, .null, .int 0, .ref q17, .ref q18, .int 0, .ref q19, .ref q20, .ref q21, .ref q22, .int 0, .ref q23, .ref q24, .ref q25, .ref q26, .null, .ref q27, .int (-1), .int (-1), .int (-1), .ref q28, .ref q29, .ref q30, .ref q31, .ref q32, .ref q33, .ref q34, .ref q35, .int 0, .int 0, .long 0, .ref q36, .int 0, .int 0, .int 0, .int 0, .int 0, .ref q37, .int 0, .ref q38, .ref q39, .int 0, .int 0, .int 0, .int 0, .int 0, .int 0, .int 0, .ref q40, .ref q41, .int 0, .int 0, .int 0, .int 0, .int 0, .int 0, .int 0, .ref q42, .int 0, .int 0, .ref q43, .ref q44, .ref q45, .ref q46, .ref q47, .ref q48, .int 0, .ref q49])), (q1, .inl (gK X 2, 3000, .inl (upd (t12) (12 : Int32).toNatClampNeg (vp_nar .byte (((fv (3 : Int32).toNatClampNeg) >>> (24 &&& 31))).toInt8.toInt32)))), (q8, .inl (gK X 0, 5, .inl (fv)))]) (z := 80) C dX30_feed_79 1 rfl (by unfold vp_in; decide) rfl rfl ?_
  generalize ht13 : upd (t12) (12 : Int32).toNatClampNeg (vp_nar .byte (((fv (3 : Int32).toNatClampNeg) >>> (24 &&& 31))).toInt8.toInt32) = t13
  refine g_aload_n (z := 81) C dX30_feed_80 2 rfl rfl rfl ?_
  refine g_dup (z := 82) C dX30_feed_81 rfl rfl ?_
  refine g_get (z := 85) C kX30 dX30_feed_82 0 rfl 1 (by decide) w_461 rfl rfl rfl ?_
  refine g_iconst (v := 1) (z := 86) C dX30_feed_85 (by decide) rfl ?_
  refine g_iadd (v := 13) (z := 87) C dX30_feed_86 (by decide) rfl ?_
  refine g_put (w2 := [(h0, .inr (13, [.ref q1, .int 13, .int 0, .int 0, .int 0, .ref q2, .ref q3, .ref q4, .ref q5, .int 0, .int 0, .int 0, .ref q6, .ref q7, .ref q9, .null, .null, .ref q10, .ref q11, .int 0, .ref q12, .ref q13, .ref q14, .int 0, .ref q15, .null, .ref q16, .null, .null, .int 0, .ref q17, .ref q18, .int 0, .ref q19, .ref q20, .ref q21, .ref q22, .int 0, .ref q23, .ref q24, .ref q25, .ref q26, .null, .ref q27, .int (-1), .int (-1), .int (-1), .ref q28, .ref q29, .ref q30, .ref q31, .ref q32, .ref q33, .ref q34, .ref q35, .int 0, .int 0, .long 0, .ref q36, .int 0, .int 0, .int 0, .int 0, .int 0, .ref q37, .int 0, .ref q38, .ref q39, .int 0, .int 0, .int 0, .int 0, .int 0, .int 0, .int 0, .ref q40, .ref q41, .int 0, .int 0, .int 0, .int 0, .int 0, .int 0, .int 0, .ref q42, .int 0, .int 0, .ref q43, .ref q44, .ref q45, .ref q46, .ref q47, .ref q48, .int 0, .ref q49])), (q1, .inl (gK X 2, 3000, .inl (t13))), (q8, .inl (gK X 0, 5, .inl (fv)))]) (z := 90) C kX30 dX30_feed_87 0 rfl 1 (by decide) w_461 rfl rfl rfl rfl (Nat.le_of_ble_eq_true rfl) rfl rfl ?_
  refine g_iinc (v := 13) (l2 := [(7, .int 13), (6, .ref q8), (0, .ref h0), (1, .int n1), (2, .int n2), (3, .int n3), (4, .int n4), (5, .int n5)]) (z := 93) C dX30_feed_90 0 rfl (by decide) (by decide) rfl rfl ?_
  refine g_goto (z := 45) C dX30_feed_93 (by decide) ?_
  refine g_iload (z := 47) C dX30_feed_45 0 rfl rfl ?_
  refine g_bipush (v := 20) (z := 49) C dX30_feed_47 (by decide) rfl ?_
  refine g_icmp_ge_f (z := 52) 96 C dX30_feed_49 (by decide) (by decide) rfl ?_
  refine g_aload_n (z := 53) C dX30_feed_52 2 rfl rfl rfl ?_
  refine g_get (z := 56) C kX30 dX30_feed_53 0 rfl 0 (by decide) w_385 rfl rfl rfl ?_
  refine g_aload_n (z := 57) C dX30_feed_56 2 rfl rfl rfl ?_
  refine g_get (z := 60) C kX30 dX30_feed_57 0 rfl 1 (by decide) w_461 rfl rfl rfl ?_
  refine g_aload (z := 62) C dX30_feed_60 1 rfl rfl ?_
  refine g_iload (z := 64) C dX30_feed_62 0 rfl rfl ?_
  refine g_iconst (v := 4) (z := 65) C dX30_feed_64 (by decide) rfl ?_
  refine g_idiv (v := 3) (z := 66) C dX30_feed_65 (by decide) (by decide) rfl ?_
  refine g_iald (v := (fv (3 : Int32).toNatClampNeg)) (z := 67) C dX30_feed_66 2 rfl (by unfold vp_in; decide) rfl rfl ?_
  refine g_bipush (v := 24) (z := 69) C dX30_feed_67 (by decide) rfl ?_
  refine g_bipush (v := 8) (z := 71) C dX30_feed_69 (by decide) rfl ?_
  refine g_iload (z := 73) C dX30_feed_71 0 rfl rfl ?_
  refine g_iconst (v := 4) (z := 74) C dX30_feed_73 (by decide) rfl ?_
  refine g_irem (v := 1) (z := 75) C dX30_feed_74 (by decide) (by decide) rfl ?_
  refine g_imul (v := 8) (z := 76) C dX30_feed_75 (by decide) rfl ?_
  refine g_isub (v := 16) (z := 77) C dX30_feed_76 (by decide) rfl ?_
  refine g_ishr (v := ((fv (3 : Int32).toNatClampNeg) >>> (16 &&& 31))) (z := 78) C dX30_feed_77 (rfl) rfl ?_
  refine g_i2b (v := (((fv (3 : Int32).toNatClampNeg) >>> (16 &&& 31))).toInt8.toInt32) (z := 79) C dX30_feed_78 rfl rfl ?_
  refine g_bast (w2 := [(h0, .inr (13, [.ref q1, .int 13, .int 0, .int 0, .int 0, .ref q2, .ref q3, .ref q4, .ref q5, .int 0, .int 0, .int 0, .ref q6, .ref q7, .ref q9, .null, .null, .ref q10, .ref q11, .int 0, .ref q12, .ref q13, .ref q14, .int 0, .ref q15, .null, .ref q16, .null, .null, .int 0, .ref q17, .ref q18, .int 0, .ref q19, .ref q20, .ref q21, .ref q22, .int 0, .ref q23, .ref q24, .ref q25, .ref q26, .null, .ref q27, .int (-1), .int (-1), .int (-1), .ref q28, .ref q29, .ref q30, .ref q31, .ref q32, .ref q33, .ref q34, .ref q35, .int 0, .int 0, .long 0, .ref q36, .int 0, .int 0, .int 0, .int 0, .int 0, .ref q37, .int 0, .ref q38, .ref q39, .int 0, .int 0, .int 0, .int 0, .int 0, .int 0, .int 0, .ref q40, .ref q41, .int 0, .int 0, .int 0, .int 0, .int 0, .int 0, .int 0, .ref q42, .int 0, .int 0, .ref q43, .ref q44, .ref q45, .ref q46, .ref q47, .ref q48, .int 0, .ref q49])), (q1, .inl (gK X 2, 3000, .inl (upd (t13) (13 : Int32).toNatClampNeg (vp_nar .byte (((fv (3 : Int32).toNatClampNeg) >>> (16 &&& 31))).toInt8.toInt32)))), (q8, .inl (gK X 0, 5, .inl (fv)))]) (z := 80) C dX30_feed_79 1 rfl (by unfold vp_in; decide) rfl rfl ?_
  generalize ht14 : upd (t13) (13 : Int32).toNatClampNeg (vp_nar .byte (((fv (3 : Int32).toNatClampNeg) >>> (16 &&& 31))).toInt8.toInt32) = t14
  refine g_aload_n (z := 81) C dX30_feed_80 2 rfl rfl rfl ?_
  refine g_dup (z := 82) C dX30_feed_81 rfl rfl ?_
  refine g_get (z := 85) C kX30 dX30_feed_82 0 rfl 1 (by decide) w_461 rfl rfl rfl ?_
  refine g_iconst (v := 1) (z := 86) C dX30_feed_85 (by decide) rfl ?_
  refine g_iadd (v := 14) (z := 87) C dX30_feed_86 (by decide) rfl ?_
  refine g_put (w2 := [(h0, .inr (13, [.ref q1, .int 14, .int 0, .int 0, .int 0, .ref q2, .ref q3, .ref q4, .ref q5, .int 0, .int 0, .int 0, .ref q6, .ref q7, .ref q9, .null, .null, .ref q10, .ref q11, .int 0, .ref q12, .ref q13, .ref q14, .int 0, .ref q15, .null, .ref q16, .null, .null, .int 0, .ref q17, .ref q18, .int 0, .ref q19, .ref q20, .ref q21, .ref q22, .int 0, .ref q23, .ref q24, .ref q25, .ref q26, .null, .ref q27, .int (-1), .int (-1), .int (-1), .ref q28, .ref q29, .ref q30, .ref q31, .ref q32, .ref q33, .ref q34, .ref q35, .int 0, .int 0, .long 0, .ref q36, .int 0, .int 0, .int 0, .int 0, .int 0, .ref q37, .int 0, .ref q38, .ref q39, .int 0, .int 0, .int 0, .int 0, .int 0, .int 0, .int 0, .ref q40, .ref q41, .int 0, .int 0, .int 0, .int 0, .int 0, .int 0, .int 0, .ref q42, .int 0, .int 0, .ref q43, .ref q44, .ref q45, .ref q46, .ref q47, .ref q48, .int 0, .ref q49])), (q1, .inl (gK X 2, 3000, .inl (t14))), (q8, .inl (gK X 0, 5, .inl (fv)))]) (z := 90) C kX30 dX30_feed_87 0 rfl 1 (by decide) w_461 rfl rfl rfl rfl (Nat.le_of_ble_eq_true rfl) rfl rfl ?_
  refine g_iinc (v := 14) (l2 := [(7, .int 14), (6, .ref q8), (0, .ref h0), (1, .int n1), (2, .int n2), (3, .int n3), (4, .int n4), (5, .int n5)]) (z := 93) C dX30_feed_90 0 rfl (by decide) (by decide) rfl rfl ?_
  refine g_goto (z := 45) C dX30_feed_93 (by decide) ?_
  refine g_iload (z := 47) C dX30_feed_45 0 rfl rfl ?_
  refine g_bipush (v := 20) (z := 49) C dX30_feed_47 (by decide) rfl ?_
  refine g_icmp_ge_f (z := 52) 96 C dX30_feed_49 (by decide) (by decide) rfl ?_
  refine g_aload_n (z := 53) C dX30_feed_52 2 rfl rfl rfl ?_
  refine g_get (z := 56) C kX30 dX30_feed_53 0 rfl 0 (by decide) w_385 rfl rfl rfl ?_
  refine g_aload_n (z := 57) C dX30_feed_56 2 rfl rfl rfl ?_
  refine g_get (z := 60) C kX30 dX30_feed_57 0 rfl 1 (by decide) w_461 rfl rfl rfl ?_
  refine g_aload (z := 62) C dX30_feed_60 1 rfl rfl ?_
  refine g_iload (z := 64) C dX30_feed_62 0 rfl rfl ?_
  refine g_iconst (v := 4) (z := 65) C dX30_feed_64 (by decide) rfl ?_
  refine g_idiv (v := 3) (z := 66) C dX30_feed_65 (by decide) (by decide) rfl ?_
  refine g_iald (v := (fv (3 : Int32).toNatClampNeg)) (z := 67) C dX30_feed_66 2 rfl (by unfold vp_in; decide) rfl rfl ?_
  refine g_bipush (v := 24) (z := 69) C dX30_feed_67 (by decide) rfl ?_
  refine g_bipush (v := 8) (z := 71) C dX30_feed_69 (by decide) rfl ?_
  refine g_iload (z := 73) C dX30_feed_71 0 rfl rfl ?_
  refine g_iconst (v := 4) (z := 74) C dX30_feed_73 (by decide) rfl ?_
  refine g_irem (v := 2) (z := 75) C dX30_feed_74 (by decide) (by decide) rfl ?_
  refine g_imul (v := 16) (z := 76) C dX30_feed_75 (by decide) rfl ?_
  refine g_isub (v := 8) (z := 77) C dX30_feed_76 (by decide) rfl ?_
  refine g_ishr (v := ((fv (3 : Int32).toNatClampNeg) >>> (8 &&& 31))) (z := 78) C dX30_feed_77 (rfl) rfl ?_
  refine g_i2b (v := (((fv (3 : Int32).toNatClampNeg) >>> (8 &&& 31))).toInt8.toInt32) (z := 79) C dX30_feed_78 rfl rfl ?_
  refine g_bast (w2 := [(h0, .inr (13, [.ref q1, .int 14, .int 0, .int 0, .int 0, .ref q2, .ref q3, .ref q4, .ref q5, .int 0, .int 0, .int 0, .ref q6, .ref q7, .ref q9, .null, .null, .ref q10, .ref q11, .int 0, .ref q12, .ref q13, .ref q14, .int 0, .ref q15, .null, .ref q16, .null, .null, .int 0, .ref q17, .ref q18, .int 0, .ref q19, .ref q20, .ref q21, .ref q22, .int 0, .ref q23, .ref q24, .ref q25, .ref q26, .null, .ref q27, .int (-1), .int (-1), .int (-1), .ref q28, .ref q29, .ref q30, .ref q31, .ref q32, .ref q33, .ref q34, .ref q35, .int 0, .int 0, .long 0, .ref q36, .int 0, .int 0, .int 0, .int 0, .int 0, .ref q37, .int 0, .ref q38, .ref q39, .int 0, .int 0, .int 0, .int 0, .int 0, .int 0, .int 0, .ref q40, .ref q41, .int 0, .int 0, .int 0, .int 0, .int 0, .int 0, .int 0, .ref q42, .int 0, .int 0, .ref q43, .ref q44, .ref q45, .ref q46, .ref q47, .ref q48, .int 0, .ref q49])), (q1, .inl (gK X 2, 3000, .inl (upd (t14) (14 : Int32).toNatClampNeg (vp_nar .byte (((fv (3 : Int32).toNatClampNeg) >>> (8 &&& 31))).toInt8.toInt32)))), (q8, .inl (gK X 0, 5, .inl (fv)))]) (z := 80) C dX30_feed_79 1 rfl (by unfold vp_in; decide) rfl rfl ?_
  generalize ht15 : upd (t14) (14 : Int32).toNatClampNeg (vp_nar .byte (((fv (3 : Int32).toNatClampNeg) >>> (8 &&& 31))).toInt8.toInt32) = t15
  refine g_aload_n (z := 81) C dX30_feed_80 2 rfl rfl rfl ?_
  refine g_dup (z := 82) C dX30_feed_81 rfl rfl ?_
  refine g_get (z := 85) C kX30 dX30_feed_82 0 rfl 1 (by decide) w_461 rfl rfl rfl ?_
  refine g_iconst (v := 1) (z := 86) C dX30_feed_85 (by decide) rfl ?_
  refine g_iadd (v := 15) (z := 87) C dX30_feed_86 (by decide) rfl ?_
  refine g_put (w2 := [(h0, .inr (13, [.ref q1, .int 15, .int 0, .int 0, .int 0, .ref q2, .ref q3, .ref q4, .ref q5, .int 0, .int 0, .int 0, .ref q6, .ref q7, .ref q9, .null, .null, .ref q10, .ref q11, .int 0, .ref q12, .ref q13, .ref q14, .int 0, .ref q15, .null, .ref q16, .null, .null, .int 0, .ref q17, .ref q18, .int 0, .ref q19, .ref q20, .ref q21, .ref q22, .int 0, .ref q23, .ref q24, .ref q25, .ref q26, .null, .ref q27, .int (-1), .int (-1), .int (-1), .ref q28, .ref q29, .ref q30, .ref q31, .ref q32, .ref q33, .ref q34, .ref q35, .int 0, .int 0, .long 0, .ref q36, .int 0, .int 0, .int 0, .int 0, .int 0, .ref q37, .int 0, .ref q38, .ref q39, .int 0, .int 0, .int 0, .int 0, .int 0, .int 0, .int 0, .ref q40, .ref q41, .int 0, .int 0, .int 0, .int 0, .int 0, .int 0, .int 0, .ref q42, .int 0, .int 0, .ref q43, .ref q44, .ref q45, .ref q46, .ref q47, .ref q48, .int 0, .ref q49])), (q1, .inl (gK X 2, 3000, .inl (t15))), (q8, .inl (gK X 0, 5, .inl (fv)))]) (z := 90) C kX30 dX30_feed_87 0 rfl 1 (by decide) w_461 rfl rfl rfl rfl (Nat.le_of_ble_eq_true rfl) rfl rfl ?_
  refine g_iinc (v := 15) (l2 := [(7, .int 15), (6, .ref q8), (0, .ref h0), (1, .int n1), (2, .int n2), (3, .int n3), (4, .int n4), (5, .int n5)]) (z := 93) C dX30_feed_90 0 rfl (by decide) (by decide) rfl rfl ?_
  refine g_goto (z := 45) C dX30_feed_93 (by decide) ?_
  refine g_iload (z := 47) C dX30_feed_45 0 rfl rfl ?_
  refine g_bipush (v := 20) (z := 49) C dX30_feed_47 (by decide) rfl ?_
  refine g_icmp_ge_f (z := 52) 96 C dX30_feed_49 (by decide) (by decide) rfl ?_
  refine g_aload_n (z := 53) C dX30_feed_52 2 rfl rfl rfl ?_
  refine g_get (z := 56) C kX30 dX30_feed_53 0 rfl 0 (by decide) w_385 rfl rfl rfl ?_
  refine g_aload_n (z := 57) C dX30_feed_56 2 rfl rfl rfl ?_
  refine g_get (z := 60) C kX30 dX30_feed_57 0 rfl 1 (by decide) w_461 rfl rfl rfl ?_
  refine g_aload (z := 62) C dX30_feed_60 1 rfl rfl ?_
  refine g_iload (z := 64) C dX30_feed_62 0 rfl rfl ?_
  refine g_iconst (v := 4) (z := 65) C dX30_feed_64 (by decide) rfl ?_
  refine g_idiv (v := 3) (z := 66) C dX30_feed_65 (by decide) (by decide) rfl ?_
  refine g_iald (v := (fv (3 : Int32).toNatClampNeg)) (z := 67) C dX30_feed_66 2 rfl (by unfold vp_in; decide) rfl rfl ?_
  refine g_bipush (v := 24) (z := 69) C dX30_feed_67 (by decide) rfl ?_
  refine g_bipush (v := 8) (z := 71) C dX30_feed_69 (by decide) rfl ?_
  refine g_iload (z := 73) C dX30_feed_71 0 rfl rfl ?_
  refine g_iconst (v := 4) (z := 74) C dX30_feed_73 (by decide) rfl ?_
  refine g_irem (v := 3) (z := 75) C dX30_feed_74 (by decide) (by decide) rfl ?_
  refine g_imul (v := 24) (z := 76) C dX30_feed_75 (by decide) rfl ?_
  refine g_isub (v := 0) (z := 77) C dX30_feed_76 (by decide) rfl ?_
  refine g_ishr (v := ((fv (3 : Int32).toNatClampNeg) >>> (0 &&& 31))) (z := 78) C dX30_feed_77 (rfl) rfl ?_
  refine g_i2b (v := (((fv (3 : Int32).toNatClampNeg) >>> (0 &&& 31))).toInt8.toInt32) (z := 79) C dX30_feed_78 rfl rfl ?_
  refine g_bast (w2 := [(h0, .inr (13, [.ref q1, .int 15, .int 0, .int 0, .int 0, .ref q2, .ref q3, .ref q4, .ref q5, .int 0, .int 0, .int 0, .ref q6, .ref q7, .ref q9, .null, .null, .ref q10, .ref q11, .int 0, .ref q12, .ref q13, .ref q14, .int 0, .ref q15, .null, .ref q16, .null, .null, .int 0, .ref q17, .ref q18, .int 0, .ref q19, .ref q20, .ref q21, .ref q22, .int 0, .ref q23, .ref q24, .ref q25, .ref q26, .null, .ref q27, .int (-1), .int (-1), .int (-1), .ref q28, .ref q29, .ref q30, .ref q31, .ref q32, .ref q33, .ref q34, .ref q35, .int 0, .int 0, .long 0, .ref q36, .int 0, .int 0, .int 0, .int 0, .int 0, .ref q37, .int 0, .ref q38, .ref q39, .int 0, .int 0, .int 0, .int 0, .int 0, .int 0, .int 0, .ref q40, .ref q41, .int 0, .int 0, .int 0, .int 0, .int 0, .int 0, .int 0, .ref q42, .int 0, .int 0, .ref q43, .ref q44, .ref q45, .ref q46, .ref q47, .ref q48, .int 0, .ref q49])), (q1, .inl (gK X 2, 3000, .inl (upd (t15) (15 : Int32).toNatClampNeg (vp_nar .byte (((fv (3 : Int32).toNatClampNeg) >>> (0 &&& 31))).toInt8.toInt32)))), (q8, .inl (gK X 0, 5, .inl (fv)))]) (z := 80) C dX30_feed_79 1 rfl (by unfold vp_in; decide) rfl rfl ?_
  generalize ht16 : upd (t15) (15 : Int32).toNatClampNeg (vp_nar .byte (((fv (3 : Int32).toNatClampNeg) >>> (0 &&& 31))).toInt8.toInt32) = t16
  refine g_aload_n (z := 81) C dX30_feed_80 2 rfl rfl rfl ?_
  refine g_dup (z := 82) C dX30_feed_81 rfl rfl ?_
  refine g_get (z := 85) C kX30 dX30_feed_82 0 rfl 1 (by decide) w_461 rfl rfl rfl ?_
  refine g_iconst (v := 1) (z := 86) C dX30_feed_85 (by decide) rfl ?_
  refine g_iadd (v := 16) (z := 87) C dX30_feed_86 (by decide) rfl ?_
  refine g_put (w2 := [(h0, .inr (13, [.ref q1, .int 16, .int 0, .int 0, .int 0, .ref q2, .ref q3, .ref q4, .ref q5, .int 0, .int 0, .int 0, .ref q6, .ref q7, .ref q9, .null, .null, .ref q10, .ref q11, .int 0, .ref q12, .ref q13, .ref q14, .int 0, .ref q15, .null, .ref q16, .null, .null, .int 0, .ref q17, .ref q18, .int 0, .ref q19, .ref q20, .ref q21, .ref q22, .int 0, .ref q23, .ref q24, .ref q25, .ref q26, .null, .ref q27, .int (-1), .int (-1), .int (-1), .ref q28, .ref q29, .ref q30, .ref q31, .ref q32, .ref q33, .ref q34, .ref q35, .int 0, .int 0, .long 0, .ref q36, .int 0, .int 0, .int 0, .int 0, .int 0, .ref q37, .int 0, .ref q38, .ref q39, .int 0, .int 0, .int 0, .int 0, .int 0, .int 0, .int 0, .ref q40, .ref q41, .int 0, .int 0, .int 0, .int 0, .int 0, .int 0, .int 0, .ref q42, .int 0, .int 0, .ref q43, .ref q44, .ref q45, .ref q46, .ref q47, .ref q48, .int 0, .ref q49])), (q1, .inl (gK X 2, 3000, .inl (t16))), (q8, .inl (gK X 0, 5, .inl (fv)))]) (z := 90) C kX30 dX30_feed_87 0 rfl 1 (by decide) w_461 rfl rfl rfl rfl (Nat.le_of_ble_eq_true rfl) rfl rfl ?_
  refine g_iinc (v := 16) (l2 := [(7, .int 16), (6, .ref q8), (0, .ref h0), (1, .int n1), (2, .int n2), (3, .int n3), (4, .int n4), (5, .int n5)]) (z := 93) C dX30_feed_90 0 rfl (by decide) (by decide) rfl rfl ?_
  refine g_goto (z := 45) C dX30_feed_93 (by decide) ?_
  refine g_iload (z := 47) C dX30_feed_45 0 rfl rfl ?_
  refine g_bipush (v := 20) (z := 49) C dX30_feed_47 (by decide) rfl ?_
  refine g_icmp_ge_f (z := 52) 96 C dX30_feed_49 (by decide) (by decide) rfl ?_
  refine g_aload_n (z := 53) C dX30_feed_52 2 rfl rfl rfl ?_
  refine g_get (z := 56) C kX30 dX30_feed_53 0 rfl 0 (by decide) w_385 rfl rfl rfl ?_
  refine g_aload_n (z := 57) C dX30_feed_56 2 rfl rfl rfl ?_
  refine g_get (z := 60) C kX30 dX30_feed_57 0 rfl 1 (by decide) w_461 rfl rfl rfl ?_
  refine g_aload (z := 62) C dX30_feed_60 1 rfl rfl ?_
  refine g_iload (z := 64) C dX30_feed_62 0 rfl rfl ?_
  refine g_iconst (v := 4) (z := 65) C dX30_feed_64 (by decide) rfl ?_
  refine g_idiv (v := 4) (z := 66) C dX30_feed_65 (by decide) (by decide) rfl ?_
  refine g_iald (v := (fv (4 : Int32).toNatClampNeg)) (z := 67) C dX30_feed_66 2 rfl (by unfold vp_in; decide) rfl rfl ?_
  refine g_bipush (v := 24) (z := 69) C dX30_feed_67 (by decide) rfl ?_
  refine g_bipush (v := 8) (z := 71) C dX30_feed_69 (by decide) rfl ?_
  refine g_iload (z := 73) C dX30_feed_71 0 rfl rfl ?_
  refine g_iconst (v := 4) (z := 74) C dX30_feed_73 (by decide) rfl ?_
  refine g_irem (v := 0) (z := 75) C dX30_feed_74 (by decide) (by decide) rfl ?_
  refine g_imul (v := 0) (z := 76) C dX30_feed_75 (by decide) rfl ?_
  refine g_isub (v := 24) (z := 77) C dX30_feed_76 (by decide) rfl ?_
  refine g_ishr (v := ((fv (4 : Int32).toNatClampNeg) >>> (24 &&& 31))) (z := 78) C dX30_feed_77 (rfl) rfl ?_
  refine g_i2b (v := (((fv (4 : Int32).toNatClampNeg) >>> (24 &&& 31))).toInt8.toInt32) (z := 79) C dX30_feed_78 rfl rfl ?_
  refine g_bast (w2 := [(h0, .inr (13, [.ref q1, .int 16, .int 0, .int 0, .int 0, .ref q2, .ref q3, .ref q4, .ref q5, .int 0, .int 0, .int 0, .ref q6, .ref q7, .ref q9, .null, .null, .ref q10, .ref q11, .int 0, .ref q12, .ref q13, .ref q14, .int 0, .ref q15, .null, .ref q16, .null, .null, .int 0, .ref q17, .ref q18, .int 0, .ref q19, .ref q20, .ref q21, .ref q22, .int 0, .ref q23, .ref q24, .ref q25, .ref q26, .null, .ref q27, .int (-1), .int (-1), .int (-1), .ref q28, .ref q29, .ref q30, .ref q31, .ref q32, .ref q33, .ref q34, .ref q35, .int 0, .int 0, .long 0, .ref q36, .int 0, .int 0, .int 0, .int 0, .int 0, .ref q37, .int 0, .ref q38, .ref q39, .int 0, .int 0, .int 0, .int 0, .int 0, .int 0, .int 0, .ref q40, .ref q41, .int 0, .int 0, .int 0, .int 0, .int 0, .int 0, .int 0, .ref q42, .int 0, .int 0, .ref q43, .ref q44, .ref q45, .ref q46, .ref q47, .ref q48, .int 0, .ref q49])), (q1, .inl (gK X 2, 3000, .inl (upd (t16) (16 : Int32).toNatClampNeg (vp_nar .byte (((fv (4 : Int32).toNatClampNeg) >>> (24 &&& 31))).toInt8.toInt32)))), (q8, .inl (gK X 0, 5, .inl (fv)))]) (z := 80) C dX30_feed_79 1 rfl (by unfold vp_in; decide) rfl rfl ?_
  generalize ht17 : upd (t16) (16 : Int32).toNatClampNeg (vp_nar .byte (((fv (4 : Int32).toNatClampNeg) >>> (24 &&& 31))).toInt8.toInt32) = t17
  refine g_aload_n (z := 81) C dX30_feed_80 2 rfl rfl rfl ?_
  refine g_dup (z := 82) C dX30_feed_81 rfl rfl ?_
  refine g_get (z := 85) C kX30 dX30_feed_82 0 rfl 1 (by decide) w_461 rfl rfl rfl ?_
  refine g_iconst (v := 1) (z := 86) C dX30_feed_85 (by decide) rfl ?_
  refine g_iadd (v := 17) (z := 87) C dX30_feed_86 (by decide) rfl ?_
  refine g_put (w2 := [(h0, .inr (13, [.ref q1, .int 17, .int 0, .int 0, .int 0, .ref q2, .ref q3, .ref q4, .ref q5, .int 0, .int 0, .int 0, .ref q6, .ref q7, .ref q9, .null, .null, .ref q10, .ref q11, .int 0, .ref q12, .ref q13, .ref q14, .int 0, .ref q15, .null, .ref q16, .null, .null, .int 0, .ref q17, .ref q18, .int 0, .ref q19, .ref q20, .ref q21, .ref q22, .int 0, .ref q23, .ref q24, .ref q25, .ref q26, .null, .ref q27, .int (-1), .int (-1), .int (-1), .ref q28, .ref q29, .ref q30, .ref q31, .ref q32, .ref q33, .ref q34, .ref q35, .int 0, .int 0, .long 0, .ref q36, .int 0, .int 0, .int 0, .int 0, .int 0, .ref q37, .int 0, .ref q38, .ref q39, .int 0, .int 0, .int 0, .int 0, .int 0, .int 0, .int 0, .ref q40, .ref q41, .int 0, .int 0, .int 0, .int 0, .int 0, .int 0, .int 0, .ref q42, .int 0, .int 0, .ref q43, .ref q44, .ref q45, .ref q46, .ref q47, .ref q48, .int 0, .ref q49])), (q1, .inl (gK X 2, 3000, .inl (t17))), (q8, .inl (gK X 0, 5, .inl (fv)))]) (z := 90) C kX30 dX30_feed_87 0 rfl 1 (by decide) w_461 rfl rfl rfl rfl (Nat.le_of_ble_eq_true rfl) rfl rfl ?_
  refine g_iinc (v := 17) (l2 := [(7, .int 17), (6, .ref q8), (0, .ref h0), (1, .int n1), (2, .int n2), (3, .int n3), (4, .int n4), (5, .int n5)]) (z := 93) C dX30_feed_90 0 rfl (by decide) (by decide) rfl rfl ?_
  refine g_goto (z := 45) C dX30_feed_93 (by decide) ?_
  refine g_iload (z := 47) C dX30_feed_45 0 rfl rfl ?_
  refine g_bipush (v := 20) (z := 49) C dX30_feed_47 (by decide) rfl ?_
  refine g_icmp_ge_f (z := 52) 96 C dX30_feed_49 (by decide) (by decide) rfl ?_
  refine g_aload_n (z := 53) C dX30_feed_52 2 rfl rfl rfl ?_
  refine g_get (z := 56) C kX30 dX30_feed_53 0 rfl 0 (by decide) w_385 rfl rfl rfl ?_
  refine g_aload_n (z := 57) C dX30_feed_56 2 rfl rfl rfl ?_
  refine g_get (z := 60) C kX30 dX30_feed_57 0 rfl 1 (by decide) w_461 rfl rfl rfl ?_
  refine g_aload (z := 62) C dX30_feed_60 1 rfl rfl ?_
  refine g_iload (z := 64) C dX30_feed_62 0 rfl rfl ?_
  refine g_iconst (v := 4) (z := 65) C dX30_feed_64 (by decide) rfl ?_
  refine g_idiv (v := 4) (z := 66) C dX30_feed_65 (by decide) (by decide) rfl ?_
  refine g_iald (v := (fv (4 : Int32).toNatClampNeg)) (z := 67) C dX30_feed_66 2 rfl (by unfold vp_in; decide) rfl rfl ?_
  refine g_bipush (v := 24) (z := 69) C dX30_feed_67 (by decide) rfl ?_
  refine g_bipush (v := 8) (z := 71) C dX30_feed_69 (by decide) rfl ?_
  refine g_iload (z := 73) C dX30_feed_71 0 rfl rfl ?_
  refine g_iconst (v := 4) (z := 74) C dX30_feed_73 (by decide) rfl ?_
  refine g_irem (v := 1) (z := 75) C dX30_feed_74 (by decide) (by decide) rfl ?_
  refine g_imul (v := 8) (z := 76) C dX30_feed_75 (by decide) rfl ?_
  refine g_isub (v := 16) (z := 77) C dX30_feed_76 (by decide) rfl ?_
  refine g_ishr (v := ((fv (4 : Int32).toNatClampNeg) >>> (16 &&& 31))) (z := 78) C dX30_feed_77 (rfl) rfl ?_
  refine g_i2b (v := (((fv (4 : Int32).toNatClampNeg) >>> (16 &&& 31))).toInt8.toInt32) (z := 79) C dX30_feed_78 rfl rfl ?_
  refine g_bast (w2 := [(h0, .inr (13, [.ref q1, .int 17, .int 0, .int 0, .int 0, .ref q2, .ref q3, .ref q4, .ref q5, .int 0, .int 0, .int 0, .ref q6, .ref q7, .ref q9, .null, .null, .ref q10, .ref q11, .int 0, .ref q12, .ref q13, .ref q14, .int 0, .ref q15, .null, .ref q16, .null, .null, .int 0, .ref q17, .ref q18, .int 0, .ref q19, .ref q20, .ref q21, .ref q22, .int 0, .ref q23, .ref q24, .ref q25, .ref q26, .null, .ref q27, .int (-1), .int (-1), .int (-1), .ref q28, .ref q29, .ref q30, .ref q31, .ref q32, .ref q33, .ref q34, .ref q35, .int 0, .int 0, .long 0, .ref q36, .int 0, .int 0, .int 0, .int 0, .int 0, .ref q37, .int 0, .ref q38, .ref q39, .int 0, .int 0, .int 0, .int 0, .int 0, .int 0, .int 0, .ref q40, .ref q41, .int 0, .int 0, .int 0, .int 0, .int 0, .int 0, .int 0, .ref q42, .int 0, .int 0, .ref q43, .ref q44, .ref q45, .ref q46, .ref q47, .ref q48, .int 0, .ref q49])), (q1, .inl (gK X 2, 3000, .inl (upd (t17) (17 : Int32).toNatClampNeg (vp_nar .byte (((fv (4 : Int32).toNatClampNeg) >>> (16 &&& 31))).toInt8.toInt32)))), (q8, .inl (gK X 0, 5, .inl (fv)))]) (z := 80) C dX30_feed_79 1 rfl (by unfold vp_in; decide) rfl rfl ?_
  generalize ht18 : upd (t17) (17 : Int32).toNatClampNeg (vp_nar .byte (((fv (4 : Int32).toNatClampNeg) >>> (16 &&& 31))).toInt8.toInt32) = t18
  refine g_aload_n (z := 81) C dX30_feed_80 2 rfl rfl rfl ?_
  refine g_dup (z := 82) C dX30_feed_81 rfl rfl ?_
  refine g_get (z := 85) C kX30 dX30_feed_82 0 rfl 1 (by decide) w_461 rfl rfl rfl ?_
  refine g_iconst (v := 1) (z := 86) C dX30_feed_85 (by decide) rfl ?_
  refine g_iadd (v := 18) (z := 87) C dX30_feed_86 (by decide) rfl ?_
  refine g_put (w2 := [(h0, .inr (13, [.ref q1, .int 18, .int 0, .int 0, .int 0, .ref q2, .ref q3, .ref q4, .ref q5, .int 0, .int 0, .int 0, .ref q6, .ref q7, .ref q9, .null, .null, .ref q10, .ref q11, .int 0, .ref q12, .ref q13, .ref q14, .int 0, .ref q15, .null, .ref q16, .null, .null, .int 0, .ref q17, .ref q18, .int 0, .ref q19, .ref q20, .ref q21, .ref q22, .int 0, .ref q23, .ref q24, .ref q25, .ref q26, .null, .ref q27, .int (-1), .int (-1), .int (-1), .ref q28, .ref q29, .ref q30, .ref q31, .ref q32, .ref q33, .ref q34, .ref q35, .int 0, .int 0, .long 0, .ref q36, .int 0, .int 0, .int 0, .int 0, .int 0, .ref q37, .int 0, .ref q38, .ref q39, .int 0, .int 0, .int 0, .int 0, .int 0, .int 0, .int 0, .ref q40, .ref q41, .int 0, .int 0, .int 0, .int 0, .int 0, .int 0, .int 0, .ref q42, .int 0, .int 0, .ref q43, .ref q44, .ref q45, .ref q46, .ref q47, .ref q48, .int 0, .ref q49])), (q1, .inl (gK X 2, 3000, .inl (t18))), (q8, .inl (gK X 0, 5, .inl (fv)))]) (z := 90) C kX30 dX30_feed_87 0 rfl 1 (by decide) w_461 rfl rfl rfl rfl (Nat.le_of_ble_eq_true rfl) rfl rfl ?_
  refine g_iinc (v := 18) (l2 := [(7, .int 18), (6, .ref q8), (0, .ref h0), (1, .int n1), (2, .int n2), (3, .int n3), (4, .int n4), (5, .int n5)]) (z := 93) C dX30_feed_90 0 rfl (by decide) (by decide) rfl rfl ?_
  refine g_goto (z := 45) C dX30_feed_93 (by decide) ?_
  refine g_iload (z := 47) C dX30_feed_45 0 rfl rfl ?_
  refine g_bipush (v := 20) (z := 49) C dX30_feed_47 (by decide) rfl ?_
  refine g_icmp_ge_f (z := 52) 96 C dX30_feed_49 (by decide) (by decide) rfl ?_
  refine g_aload_n (z := 53) C dX30_feed_52 2 rfl rfl rfl ?_
  refine g_get (z := 56) C kX30 dX30_feed_53 0 rfl 0 (by decide) w_385 rfl rfl rfl ?_
  refine g_aload_n (z := 57) C dX30_feed_56 2 rfl rfl rfl ?_
  refine g_get (z := 60) C kX30 dX30_feed_57 0 rfl 1 (by decide) w_461 rfl rfl rfl ?_
  refine g_aload (z := 62) C dX30_feed_60 1 rfl rfl ?_
  refine g_iload (z := 64) C dX30_feed_62 0 rfl rfl ?_
  refine g_iconst (v := 4) (z := 65) C dX30_feed_64 (by decide) rfl ?_
  refine g_idiv (v := 4) (z := 66) C dX30_feed_65 (by decide) (by decide) rfl ?_
  refine g_iald (v := (fv (4 : Int32).toNatClampNeg)) (z := 67) C dX30_feed_66 2 rfl (by unfold vp_in; decide) rfl rfl ?_
  refine g_bipush (v := 24) (z := 69) C dX30_feed_67 (by decide) rfl ?_
  refine g_bipush (v := 8) (z := 71) C dX30_feed_69 (by decide) rfl ?_
  refine g_iload (z := 73) C dX30_feed_71 0 rfl rfl ?_
  refine g_iconst (v := 4) (z := 74) C dX30_feed_73 (by decide) rfl ?_
  refine g_irem (v := 2) (z := 75) C dX30_feed_74 (by decide) (by decide) rfl ?_
  refine g_imul (v := 16) (z := 76) C dX30_feed_75 (by decide) rfl ?_
  refine g_isub (v := 8) (z := 77) C dX30_feed_76 (by decide) rfl ?_
  refine g_ishr (v := ((fv (4 : Int32).toNatClampNeg) >>> (8 &&& 31))) (z := 78) C dX30_feed_77 (rfl) rfl ?_
  refine g_i2b (v := (((fv (4 : Int32).toNatClampNeg) >>> (8 &&& 31))).toInt8.toInt32) (z := 79) C dX30_feed_78 rfl rfl ?_
  refine g_bast (w2 := [(h0, .inr (13, [.ref q1, .int 18, .int 0, .int 0, .int 0, .ref q2, .ref q3, .ref q4, .ref q5, .int 0, .int 0, .int 0, .ref q6, .ref q7, .ref q9, .null, .null, .ref q10, .ref q11, .int 0, .ref q12, .ref q13, .ref q14, .int 0, .ref q15, .null, .ref q16, .null, .null, .int 0, .ref q17, .ref q18, .int 0, .ref q19, .ref q20, .ref q21, .ref q22, .int 0, .ref q23, .ref q24, .ref q25, .ref q26, .null, .ref q27, .int (-1), .int (-1), .int (-1), .ref q28, .ref q29, .ref q30, .ref q31, .ref q32, .ref q33, .ref q34, .ref q35, .int 0, .int 0, .long 0, .ref q36, .int 0, .int 0, .int 0, .int 0, .int 0, .ref q37, .int 0, .ref q38, .ref q39, .int 0, .int 0, .int 0, .int 0, .int 0, .int 0, .int 0, .ref q40, .ref q41, .int 0, .int 0, .int 0, .int 0, .int 0, .int 0, .int 0, .ref q42, .int 0, .int 0, .ref q43, .ref q44, .ref q45, .ref q46, .ref q47, .ref q48, .int 0, .ref q49])), (q1, .inl (gK X 2, 3000, .inl (upd (t18) (18 : Int32).toNatClampNeg (vp_nar .byte (((fv (4 : Int32).toNatClampNeg) >>> (8 &&& 31))).toInt8.toInt32)))), (q8, .inl (gK X 0, 5, .inl (fv)))]) (z := 80) C dX30_feed_79 1 rfl (by unfold vp_in; decide) rfl rfl ?_
  generalize ht19 : upd (t18) (18 : Int32).toNatClampNeg (vp_nar .byte (((fv (4 : Int32).toNatClampNeg) >>> (8 &&& 31))).toInt8.toInt32) = t19
  refine g_aload_n (z := 81) C dX30_feed_80 2 rfl rfl rfl ?_
  refine g_dup (z := 82) C dX30_feed_81 rfl rfl ?_
  refine g_get (z := 85) C kX30 dX30_feed_82 0 rfl 1 (by decide) w_461 rfl rfl rfl ?_
  refine g_iconst (v := 1) (z := 86) C dX30_feed_85 (by decide) rfl ?_
  refine g_iadd (v := 19) (z := 87) C dX30_feed_86 (by decide) rfl ?_
  refine g_put (w2 := [(h0, .inr (13, [.ref q1, .int 19, .int 0, .int 0, .int 0, .ref q2, .ref q3, .ref q4, .ref q5, .int 0, .int 0, .int 0, .ref q6, .ref q7, .ref q9, .null, .null, .ref q10, .ref q11, .int 0, .ref q12, .ref q13, .ref q14, .int 0, .ref q15, .null, .ref q16, .null, .null, .int 0, .ref q17, .ref q18, .int 0, .ref q19, .ref q20, .ref q21, .ref q22, .int 0, .ref q23, .ref q24, .ref q25, .ref q26, .null, .ref q27, .int (-1), .int (-1), .int (-1), .ref q28, .ref q29, .ref q30, .ref q31, .ref q32, .ref q33, .ref q34, .ref q35, .int 0, .int 0, .long 0, .ref q36, .int 0, .int 0, .int 0, .int 0, .int 0, .ref q37, .int 0, .ref q38, .ref q39, .int 0, .int 0, .int 0, .int 0, .int 0, .int 0, .int 0, .ref q40, .ref q41, .int 0, .int 0, .int 0, .int 0, .int 0, .int 0, .int 0, .ref q42, .int 0, .int 0, .ref q43, .ref q44, .ref q45, .ref q46, .ref q47, .ref q48, .int 0, .ref q49])), (q1, .inl (gK X 2, 3000, .inl (t19))), (q8, .inl (gK X 0, 5, .inl (fv)))]) (z := 90) C kX30 dX30_feed_87 0 rfl 1 (by decide) w_461 rfl rfl rfl rfl (Nat.le_of_ble_eq_true rfl) rfl rfl ?_
  refine g_iinc (v := 19) (l2 := [(7, .int 19), (6, .ref q8), (0, .ref h0), (1, .int n1), (2, .int n2), (3, .int n3), (4, .int n4), (5, .int n5)]) (z := 93) C dX30_feed_90 0 rfl (by decide) (by decide) rfl rfl ?_
  refine g_goto (z := 45) C dX30_feed_93 (by decide) ?_
  refine g_iload (z := 47) C dX30_feed_45 0 rfl rfl ?_
  refine g_bipush (v := 20) (z := 49) C dX30_feed_47 (by decide) rfl ?_
  refine g_icmp_ge_f (z := 52) 96 C dX30_feed_49 (by decide) (by decide) rfl ?_
  refine g_aload_n (z := 53) C dX30_feed_52 2 rfl rfl rfl ?_
  refine g_get (z := 56) C kX30 dX30_feed_53 0 rfl 0 (by decide) w_385 rfl rfl rfl ?_
  refine g_aload_n (z := 57) C dX30_feed_56 2 rfl rfl rfl ?_
  refine g_get (z := 60) C kX30 dX30_feed_57 0 rfl 1 (by decide) w_461 rfl rfl rfl ?_
  refine g_aload (z := 62) C dX30_feed_60 1 rfl rfl ?_
  refine g_iload (z := 64) C dX30_feed_62 0 rfl rfl ?_
  refine g_iconst (v := 4) (z := 65) C dX30_feed_64 (by decide) rfl ?_
  refine g_idiv (v := 4) (z := 66) C dX30_feed_65 (by decide) (by decide) rfl ?_
  refine g_iald (v := (fv (4 : Int32).toNatClampNeg)) (z := 67) C dX30_feed_66 2 rfl (by unfold vp_in; decide) rfl rfl ?_
  refine g_bipush (v := 24) (z := 69) C dX30_feed_67 (by decide) rfl ?_
  refine g_bipush (v := 8) (z := 71) C dX30_feed_69 (by decide) rfl ?_
  refine g_iload (z := 73) C dX30_feed_71 0 rfl rfl ?_
  refine g_iconst (v := 4) (z := 74) C dX30_feed_73 (by decide) rfl ?_
  refine g_irem (v := 3) (z := 75) C dX30_feed_74 (by decide) (by decide) rfl ?_
  refine g_imul (v := 24) (z := 76) C dX30_feed_75 (by decide) rfl ?_
  refine g_isub (v := 0) (z := 77) C dX30_feed_76 (by decide) rfl ?_
  refine g_ishr (v := ((fv (4 : Int32).toNatClampNeg) >>> (0 &&& 31))) (z := 78) C dX30_feed_77 (rfl) rfl ?_
  refine g_i2b (v := (((fv (4 : Int32).toNatClampNeg) >>> (0 &&& 31))).toInt8.toInt32) (z := 79) C dX30_feed_78 rfl rfl ?_
  refine g_bast (w2 := [(h0, .inr (13, [.ref q1, .int 19, .int 0, .int 0, .int 0, .ref q2, .ref q3, .ref q4, .ref q5, .int 0, .int 0, .int 0, .ref q6, .ref q7, .ref q9, .null, .null, .ref q10, .ref q11, .int 0, .ref q12, .ref q13, .ref q14, .int 0, .ref q15, .null, .ref q16, .null, .null, .int 0, .ref q17, .ref q18, .int 0, .ref q19, .ref q20, .ref q21, .ref q22, .int 0, .ref q23, .ref q24, .ref q25, .ref q26, .null, .ref q27, .int (-1), .int (-1), .int (-1), .ref q28, .ref q29, .ref q30, .ref q31, .ref q32, .ref q33, .ref q34, .ref q35, .int 0, .int 0, .long 0, .ref q36, .int 0, .int 0, .int 0, .int 0, .int 0, .ref q37, .int 0, .ref q38, .ref q39, .int 0, .int 0, .int 0, .int 0, .int 0, .int 0, .int 0, .ref q40, .ref q41, .int 0, .int 0, .int 0, .int 0, .int 0, .int 0, .int 0, .ref q42, .int 0, .int 0, .ref q43, .ref q44, .ref q45, .ref q46, .ref q47, .ref q48, .int 0, .ref q49])), (q1, .inl (gK X 2, 3000, .inl (upd (t19) (19 : Int32).toNatClampNeg (vp_nar .byte (((fv (4 : Int32).toNatClampNeg) >>> (0 &&& 31))).toInt8.toInt32)))), (q8, .inl (gK X 0, 5, .inl (fv)))]) (z := 80) C dX30_feed_79 1 rfl (by unfold vp_in; decide) rfl rfl ?_
  generalize ht20 : upd (t19) (19 : Int32).toNatClampNeg (vp_nar .byte (((fv (4 : Int32).toNatClampNeg) >>> (0 &&& 31))).toInt8.toInt32) = t20
  refine g_aload_n (z := 81) C dX30_feed_80 2 rfl rfl rfl ?_
  refine g_dup (z := 82) C dX30_feed_81 rfl rfl ?_
  refine g_get (z := 85) C kX30 dX30_feed_82 0 rfl 1 (by decide) w_461 rfl rfl rfl ?_
  refine g_iconst (v := 1) (z := 86) C dX30_feed_85 (by decide) rfl ?_
  refine g_iadd (v := 20) (z := 87) C dX30_feed_86 (by decide) rfl ?_
  refine g_put (w2 := [(h0, .inr (13, [.ref q1, .int 20, .int 0, .int 0, .int 0, .ref q2, .ref q3, .ref q4, .ref q5, .int 0, .int 0, .int 0, .ref q6, .ref q7, .ref q9, .null, .null, .ref q10, .ref q11, .int 0, .ref q12, .ref q13, .ref q14, .int 0, .ref q15, .null, .ref q16, .null, .null, .int 0, .ref q17, .ref q18, .int 0, .ref q19, .ref q20, .ref q21, .ref q22, .int 0, .ref q23, .ref q24, .ref q25, .ref q26, .null, .ref q27, .int (-1), .int (-1), .int (-1), .ref q28, .ref q29, .ref q30, .ref q31, .ref q32, .ref q33, .ref q34, .ref q35, .int 0, .int 0, .long 0, .ref q36, .int 0, .int 0, .int 0, .int 0, .int 0, .ref q37, .int 0, .ref q38, .ref q39, .int 0, .int 0, .int 0, .int 0, .int 0, .int 0, .int 0, .ref q40, .ref q41, .int 0, .int 0, .int 0, .int 0, .int 0, .int 0, .int 0, .ref q42, .int 0, .int 0, .ref q43, .ref q44, .ref q45, .ref q46, .ref q47, .ref q48, .int 0, .ref q49])), (q1, .inl (gK X 2, 3000, .inl (t20))), (q8, .inl (gK X 0, 5, .inl (fv)))]) (z := 90) C kX30 dX30_feed_87 0 rfl 1 (by decide) w_461 rfl rfl rfl rfl (Nat.le_of_ble_eq_true rfl) rfl rfl ?_
  refine g_iinc (v := 20) (l2 := [(7, .int 20), (6, .ref q8), (0, .ref h0), (1, .int n1), (2, .int n2), (3, .int n3), (4, .int n4), (5, .int n5)]) (z := 93) C dX30_feed_90 0 rfl (by decide) (by decide) rfl rfl ?_
  refine g_goto (z := 45) C dX30_feed_93 (by decide) ?_
  refine g_iload (z := 47) C dX30_feed_45 0 rfl rfl ?_
  refine g_bipush (v := 20) (z := 49) C dX30_feed_47 (by decide) rfl ?_
  refine g_icmp_ge_t (z := 96) C dX30_feed_49 (by decide) (by decide) ?_
  refine g_aload_n (z := 97) C dX30_feed_96 2 rfl rfl rfl ?_
  refine g_get (z := 100) C kX30 dX30_feed_97 0 rfl 1 (by decide) w_461 rfl rfl rfl ?_
  exact g_iret C hQ dX30_feed_100 rfl (Nat.le_of_ble_eq_true rfl) (Nat.le_of_ble_eq_true rfl) rfl

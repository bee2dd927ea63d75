theorem dJ0_charAt_5068e_0 : decode cJ0_charAt_5068e 0 = .ok (.aload_n 0, 1) := by decide +kernel
theorem dJ0_charAt_5068e_1 : decode cJ0_charAt_5068e 1 = .ok (.invokevirtual 492, 3) := by decide +kernel
theorem dJ0_charAt_5068e_4 : decode cJ0_charAt_5068e 4 = .ok (.ifCond .eq 12, 3) := by decide +kernel
theorem dJ0_charAt_5068e_7 : decode cJ0_charAt_5068e 7 = .ok (.aload_n 0, 1) := by decide +kernel
theorem dJ0_charAt_5068e_8 : decode cJ0_charAt_5068e 8 = .ok (.getfield 9, 3) := by decide +kernel
theorem dJ0_charAt_5068e_11 : decode cJ0_charAt_5068e 11 = .ok (.iload_n 1, 1) := by decide +kernel
theorem dJ0_charAt_5068e_12 : decode cJ0_charAt_5068e 12 = .ok (.invokestatic 495, 3) := by decide +kernel
theorem dJ0_charAt_5068e_15 : decode cJ0_charAt_5068e 15 = .ok (.ireturn, 1) := by decide +kernel
theorem dJ0_checkIndex_df160_0 : decode cJ0_checkIndex_df160 0 = .ok (.iload_n 0, 1) := by decide +kernel
theorem dJ0_checkIndex_df160_1 : decode cJ0_checkIndex_df160 1 = .ok (.iload_n 1, 1) := by decide +kernel
theorem dJ0_checkIndex_df160_2 : decode cJ0_checkIndex_df160 2 = .ok (.getstatic 1053, 3) := by decide +kernel
theorem dJ0_checkIndex_df160_5 : decode cJ0_checkIndex_df160 5 = .ok (.invokestatic 1059, 3) := by decide +kernel
theorem dJ0_checkIndex_df160_8 : decode cJ0_checkIndex_df160 8 = .ok (.pop, 1) := by decide +kernel
theorem dJ0_checkIndex_df160_9 : decode cJ0_checkIndex_df160 9 = .ok (.return_, 1) := by decide +kernel
theorem dJ0_coder_7d493_0 : decode cJ0_coder_7d493 0 = .ok (.getstatic 38, 3) := by decide +kernel
theorem dJ0_coder_7d493_3 : decode cJ0_coder_7d493 3 = .ok (.ifCond .eq 10, 3) := by decide +kernel
theorem dJ0_coder_7d493_6 : decode cJ0_coder_7d493 6 = .ok (.aload_n 0, 1) := by decide +kernel
theorem dJ0_coder_7d493_7 : decode cJ0_coder_7d493 7 = .ok (.getfield 15, 3) := by decide +kernel
theorem dJ0_coder_7d493_10 : decode cJ0_coder_7d493 10 = .ok (.goto 4, 3) := by decide +kernel
theorem dJ0_coder_7d493_14 : decode cJ0_coder_7d493 14 = .ok (.ireturn, 1) := by decide +kernel
theorem dJ0_isLatin1_aae02_0 : decode cJ0_isLatin1_aae02 0 = .ok (.getstatic 38, 3) := by decide +kernel
theorem dJ0_isLatin1_aae02_3 : decode cJ0_isLatin1_aae02 3 = .ok (.ifCond .eq 14, 3) := by decide +kernel
theorem dJ0_isLatin1_aae02_6 : decode cJ0_isLatin1_aae02 6 = .ok (.aload_n 0, 1) := by decide +kernel
theorem dJ0_isLatin1_aae02_7 : decode cJ0_isLatin1_aae02 7 = .ok (.getfield 15, 3) := by decide +kernel
theorem dJ0_isLatin1_aae02_10 : decode cJ0_isLatin1_aae02 10 = .ok (.ifCond .ne 7, 3) := by decide +kernel
theorem dJ0_isLatin1_aae02_13 : decode cJ0_isLatin1_aae02 13 = .ok (.iconst 1, 1) := by decide +kernel
theorem dJ0_isLatin1_aae02_14 : decode cJ0_isLatin1_aae02 14 = .ok (.goto 4, 3) := by decide +kernel
theorem dJ0_isLatin1_aae02_18 : decode cJ0_isLatin1_aae02 18 = .ok (.ireturn, 1) := by decide +kernel
theorem dJ0_length_8abf5_0 : decode cJ0_length_8abf5 0 = .ok (.aload_n 0, 1) := by decide +kernel
theorem dJ0_length_8abf5_1 : decode cJ0_length_8abf5 1 = .ok (.getfield 9, 3) := by decide +kernel
theorem dJ0_length_8abf5_4 : decode cJ0_length_8abf5 4 = .ok (.arraylength, 1) := by decide +kernel
theorem dJ0_length_8abf5_5 : decode cJ0_length_8abf5 5 = .ok (.aload_n 0, 1) := by decide +kernel
theorem dJ0_length_8abf5_6 : decode cJ0_length_8abf5 6 = .ok (.invokevirtual 335, 3) := by decide +kernel
theorem dJ0_length_8abf5_9 : decode cJ0_length_8abf5 9 = .ok (.ishr, 1) := by decide +kernel
theorem dJ0_length_8abf5_10 : decode cJ0_length_8abf5 10 = .ok (.ireturn, 1) := by decide +kernel
theorem dJ1_charAt_3b067_0 : decode cJ1_charAt_3b067 0 = .ok (.iload_n 1, 1) := by decide +kernel
theorem dJ1_charAt_3b067_1 : decode cJ1_charAt_3b067 1 = .ok (.aload_n 0, 1) := by decide +kernel
theorem dJ1_charAt_3b067_2 : decode cJ1_charAt_3b067 2 = .ok (.arraylength, 1) := by decide +kernel
theorem dJ1_charAt_3b067_3 : decode cJ1_charAt_3b067 3 = .ok (.invokestatic 9, 3) := by decide +kernel
theorem dJ1_charAt_3b067_6 : decode cJ1_charAt_3b067 6 = .ok (.aload_n 0, 1) := by decide +kernel
theorem dJ1_charAt_3b067_7 : decode cJ1_charAt_3b067 7 = .ok (.iload_n 1, 1) := by decide +kernel
theorem dJ1_charAt_3b067_8 : decode cJ1_charAt_3b067 8 = .ok (.baload, 1) := by decide +kernel
theorem dJ1_charAt_3b067_9 : decode cJ1_charAt_3b067 9 = .ok (.sipush 255, 3) := by decide +kernel
theorem dJ1_charAt_3b067_12 : decode cJ1_charAt_3b067 12 = .ok (.iand, 1) := by decide +kernel
theorem dJ1_charAt_3b067_13 : decode cJ1_charAt_3b067 13 = .ok (.i2c, 1) := by decide +kernel
theorem dJ1_charAt_3b067_14 : decode cJ1_charAt_3b067 14 = .ok (.ireturn, 1) := by decide +kernel
theorem dJ3_checkIndex_8e157_0 : decode cJ3_checkIndex_8e157 0 = .ok (.iload_n 0, 1) := by decide +kernel
theorem dJ3_checkIndex_8e157_1 : decode cJ3_checkIndex_8e157 1 = .ok (.ifCond .lt 8, 3) := by decide +kernel
theorem dJ3_checkIndex_8e157_4 : decode cJ3_checkIndex_8e157 4 = .ok (.iload_n 0, 1) := by decide +kernel
theorem dJ3_checkIndex_8e157_5 : decode cJ3_checkIndex_8e157 5 = .ok (.iload_n 1, 1) := by decide +kernel
theorem dJ3_checkIndex_8e157_6 : decode cJ3_checkIndex_8e157 6 = .ok (.if_icmp .lt 10, 3) := by decide +kernel
theorem dJ3_checkIndex_8e157_16 : decode cJ3_checkIndex_8e157 16 = .ok (.iload_n 0, 1) := by decide +kernel
theorem dJ3_checkIndex_8e157_17 : decode cJ3_checkIndex_8e157 17 = .ok (.ireturn, 1) := by decide +kernel
set_option maxHeartbeats 4000000 in
set_option maxRecDepth 100000 in
/-- coder() of WORDS -/
theorem k_coderW (l : Launch) (D : va_G) (K : KS)  : Con l D K yJ0_coder_7d493 cJ0_coder_7d493 1 (some .byte) 0 0 0 0 [.ref (K 10)] [] (fun v w => v = some (.int 0) ∧ w = []) := by
  refine Con.of (by decide +kernel) (Nat.le_of_ble_eq_true rfl) ?_
  intro X hXl hXD hXK C hR hQ hnm
  subst hXl; subst hXD; subst hXK
  refine g_lv (l2 := [(0, .ref (gK X 10))]) [0] rfl ?_
  refine g_gets (z := 3) C dJ0_coder_7d493_0 (evC C) w_718 rfl ?_
  refine g_if_eq_f (z := 6) 13 C dJ0_coder_7d493_3 (by decide) (by decide) rfl ?_
  refine g_aload_n (z := 7) C dJ0_coder_7d493_6 0 rfl rfl rfl ?_
  refine g_getE (z := 10) C dJ0_coder_7d493_7 (evWc C) w_715 rfl ?_
  refine g_goto (z := 14) C dJ0_coder_7d493_10 (by decide) ?_
  exact g_iret C hQ dJ0_coder_7d493_14 rfl (Nat.le_of_ble_eq_true rfl) (Nat.le_of_ble_eq_true rfl) ⟨rfl, rfl⟩
set_option maxHeartbeats 4000000 in
set_option maxRecDepth 100000 in
/-- isLatin1() of WORDS -/
theorem k_latinW (l : Launch) (D : va_G) (K : KS)  : Con l D K yJ0_isLatin1_aae02 cJ0_isLatin1_aae02 1 (some .boolean) 0 0 0 0 [.ref (K 10)] [] (fun v w => v = some (.int 1) ∧ w = []) := by
  refine Con.of (by decide +kernel) (Nat.le_of_ble_eq_true rfl) ?_
  intro X hXl hXD hXK C hR hQ hnm
  subst hXl; subst hXD; subst hXK
  refine g_lv (l2 := [(0, .ref (gK X 10))]) [0] rfl ?_
  refine g_gets (z := 3) C dJ0_isLatin1_aae02_0 (evC C) w_718 rfl ?_
  refine g_if_eq_f (z := 6) 17 C dJ0_isLatin1_aae02_3 (by decide) (by decide) rfl ?_
  refine g_aload_n (z := 7) C dJ0_isLatin1_aae02_6 0 rfl rfl rfl ?_
  refine g_getE (z := 10) C dJ0_isLatin1_aae02_7 (evWc C) w_715 rfl ?_
  refine g_if_ne_f (z := 13) 17 C dJ0_isLatin1_aae02_10 (by decide) (by decide) rfl ?_
  refine g_iconst (v := 1) (z := 14) C dJ0_isLatin1_aae02_13 (by decide) rfl ?_
  refine g_goto (z := 18) C dJ0_isLatin1_aae02_14 (by decide) ?_
  exact g_iret C hQ dJ0_isLatin1_aae02_18 rfl (Nat.le_of_ble_eq_true rfl) (Nat.le_of_ble_eq_true rfl) ⟨rfl, rfl⟩
set_option maxHeartbeats 4000000 in
set_option maxRecDepth 100000 in
/-- length() of WORDS -/
theorem k_lengthW (l : Launch) (D : va_G) (K : KS)  : Con l D K yJ0_length_8abf5 cJ0_length_8abf5 1 (some .int) 1 20 0 0 [.ref (K 10)] [] (fun v w => v = some (.int 157) ∧ w = []) := by
  refine Con.of (by decide +kernel) (Nat.le_of_ble_eq_true rfl) ?_
  intro X hXl hXD hXK C hR hQ hnm
  subst hXl; subst hXD; subst hXK
  refine g_lv (l2 := [(0, .ref (gK X 10))]) [0] rfl ?_
  refine g_aload_n (z := 1) C dJ0_length_8abf5_0 0 rfl rfl rfl ?_
  refine g_getE (z := 4) C dJ0_length_8abf5_1 (evWv C) w_717 rfl ?_
  refine g_tlen (v := 157) (z := 5) C dJ0_length_8abf5_4 (evWt C) (by decide) rfl ?_
  refine g_aload_n (z := 6) C dJ0_length_8abf5_5 0 rfl rfl rfl ?_
  refine g_callVE (n := 0) (As := []) (rest := [.int 157]) (wr := []) (a2 := 0) (b2 := 0) (z := 9) C hR (k_coderW (gl X) (gD X) (gK X)) dJ0_length_8abf5_6 w_723 w_730 w_731 w_729 w_391 ⟨by decide +kernel, by decide +kernel, by decide +kernel⟩ [] [] rfl rfl rfl rfl rfl (by decide) ⟨(Nat.le_of_ble_eq_true rfl), (Nat.le_of_ble_eq_true rfl)⟩ rfl rfl (Nat.le_of_ble_eq_true rfl) (Nat.le_of_ble_eq_true rfl) (Nat.le_of_ble_eq_true rfl) rfl rfl (evWo C) rfl rfl rfl (fun v ws' hp => ?_)
  obtain ⟨rfl, rfl⟩ := hp
  refine g_ws (w2 := []) rfl ?_
  refine g_st (s2 := [.int 0, .int 157]) rfl ?_
  refine g_ishr (v := 157) (z := 10) C dJ0_length_8abf5_9 (by decide) rfl ?_
  exact g_iret C hQ dJ0_length_8abf5_10 rfl (Nat.le_of_ble_eq_true rfl) (Nat.le_of_ble_eq_true rfl) ⟨rfl, rfl⟩
set_option maxHeartbeats 4000000 in
set_option maxRecDepth 100000 in
/-- Preconditions.checkIndex -/
theorem k_preciN (l : Launch) (D : va_G) (K : KS) (i n : Int32) (h0 : ¬ i < 0) (h1 : i < n) : Con l D K yJ3_checkIndex_8e157 cJ3_checkIndex_8e157 3 (some .int) 0 0 0 0 [.int i, .int n, .null] [] (fun v w => v = some (.int i) ∧ w = []) := by
  refine Con.of (by decide +kernel) (Nat.le_of_ble_eq_true rfl) ?_
  intro X hXl hXD hXK C hR hQ hnm
  subst hXl; subst hXD; subst hXK
  refine g_lv (l2 := [(0, .int i), (1, .int n), (2, .null)]) [0, 1, 2] rfl ?_
  refine g_iload_n (z := 1) C dJ3_checkIndex_8e157_0 0 rfl rfl rfl ?_
  refine g_if_lt_f (z := 4) 9 C dJ3_checkIndex_8e157_1 h0 (by decide) rfl ?_
  refine g_iload_n (z := 5) C dJ3_checkIndex_8e157_4 0 rfl rfl rfl ?_
  refine g_iload_n (z := 6) C dJ3_checkIndex_8e157_5 1 rfl rfl rfl ?_
  refine g_icmp_lt_t (z := 16) C dJ3_checkIndex_8e157_6 h1 (by decide) ?_
  refine g_iload_n (z := 17) C dJ3_checkIndex_8e157_16 0 rfl rfl rfl ?_
  exact g_iret C hQ dJ3_checkIndex_8e157_17 rfl (Nat.le_of_ble_eq_true rfl) (Nat.le_of_ble_eq_true rfl) ⟨rfl, rfl⟩
set_option maxHeartbeats 4000000 in
set_option maxRecDepth 100000 in
/-- Preconditions.checkIndex -/
theorem k_preciR (l : Launch) (D : va_G) (K : KS) (t : Nat) (i n : Int32) (h0 : ¬ i < 0) (h1 : i < n) : Con l D K yJ3_checkIndex_8e157 cJ3_checkIndex_8e157 3 (some .int) 0 0 0 0 [.int i, .int n, .ref t] [] (fun v w => v = some (.int i) ∧ w = []) := by
  refine Con.of (by decide +kernel) (Nat.le_of_ble_eq_true rfl) ?_
  intro X hXl hXD hXK C hR hQ hnm
  subst hXl; subst hXD; subst hXK
  refine g_lv (l2 := [(0, .int i), (1, .int n), (2, .ref t)]) [0, 1, 2] rfl ?_
  refine g_iload_n (z := 1) C dJ3_checkIndex_8e157_0 0 rfl rfl rfl ?_
  refine g_if_lt_f (z := 4) 9 C dJ3_checkIndex_8e157_1 h0 (by decide) rfl ?_
  refine g_iload_n (z := 5) C dJ3_checkIndex_8e157_4 0 rfl rfl rfl ?_
  refine g_iload_n (z := 6) C dJ3_checkIndex_8e157_5 1 rfl rfl rfl ?_
  refine g_icmp_lt_t (z := 16) C dJ3_checkIndex_8e157_6 h1 (by decide) ?_
  refine g_iload_n (z := 17) C dJ3_checkIndex_8e157_16 0 rfl rfl rfl ?_
  exact g_iret C hQ dJ3_checkIndex_8e157_17 rfl (Nat.le_of_ble_eq_true rfl) (Nat.le_of_ble_eq_true rfl) ⟨rfl, rfl⟩
set_option maxHeartbeats 4000000 in
set_option maxRecDepth 100000 in
/-- String.checkIndex -/
theorem k_sci (l : Launch) (D : va_G) (K : KS) (i n : Int32) (h0 : ¬ i < 0) (h1 : i < n) : Con l D K yJ0_checkIndex_df160 cJ0_checkIndex_df160 2 none 1 22 0 0 [.int i, .int n] [] (fun v w => v = none ∧ w = []) := by
  refine Con.of (by decide +kernel) (Nat.le_of_ble_eq_true rfl) ?_
  intro X hXl hXD hXK C hR hQ hnm
  subst hXl; subst hXD; subst hXK
  refine g_lv (l2 := [(0, .int i), (1, .int n)]) [0, 1] rfl ?_
  refine g_iload_n (z := 1) C dJ0_checkIndex_df160_0 0 rfl rfl rfl ?_
  refine g_iload_n (z := 2) C dJ0_checkIndex_df160_1 1 rfl rfl rfl ?_
  rcases evF C with hF | ⟨t, hF⟩
  · refine g_gets (z := 5) C dJ0_checkIndex_df160_2 hF w_737 rfl ?_
    refine g_callS (n := 3) (As := [.int i, .int n, .null]) (rest := []) (wr := []) (a2 := 0) (b2 := 0) (z := 8) C hR (k_preciN (gl X) (gD X) (gK X) i n h0 h1) dJ0_checkIndex_df160_5 w_738 w_745 w_743 w_744 ⟨by decide +kernel, by decide +kernel, by decide +kernel⟩ [] [] rfl rfl rfl rfl rfl (by decide) ⟨(Nat.le_of_ble_eq_true rfl), (Nat.le_of_ble_eq_true rfl)⟩ rfl rfl (Nat.le_of_ble_eq_true rfl) (Nat.le_of_ble_eq_true rfl) (Nat.le_of_ble_eq_true rfl) rfl rfl rfl rfl (fun v ws' hp => ?_)
    obtain ⟨rfl, rfl⟩ := hp
    refine g_ws (w2 := []) rfl ?_
    refine g_st (s2 := [.int i]) rfl ?_
    refine g_pop (z := 9) C dJ0_checkIndex_df160_8 rfl rfl ?_
    exact g_vret C hQ dJ0_checkIndex_df160_9 (Nat.le_of_ble_eq_true rfl) (Nat.le_of_ble_eq_true rfl) ⟨rfl, rfl⟩
  · refine g_gets (z := 5) C dJ0_checkIndex_df160_2 hF w_737 rfl ?_
    refine g_callS (n := 3) (As := [.int i, .int n, .ref t]) (rest := []) (wr := []) (a2 := 0) (b2 := 0) (z := 8) C hR (k_preciR (gl X) (gD X) (gK X) t i n h0 h1) dJ0_checkIndex_df160_5 w_738 w_745 w_743 w_744 ⟨by decide +kernel, by decide +kernel, by decide +kernel⟩ [] [] rfl rfl rfl rfl rfl (by decide) ⟨(Nat.le_of_ble_eq_true rfl), (Nat.le_of_ble_eq_true rfl)⟩ rfl rfl (Nat.le_of_ble_eq_true rfl) (Nat.le_of_ble_eq_true rfl) (Nat.le_of_ble_eq_true rfl) rfl rfl rfl rfl (fun v ws' hp => ?_)
    obtain ⟨rfl, rfl⟩ := hp
    refine g_ws (w2 := []) rfl ?_
    refine g_st (s2 := [.int i]) rfl ?_
    refine g_pop (z := 9) C dJ0_checkIndex_df160_8 rfl rfl ?_
    exact g_vret C hQ dJ0_checkIndex_df160_9 (Nat.le_of_ble_eq_true rfl) (Nat.le_of_ble_eq_true rfl) ⟨rfl, rfl⟩
set_option maxHeartbeats 4000000 in
set_option maxRecDepth 100000 in
/-- StringLatin1.charAt over the bytes of WORDS -/
theorem k_lcharW (l : Launch) (D : va_G) (K : KS) (i : Nat) (hi : i < 157) : Con l D K yJ1_charAt_3b067 cJ1_charAt_3b067 2 (some .char) 2 43 0 0 [.ref (K 11), .int (nI i)] [] (fun v w => (∃ r : Int32, narrow .char (.int r) = .int r ∧ v = some (.int r)) ∧ w = []) := by
  refine Con.of (by decide +kernel) (Nat.le_of_ble_eq_true rfl) ?_
  intro X hXl hXD hXK C hR hQ hnm
  subst hXl; subst hXD; subst hXK
  refine g_lv (l2 := [(0, .ref (gK X 11)), (1, .int (nI i))]) [0, 1] rfl ?_
  refine g_iload_n (z := 1) C dJ1_charAt_3b067_0 1 rfl rfl rfl ?_
  refine g_aload_n (z := 2) C dJ1_charAt_3b067_1 0 rfl rfl rfl ?_
  refine g_tlen (v := 157) (z := 3) C dJ1_charAt_3b067_2 (evWt C) (by decide) rfl ?_
  refine g_callS (n := 2) (As := [.int (nI i), .int 157]) (rest := []) (wr := []) (a2 := 0) (b2 := 0) (z := 6) C hR (k_sci (gl X) (gD X) (gK X) (nI i) 157 (nI_pos (by omega)) (nI_lt (a := i) (b := 157) hi (by omega))) dJ1_charAt_3b067_3 w_742 w_736 w_735 w_391 ⟨by decide +kernel, by decide +kernel, by decide +kernel⟩ [] [] rfl rfl rfl rfl rfl (by decide) ⟨(Nat.le_of_ble_eq_true rfl), (Nat.le_of_ble_eq_true rfl)⟩ rfl rfl (Nat.le_of_ble_eq_true rfl) (Nat.le_of_ble_eq_true rfl) (Nat.le_of_ble_eq_true rfl) rfl rfl rfl rfl (fun v ws' hp => ?_)
  obtain ⟨rfl, rfl⟩ := hp
  refine g_ws (w2 := []) rfl ?_
  refine g_st (s2 := []) rfl ?_
  refine g_aload_n (z := 7) C dJ1_charAt_3b067_6 0 rfl rfl rfl ?_
  refine g_iload_n (z := 8) C dJ1_charAt_3b067_7 1 rfl rfl rfl ?_
  refine g_tb (v := .int (fW i)) (z := 9) C dJ1_charAt_3b067_8 (evWt C) (vp_in_nI hi (by omega)) (by rw [nI_clamp (by omega)]) rfl ?_
  refine g_sipush (v := 255) (z := 12) C dJ1_charAt_3b067_9 (by decide) rfl ?_
  refine g_iand (v := ((fW i) &&& 255)) (z := 13) C dJ1_charAt_3b067_12 (rfl) rfl ?_
  refine g_i2c (v := ((fW i &&& 255).toUInt32 % 65536).toInt32) (z := 14) C dJ1_charAt_3b067_13 rfl rfl ?_
  exact g_iret C hQ dJ1_charAt_3b067_14 (pk_nc _) (Nat.le_of_ble_eq_true rfl) (Nat.le_of_ble_eq_true rfl) ⟨⟨_, pk_nc _, rfl⟩, rfl⟩
set_option maxHeartbeats 4000000 in
set_option maxRecDepth 100000 in
/-- charAt(i) of WORDS: some char -/
theorem k_charW (l : Launch) (D : va_G) (K : KS) (i : Nat) (hi : i < 157) : Con l D K yJ0_charAt_5068e cJ0_charAt_5068e 2 (some .char) 3 64 0 0 [.ref (K 10), .int (nI i)] [] (fun v w => (∃ r : Int32, v = some (.int r)) ∧ w = []) := by
  refine Con.of (by decide +kernel) (Nat.le_of_ble_eq_true rfl) ?_
  intro X hXl hXD hXK C hR hQ hnm
  subst hXl; subst hXD; subst hXK
  refine g_lv (l2 := [(0, .ref (gK X 10)), (1, .int (nI i))]) [0, 1] rfl ?_
  refine g_aload_n (z := 1) C dJ0_charAt_5068e_0 0 rfl rfl rfl ?_
  refine g_callVE (n := 0) (As := []) (rest := []) (wr := []) (a2 := 0) (b2 := 0) (z := 4) C hR (k_latinW (gl X) (gD X) (gK X)) dJ0_charAt_5068e_1 w_727 w_733 w_734 w_732 w_391 ⟨by decide +kernel, by decide +kernel, by decide +kernel⟩ [] [] rfl rfl rfl rfl rfl (by decide) ⟨(Nat.le_of_ble_eq_true rfl), (Nat.le_of_ble_eq_true rfl)⟩ rfl rfl (Nat.le_of_ble_eq_true rfl) (Nat.le_of_ble_eq_true rfl) (Nat.le_of_ble_eq_true rfl) rfl rfl (evWo C) rfl rfl rfl (fun v ws' hp => ?_)
  obtain ⟨rfl, rfl⟩ := hp
  refine g_ws (w2 := []) rfl ?_
  refine g_st (s2 := [.int 1]) rfl ?_
  refine g_if_eq_f (z := 7) 16 C dJ0_charAt_5068e_4 (by decide) (by decide) rfl ?_
  refine g_aload_n (z := 8) C dJ0_charAt_5068e_7 0 rfl rfl rfl ?_
  refine g_getE (z := 11) C dJ0_charAt_5068e_8 (evWv C) w_717 rfl ?_
  refine g_iload_n (z := 12) C dJ0_charAt_5068e_11 1 rfl rfl rfl ?_
  refine g_callS (n := 2) (As := [.ref (gK X 11), .int (nI i)]) (rest := []) (wr := []) (a2 := 0) (b2 := 0) (z := 15) C hR (k_lcharW (gl X) (gD X) (gK X) i hi) dJ0_charAt_5068e_12 w_728 w_741 w_739 w_740 ⟨by decide +kernel, by decide +kernel, by decide +kernel⟩ [] [] rfl rfl rfl rfl rfl (by decide) ⟨(Nat.le_of_ble_eq_true rfl), (Nat.le_of_ble_eq_true rfl)⟩ rfl rfl (Nat.le_of_ble_eq_true rfl) (Nat.le_of_ble_eq_true rfl) (Nat.le_of_ble_eq_true rfl) rfl rfl rfl rfl (fun v ws' hp => ?_)
  obtain ⟨⟨r, hr, rfl⟩, rfl⟩ := hp
  refine g_ws (w2 := []) rfl ?_
  refine g_st (s2 := [.int r]) rfl ?_
  exact g_iret C hQ dJ0_charAt_5068e_15 hr (Nat.le_of_ble_eq_true rfl) (Nat.le_of_ble_eq_true rfl) ⟨⟨r, rfl⟩, rfl⟩

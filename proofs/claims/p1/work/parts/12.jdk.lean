theorem dJ0_init_81219_0 : decode cJ0_init_81219 0 = .ok (.aload_n 0, 1) := by decide +kernel
theorem dJ0_init_81219_1 : decode cJ0_init_81219 1 = .ok (.aload_n 1, 1) := by decide +kernel
theorem dJ0_init_81219_2 : decode cJ0_init_81219 2 = .ok (.aconst_null, 1) := by decide +kernel
theorem dJ0_init_81219_3 : decode cJ0_init_81219 3 = .ok (.invokespecial 489, 3) := by decide +kernel
theorem dJ0_init_81219_6 : decode cJ0_init_81219 6 = .ok (.return_, 1) := by decide +kernel
theorem dJ0_init_db425_0 : decode cJ0_init_db425 0 = .ok (.aload_n 0, 1) := by decide +kernel
theorem dJ0_init_db425_1 : decode cJ0_init_db425 1 = .ok (.invokespecial 1, 3) := by decide +kernel
theorem dJ0_init_db425_4 : decode cJ0_init_db425 4 = .ok (.aload_n 1, 1) := by decide +kernel
theorem dJ0_init_db425_5 : decode cJ0_init_db425 5 = .ok (.invokevirtual 552, 3) := by decide +kernel
theorem dJ0_init_db425_8 : decode cJ0_init_db425 8 = .ok (.astore_n 3, 1) := by decide +kernel
theorem dJ0_init_db425_9 : decode cJ0_init_db425 9 = .ok (.aload_n 1, 1) := by decide +kernel
theorem dJ0_init_db425_10 : decode cJ0_init_db425 10 = .ok (.invokevirtual 549, 3) := by decide +kernel
theorem dJ0_init_db425_13 : decode cJ0_init_db425 13 = .ok (.istore 4, 2) := by decide +kernel
theorem dJ0_init_db425_15 : decode cJ0_init_db425 15 = .ok (.aload_n 1, 1) := by decide +kernel
theorem dJ0_init_db425_16 : decode cJ0_init_db425 16 = .ok (.invokevirtual 1047, 3) := by decide +kernel
theorem dJ0_init_db425_19 : decode cJ0_init_db425 19 = .ok (.ifCond .eq 22, 3) := by decide +kernel
theorem dJ0_init_db425_22 : decode cJ0_init_db425 22 = .ok (.aload_n 0, 1) := by decide +kernel
theorem dJ0_init_db425_23 : decode cJ0_init_db425 23 = .ok (.iconst 0, 1) := by decide +kernel
theorem dJ0_init_db425_24 : decode cJ0_init_db425 24 = .ok (.putfield 15, 3) := by decide +kernel
theorem dJ0_init_db425_27 : decode cJ0_init_db425 27 = .ok (.aload_n 0, 1) := by decide +kernel
theorem dJ0_init_db425_28 : decode cJ0_init_db425 28 = .ok (.aload_n 3, 1) := by decide +kernel
theorem dJ0_init_db425_29 : decode cJ0_init_db425 29 = .ok (.iconst 0, 1) := by decide +kernel
theorem dJ0_init_db425_30 : decode cJ0_init_db425 30 = .ok (.iload 4, 2) := by decide +kernel
theorem dJ0_init_db425_32 : decode cJ0_init_db425 32 = .ok (.invokestatic 54, 3) := by decide +kernel
theorem dJ0_init_db425_35 : decode cJ0_init_db425 35 = .ok (.putfield 9, 3) := by decide +kernel
theorem dJ0_init_db425_38 : decode cJ0_init_db425 38 = .ok (.goto 59, 3) := by decide +kernel
theorem dJ0_init_db425_97 : decode cJ0_init_db425 97 = .ok (.return_, 1) := by decide +kernel
theorem dJ4_init_d00df_0 : decode cJ4_init_d00df 0 = .ok (.aload_n 0, 1) := by decide +kernel
theorem dJ4_init_d00df_1 : decode cJ4_init_d00df 1 = .ok (.iload_n 1, 1) := by decide +kernel
theorem dJ4_init_d00df_2 : decode cJ4_init_d00df 2 = .ok (.invokespecial 1, 3) := by decide +kernel
theorem dJ4_init_d00df_5 : decode cJ4_init_d00df 5 = .ok (.return_, 1) := by decide +kernel
theorem dJ4_length_8abf5_0 : decode cJ4_length_8abf5 0 = .ok (.aload_n 0, 1) := by decide +kernel
theorem dJ4_length_8abf5_1 : decode cJ4_length_8abf5 1 = .ok (.invokespecial 343, 3) := by decide +kernel
theorem dJ4_length_8abf5_4 : decode cJ4_length_8abf5 4 = .ok (.ireturn, 1) := by decide +kernel
theorem dJ4_setLength_d00df_0 : decode cJ4_setLength_d00df 0 = .ok (.aload_n 0, 1) := by decide +kernel
theorem dJ4_setLength_d00df_1 : decode cJ4_setLength_d00df 1 = .ok (.iload_n 1, 1) := by decide +kernel
theorem dJ4_setLength_d00df_2 : decode cJ4_setLength_d00df 2 = .ok (.invokespecial 333, 3) := by decide +kernel
theorem dJ4_setLength_d00df_5 : decode cJ4_setLength_d00df 5 = .ok (.return_, 1) := by decide +kernel
theorem dJ4_toString_0e30d_0 : decode cJ4_toString_0e30d 0 = .ok (.new 18, 3) := by decide +kernel
theorem dJ4_toString_0e30d_3 : decode cJ4_toString_0e30d 3 = .ok (.dup, 1) := by decide +kernel
theorem dJ4_toString_0e30d_4 : decode cJ4_toString_0e30d 4 = .ok (.aload_n 0, 1) := by decide +kernel
theorem dJ4_toString_0e30d_5 : decode cJ4_toString_0e30d 5 = .ok (.invokespecial 137, 3) := by decide +kernel
theorem dJ4_toString_0e30d_8 : decode cJ4_toString_0e30d 8 = .ok (.areturn, 1) := by decide +kernel
theorem dJ5_ensureCapacityInternal_d00df_0 : decode cJ5_ensureCapacityInternal_d00df 0 = .ok (.aload_n 0, 1) := by decide +kernel
theorem dJ5_ensureCapacityInternal_d00df_1 : decode cJ5_ensureCapacityInternal_d00df 1 = .ok (.getfield 15, 3) := by decide +kernel
theorem dJ5_ensureCapacityInternal_d00df_4 : decode cJ5_ensureCapacityInternal_d00df 4 = .ok (.arraylength, 1) := by decide +kernel
theorem dJ5_ensureCapacityInternal_d00df_5 : decode cJ5_ensureCapacityInternal_d00df 5 = .ok (.aload_n 0, 1) := by decide +kernel
theorem dJ5_ensureCapacityInternal_d00df_6 : decode cJ5_ensureCapacityInternal_d00df 6 = .ok (.getfield 22, 3) := by decide +kernel
theorem dJ5_ensureCapacityInternal_d00df_9 : decode cJ5_ensureCapacityInternal_d00df 9 = .ok (.ishr, 1) := by decide +kernel
theorem dJ5_ensureCapacityInternal_d00df_10 : decode cJ5_ensureCapacityInternal_d00df 10 = .ok (.istore_n 2, 1) := by decide +kernel
theorem dJ5_ensureCapacityInternal_d00df_11 : decode cJ5_ensureCapacityInternal_d00df 11 = .ok (.iload_n 1, 1) := by decide +kernel
theorem dJ5_ensureCapacityInternal_d00df_12 : decode cJ5_ensureCapacityInternal_d00df 12 = .ok (.iload_n 2, 1) := by decide +kernel
theorem dJ5_ensureCapacityInternal_d00df_13 : decode cJ5_ensureCapacityInternal_d00df 13 = .ok (.isub, 1) := by decide +kernel
theorem dJ5_ensureCapacityInternal_d00df_14 : decode cJ5_ensureCapacityInternal_d00df 14 = .ok (.ifCond .le 24, 3) := by decide +kernel
theorem dJ5_ensureCapacityInternal_d00df_38 : decode cJ5_ensureCapacityInternal_d00df 38 = .ok (.return_, 1) := by decide +kernel
theorem dJ5_getValue_6d5f1_0 : decode cJ5_getValue_6d5f1 0 = .ok (.aload_n 0, 1) := by decide +kernel
theorem dJ5_getValue_6d5f1_1 : decode cJ5_getValue_6d5f1 1 = .ok (.getfield 15, 3) := by decide +kernel
theorem dJ5_getValue_6d5f1_4 : decode cJ5_getValue_6d5f1 4 = .ok (.areturn, 1) := by decide +kernel
theorem dJ5_init_d00df_0 : decode cJ5_init_d00df 0 = .ok (.aload_n 0, 1) := by decide +kernel
theorem dJ5_init_d00df_1 : decode cJ5_init_d00df 1 = .ok (.invokespecial 3, 3) := by decide +kernel
theorem dJ5_init_d00df_4 : decode cJ5_init_d00df 4 = .ok (.getstatic 18, 3) := by decide +kernel
theorem dJ5_init_d00df_7 : decode cJ5_init_d00df 7 = .ok (.ifCond .eq 18, 3) := by decide +kernel
theorem dJ5_init_d00df_10 : decode cJ5_init_d00df 10 = .ok (.aload_n 0, 1) := by decide +kernel
theorem dJ5_init_d00df_11 : decode cJ5_init_d00df 11 = .ok (.iload_n 1, 1) := by decide +kernel
theorem dJ5_init_d00df_12 : decode cJ5_init_d00df 12 = .ok (.newarray .byte, 2) := by decide +kernel
theorem dJ5_init_d00df_14 : decode cJ5_init_d00df 14 = .ok (.putfield 15, 3) := by decide +kernel
theorem dJ5_init_d00df_17 : decode cJ5_init_d00df 17 = .ok (.aload_n 0, 1) := by decide +kernel
theorem dJ5_init_d00df_18 : decode cJ5_init_d00df 18 = .ok (.iconst 0, 1) := by decide +kernel
theorem dJ5_init_d00df_19 : decode cJ5_init_d00df 19 = .ok (.putfield 22, 3) := by decide +kernel
theorem dJ5_init_d00df_22 : decode cJ5_init_d00df 22 = .ok (.goto 16, 3) := by decide +kernel
theorem dJ5_init_d00df_38 : decode cJ5_init_d00df 38 = .ok (.return_, 1) := by decide +kernel
theorem dJ5_isLatin1_aae02_0 : decode cJ5_isLatin1_aae02 0 = .ok (.getstatic 18, 3) := by decide +kernel
theorem dJ5_isLatin1_aae02_3 : decode cJ5_isLatin1_aae02 3 = .ok (.ifCond .eq 14, 3) := by decide +kernel
theorem dJ5_isLatin1_aae02_6 : decode cJ5_isLatin1_aae02 6 = .ok (.aload_n 0, 1) := by decide +kernel
theorem dJ5_isLatin1_aae02_7 : decode cJ5_isLatin1_aae02 7 = .ok (.getfield 22, 3) := by decide +kernel
theorem dJ5_isLatin1_aae02_10 : decode cJ5_isLatin1_aae02 10 = .ok (.ifCond .ne 7, 3) := by decide +kernel
theorem dJ5_isLatin1_aae02_13 : decode cJ5_isLatin1_aae02 13 = .ok (.iconst 1, 1) := by decide +kernel
theorem dJ5_isLatin1_aae02_14 : decode cJ5_isLatin1_aae02 14 = .ok (.goto 4, 3) := by decide +kernel
theorem dJ5_isLatin1_aae02_18 : decode cJ5_isLatin1_aae02 18 = .ok (.ireturn, 1) := by decide +kernel
theorem dJ5_length_8abf5_0 : decode cJ5_length_8abf5 0 = .ok (.aload_n 0, 1) := by decide +kernel
theorem dJ5_length_8abf5_1 : decode cJ5_length_8abf5 1 = .ok (.getfield 79, 3) := by decide +kernel
theorem dJ5_length_8abf5_4 : decode cJ5_length_8abf5 4 = .ok (.ireturn, 1) := by decide +kernel
theorem dJ5_setLength_d00df_0 : decode cJ5_setLength_d00df 0 = .ok (.iload_n 1, 1) := by decide +kernel
theorem dJ5_setLength_d00df_1 : decode cJ5_setLength_d00df 1 = .ok (.ifCond .ge 12, 3) := by decide +kernel
theorem dJ5_setLength_d00df_13 : decode cJ5_setLength_d00df 13 = .ok (.aload_n 0, 1) := by decide +kernel
theorem dJ5_setLength_d00df_14 : decode cJ5_setLength_d00df 14 = .ok (.iload_n 1, 1) := by decide +kernel
theorem dJ5_setLength_d00df_15 : decode cJ5_setLength_d00df 15 = .ok (.invokevirtual 100, 3) := by decide +kernel
theorem dJ5_setLength_d00df_18 : decode cJ5_setLength_d00df 18 = .ok (.aload_n 0, 1) := by decide +kernel
theorem dJ5_setLength_d00df_19 : decode cJ5_setLength_d00df 19 = .ok (.getfield 79, 3) := by decide +kernel
theorem dJ5_setLength_d00df_22 : decode cJ5_setLength_d00df 22 = .ok (.iload_n 1, 1) := by decide +kernel
theorem dJ5_setLength_d00df_23 : decode cJ5_setLength_d00df 23 = .ok (.if_icmp .ge 40, 3) := by decide +kernel
theorem dJ5_setLength_d00df_63 : decode cJ5_setLength_d00df 63 = .ok (.aload_n 0, 1) := by decide +kernel
theorem dJ5_setLength_d00df_64 : decode cJ5_setLength_d00df 64 = .ok (.getfield 79, 3) := by decide +kernel
theorem dJ5_setLength_d00df_67 : decode cJ5_setLength_d00df 67 = .ok (.iload_n 1, 1) := by decide +kernel
theorem dJ5_setLength_d00df_68 : decode cJ5_setLength_d00df 68 = .ok (.if_icmp .le 8, 3) := by decide +kernel
theorem dJ5_setLength_d00df_76 : decode cJ5_setLength_d00df 76 = .ok (.aload_n 0, 1) := by decide +kernel
theorem dJ5_setLength_d00df_77 : decode cJ5_setLength_d00df 77 = .ok (.iload_n 1, 1) := by decide +kernel
theorem dJ5_setLength_d00df_78 : decode cJ5_setLength_d00df 78 = .ok (.putfield 79, 3) := by decide +kernel
theorem dJ5_setLength_d00df_81 : decode cJ5_setLength_d00df 81 = .ok (.return_, 1) := by decide +kernel
theorem dJ7_checkLength_df160_0 : decode cJ7_checkLength_df160 0 = .ok (.iload_n 1, 1) := by decide +kernel
theorem dJ7_checkLength_df160_1 : decode cJ7_checkLength_df160 1 = .ok (.iload_n 0, 1) := by decide +kernel
theorem dJ7_checkLength_df160_2 : decode cJ7_checkLength_df160 2 = .ok (.if_icmp .ge 35, 3) := by decide +kernel
theorem dJ7_checkLength_df160_37 : decode cJ7_checkLength_df160 37 = .ok (.return_, 1) := by decide +kernel
theorem dJ7_copyOfRangeByte_39247_0 : decode cJ7_copyOfRangeByte_39247 0 = .ok (.iload_n 1, 1) := by decide +kernel
theorem dJ7_copyOfRangeByte_39247_1 : decode cJ7_copyOfRangeByte_39247 1 = .ok (.iload_n 2, 1) := by decide +kernel
theorem dJ7_copyOfRangeByte_39247_2 : decode cJ7_copyOfRangeByte_39247 2 = .ok (.invokestatic 343, 3) := by decide +kernel
theorem dJ7_copyOfRangeByte_39247_5 : decode cJ7_copyOfRangeByte_39247 5 = .ok (.iload_n 2, 1) := by decide +kernel
theorem dJ7_copyOfRangeByte_39247_6 : decode cJ7_copyOfRangeByte_39247 6 = .ok (.iload_n 1, 1) := by decide +kernel
theorem dJ7_copyOfRangeByte_39247_7 : decode cJ7_copyOfRangeByte_39247 7 = .ok (.isub, 1) := by decide +kernel
theorem dJ7_copyOfRangeByte_39247_8 : decode cJ7_copyOfRangeByte_39247 8 = .ok (.istore_n 3, 1) := by decide +kernel
theorem dJ7_copyOfRangeByte_39247_9 : decode cJ7_copyOfRangeByte_39247 9 = .ok (.iload_n 3, 1) := by decide +kernel
theorem dJ7_copyOfRangeByte_39247_10 : decode cJ7_copyOfRangeByte_39247 10 = .ok (.newarray .byte, 2) := by decide +kernel
theorem dJ7_copyOfRangeByte_39247_12 : decode cJ7_copyOfRangeByte_39247 12 = .ok (.astore 4, 2) := by decide +kernel
theorem dJ7_copyOfRangeByte_39247_14 : decode cJ7_copyOfRangeByte_39247 14 = .ok (.aload_n 0, 1) := by decide +kernel
theorem dJ7_copyOfRangeByte_39247_15 : decode cJ7_copyOfRangeByte_39247 15 = .ok (.iload_n 1, 1) := by decide +kernel
theorem dJ7_copyOfRangeByte_39247_16 : decode cJ7_copyOfRangeByte_39247 16 = .ok (.aload 4, 2) := by decide +kernel
theorem dJ7_copyOfRangeByte_39247_18 : decode cJ7_copyOfRangeByte_39247 18 = .ok (.iconst 0, 1) := by decide +kernel
theorem dJ7_copyOfRangeByte_39247_19 : decode cJ7_copyOfRangeByte_39247 19 = .ok (.aload_n 0, 1) := by decide +kernel
theorem dJ7_copyOfRangeByte_39247_20 : decode cJ7_copyOfRangeByte_39247 20 = .ok (.arraylength, 1) := by decide +kernel
theorem dJ7_copyOfRangeByte_39247_21 : decode cJ7_copyOfRangeByte_39247 21 = .ok (.iload_n 1, 1) := by decide +kernel
theorem dJ7_copyOfRangeByte_39247_22 : decode cJ7_copyOfRangeByte_39247 22 = .ok (.isub, 1) := by decide +kernel
theorem dJ7_copyOfRangeByte_39247_23 : decode cJ7_copyOfRangeByte_39247 23 = .ok (.iload_n 3, 1) := by decide +kernel
theorem dJ7_copyOfRangeByte_39247_24 : decode cJ7_copyOfRangeByte_39247 24 = .ok (.invokestatic 304, 3) := by decide +kernel
theorem dJ7_copyOfRangeByte_39247_27 : decode cJ7_copyOfRangeByte_39247 27 = .ok (.invokestatic 150, 3) := by decide +kernel
theorem dJ7_copyOfRangeByte_39247_30 : decode cJ7_copyOfRangeByte_39247 30 = .ok (.aload 4, 2) := by decide +kernel
theorem dJ7_copyOfRangeByte_39247_32 : decode cJ7_copyOfRangeByte_39247 32 = .ok (.areturn, 1) := by decide +kernel
theorem dJ7_copyOfRange_39247_0 : decode cJ7_copyOfRange_39247 0 = .ok (.iload_n 1, 1) := by decide +kernel
theorem dJ7_copyOfRange_39247_1 : decode cJ7_copyOfRange_39247 1 = .ok (.ifCond .ne 9, 3) := by decide +kernel
theorem dJ7_copyOfRange_39247_4 : decode cJ7_copyOfRange_39247 4 = .ok (.iload_n 2, 1) := by decide +kernel
theorem dJ7_copyOfRange_39247_5 : decode cJ7_copyOfRange_39247 5 = .ok (.aload_n 0, 1) := by decide +kernel
theorem dJ7_copyOfRange_39247_6 : decode cJ7_copyOfRange_39247 6 = .ok (.arraylength, 1) := by decide +kernel
theorem dJ7_copyOfRange_39247_7 : decode cJ7_copyOfRange_39247 7 = .ok (.if_icmp .eq 10, 3) := by decide +kernel
theorem dJ7_copyOfRange_39247_10 : decode cJ7_copyOfRange_39247 10 = .ok (.aload_n 0, 1) := by decide +kernel
theorem dJ7_copyOfRange_39247_11 : decode cJ7_copyOfRange_39247 11 = .ok (.iload_n 1, 1) := by decide +kernel
theorem dJ7_copyOfRange_39247_12 : decode cJ7_copyOfRange_39247 12 = .ok (.iload_n 2, 1) := by decide +kernel
theorem dJ7_copyOfRange_39247_13 : decode cJ7_copyOfRange_39247 13 = .ok (.invokestatic 339, 3) := by decide +kernel
theorem dJ7_copyOfRange_39247_16 : decode cJ7_copyOfRange_39247 16 = .ok (.areturn, 1) := by decide +kernel
theorem dJx4a65c_init_da8c8_0 : decode cJx4a65c_init_da8c8 0 = .ok (.aload_n 0, 1) := by decide +kernel
theorem dJx4a65c_init_da8c8_1 : decode cJx4a65c_init_da8c8 1 = .ok (.invokespecial 1, 3) := by decide +kernel
theorem dJx4a65c_init_da8c8_4 : decode cJx4a65c_init_da8c8 4 = .ok (.aload_n 0, 1) := by decide +kernel
theorem dJx4a65c_init_da8c8_5 : decode cJx4a65c_init_da8c8 5 = .ok (.getstatic 39, 3) := by decide +kernel
theorem dJx4a65c_init_da8c8_8 : decode cJx4a65c_init_da8c8 8 = .ok (.putfield 9, 3) := by decide +kernel
theorem dJx4a65c_init_da8c8_11 : decode cJx4a65c_init_da8c8 11 = .ok (.return_, 1) := by decide +kernel
theorem dJx4a65c_size_8abf5_0 : decode cJx4a65c_size_8abf5 0 = .ok (.aload_n 0, 1) := by decide +kernel
theorem dJx4a65c_size_8abf5_1 : decode cJx4a65c_size_8abf5 1 = .ok (.getfield 48, 3) := by decide +kernel
theorem dJx4a65c_size_8abf5_4 : decode cJx4a65c_size_8abf5 4 = .ok (.ireturn, 1) := by decide +kernel
theorem dJxa1e45_init_da8c8_0 : decode cJxa1e45_init_da8c8 0 = .ok (.aload_n 0, 1) := by decide +kernel
theorem dJxa1e45_init_da8c8_1 : decode cJxa1e45_init_da8c8 1 = .ok (.invokespecial 1, 3) := by decide +kernel
theorem dJxa1e45_init_da8c8_4 : decode cJxa1e45_init_da8c8 4 = .ok (.return_, 1) := by decide +kernel
theorem dJxc12de_init_da8c8_0 : decode cJxc12de_init_da8c8 0 = .ok (.aload_n 0, 1) := by decide +kernel
theorem dJxc12de_init_da8c8_1 : decode cJxc12de_init_da8c8 1 = .ok (.invokespecial 1, 3) := by decide +kernel
theorem dJxc12de_init_da8c8_4 : decode cJxc12de_init_da8c8 4 = .ok (.aload_n 0, 1) := by decide +kernel
theorem dJxc12de_init_da8c8_5 : decode cJxc12de_init_da8c8 5 = .ok (.iconst 0, 1) := by decide +kernel
theorem dJxc12de_init_da8c8_6 : decode cJxc12de_init_da8c8 6 = .ok (.putfield 7, 3) := by decide +kernel
theorem dJxc12de_init_da8c8_9 : decode cJxc12de_init_da8c8 9 = .ok (.return_, 1) := by decide +kernel
set_option maxHeartbeats 4000000 in
set_option maxRecDepth 100000 in
/-- AbstractCollection() -/
theorem k_acoll (l : Launch) (D : va_G) (K : KS) (h0 : Nat) : Con l D K yJxa1e45_init_da8c8 cJxa1e45_init_da8c8 1 none 1 12 0 0 [.ref h0] [] (fun v w => v = none ∧ w = []) := by
  refine Con.of (by decide +kernel) (Nat.le_of_ble_eq_true rfl) ?_
  intro X hXl hXD hXK C hR hQ hnm
  subst hXl; subst hXD; subst hXK
  refine g_lv (l2 := [(0, .ref h0)]) [0] rfl ?_
  refine g_aload_n (z := 1) C dJxa1e45_init_da8c8_0 0 rfl rfl rfl ?_
  refine g_objInit (z := 4) C hR dJxa1e45_init_da8c8_1 w_761 w_0 w_1 (Nat.le_of_ble_eq_true rfl) (Nat.le_of_ble_eq_true rfl) rfl ?_
  exact g_vret C hQ dJxa1e45_init_da8c8_4 (Nat.le_of_ble_eq_true rfl) (Nat.le_of_ble_eq_true rfl) ⟨rfl, rfl⟩
set_option maxHeartbeats 4000000 in
set_option maxRecDepth 100000 in
/-- AbstractList() -/
theorem k_alist (l : Launch) (D : va_G) (K : KS) (h0 : Nat) : Con l D K yJxc12de_init_da8c8 cJxc12de_init_da8c8 1 none 2 32 0 0 [.ref h0] [(h0, .inr (18, [.int 0, .null, .int 0]))] (fun v w => v = none ∧ w = [(h0, .inr (18, [.int 0, .null, .int 0]))]) := by
  refine Con.of (by decide +kernel) (Nat.le_of_ble_eq_true rfl) ?_
  intro X hXl hXD hXK C hR hQ hnm
  subst hXl; subst hXD; subst hXK
  refine g_lv (l2 := [(0, .ref h0)]) [0] rfl ?_
  refine g_aload_n (z := 1) C dJxc12de_init_da8c8_0 0 rfl rfl rfl ?_
  refine g_callI (n := 0) (As := []) (rest := []) (wr := [(h0, .inr (18, [.int 0, .null, .int 0]))]) (a2 := 0) (b2 := 0) (z := 4) C hR (k_acoll (gl X) (gD X) (gK X) h0) dJxc12de_init_da8c8_1 w_765 w_760 rfl w_758 w_759 ⟨by decide +kernel, by decide +kernel, by decide +kernel⟩ [] [0] rfl rfl rfl rfl rfl (by decide) ⟨(Nat.le_of_ble_eq_true rfl), (Nat.le_of_ble_eq_true rfl)⟩ rfl rfl (Nat.le_of_ble_eq_true rfl) (Nat.le_of_ble_eq_true rfl) (Nat.le_of_ble_eq_true rfl) rfl rfl rfl rfl (fun v ws' hp => ?_)
  obtain ⟨rfl, rfl⟩ := hp
  refine g_ws (w2 := [(h0, .inr (18, [.int 0, .null, .int 0]))]) rfl ?_
  refine g_st (s2 := []) rfl ?_
  refine g_aload_n (z := 5) C dJxc12de_init_da8c8_4 0 rfl rfl rfl ?_
  refine g_iconst (v := 0) (z := 6) C dJxc12de_init_da8c8_5 (by decide) rfl ?_
  refine g_put (w2 := [(h0, .inr (18, [.int 0, .null, .int 0]))]) (z := 9) C kJx4a65c dJxc12de_init_da8c8_6 0 rfl 0 (by decide) w_766 rfl rfl rfl rfl (Nat.le_of_ble_eq_true rfl) rfl rfl ?_
  exact g_vret C hQ dJxc12de_init_da8c8_9 (Nat.le_of_ble_eq_true rfl) (Nat.le_of_ble_eq_true rfl) ⟨rfl, rfl⟩
set_option maxHeartbeats 4000000 in
set_option maxRecDepth 100000 in
/-- ArrayList() -/
theorem k_list (l : Launch) (D : va_G) (K : KS) (h0 : Nat) : Con l D K yJx4a65c_init_da8c8 cJx4a65c_init_da8c8 1 none 3 52 0 0 [.ref h0] [(h0, .inr (18, [.int 0, .null, .int 0]))] (fun v w => v = none ∧ w = [(h0, .inr (18, [.int 0, .ref (K 12), .int 0]))]) := by
  refine Con.of (by decide +kernel) (Nat.le_of_ble_eq_true rfl) ?_
  intro X hXl hXD hXK C hR hQ hnm
  subst hXl; subst hXD; subst hXK
  refine g_lv (l2 := [(0, .ref h0)]) [0] rfl ?_
  refine g_aload_n (z := 1) C dJx4a65c_init_da8c8_0 0 rfl rfl rfl ?_
  refine g_callI (n := 0) (As := []) (rest := []) (wr := []) (a2 := 0) (b2 := 0) (z := 4) C hR (k_alist (gl X) (gD X) (gK X) h0) dJx4a65c_init_da8c8_1 w_769 w_764 rfl w_762 w_763 ⟨by decide +kernel, by decide +kernel, by decide +kernel⟩ [0] [] rfl rfl rfl rfl rfl (by decide) ⟨(Nat.le_of_ble_eq_true rfl), (Nat.le_of_ble_eq_true rfl)⟩ rfl rfl (Nat.le_of_ble_eq_true rfl) (Nat.le_of_ble_eq_true rfl) (Nat.le_of_ble_eq_true rfl) rfl rfl rfl rfl (fun v ws' hp => ?_)
  obtain ⟨rfl, rfl⟩ := hp
  refine g_ws (w2 := [(h0, .inr (18, [.int 0, .null, .int 0]))]) rfl ?_
  refine g_st (s2 := []) rfl ?_
  refine g_aload_n (z := 5) C dJx4a65c_init_da8c8_4 0 rfl rfl rfl ?_
  refine g_gets (z := 8) C dJx4a65c_init_da8c8_5 (evD C) w_770 rfl ?_
  refine g_put (w2 := [(h0, .inr (18, [.int 0, .ref (gK X 12), .int 0]))]) (z := 11) C kJx4a65c dJx4a65c_init_da8c8_8 0 rfl 1 (by decide) w_771 rfl rfl rfl rfl (Nat.le_of_ble_eq_true rfl) rfl rfl ?_
  exact g_vret C hQ dJx4a65c_init_da8c8_11 (Nat.le_of_ble_eq_true rfl) (Nat.le_of_ble_eq_true rfl) ⟨rfl, rfl⟩
set_option maxHeartbeats 4000000 in
set_option maxRecDepth 100000 in
/-- size() of an empty list -/
theorem k_size0 (l : Launch) (D : va_G) (K : KS) (h0 : Nat) : Con l D K yJx4a65c_size_8abf5 cJx4a65c_size_8abf5 1 (some .int) 0 0 0 0 [.ref h0] [(h0, .inr (18, [.int 0, .ref (K 12), .int 0]))] (fun v w => v = some (.int 0) ∧ w = [(h0, .inr (18, [.int 0, .ref (K 12), .int 0]))]) := by
  refine Con.of (by decide +kernel) (Nat.le_of_ble_eq_true rfl) ?_
  intro X hXl hXD hXK C hR hQ hnm
  subst hXl; subst hXD; subst hXK
  refine g_lv (l2 := [(0, .ref h0)]) [0] rfl ?_
  refine g_aload_n (z := 1) C dJx4a65c_size_8abf5_0 0 rfl rfl rfl ?_
  refine g_get (z := 4) C kJx4a65c dJx4a65c_size_8abf5_1 0 rfl 2 (by decide) w_775 rfl rfl rfl ?_
  exact g_iret C hQ dJx4a65c_size_8abf5_4 rfl (Nat.le_of_ble_eq_true rfl) (Nat.le_of_ble_eq_true rfl) ⟨rfl, rfl⟩
set_option maxHeartbeats 4000000 in
set_option maxRecDepth 100000 in
/-- AbstractStringBuilder(64) -/
theorem k_asb (l : Launch) (D : va_G) (K : KS) (h0 : Nat) : Con l D K yJ5_init_d00df cJ5_init_d00df 2 none 1 12 1 64 [.ref h0, .int 64] [(h0, .inr (16, [.null, .int 0, .int 0, .int 0]))] (fun v w => v = none ∧ ∃ q1 : Nat, w = [(h0, .inr (16, [.ref q1, .int 0, .int 0, .int 0])), (q1, .inl (K 2, 64, .inl (fun _ => 0)))]) := by
  refine Con.of (by decide +kernel) (Nat.le_of_ble_eq_true rfl) ?_
  intro X hXl hXD hXK C hR hQ hnm
  subst hXl; subst hXD; subst hXK
  refine g_lv (l2 := [(0, .ref h0), (1, .int 64)]) [0, 1] rfl ?_
  refine g_aload_n (z := 1) C dJ5_init_d00df_0 0 rfl rfl rfl ?_
  refine g_objInit (z := 4) C hR dJ5_init_d00df_1 w_673 w_0 w_1 (Nat.le_of_ble_eq_true rfl) (Nat.le_of_ble_eq_true rfl) rfl ?_
  refine g_gets (z := 7) C dJ5_init_d00df_4 (evC C) w_674 rfl ?_
  refine g_if_eq_f (z := 10) 25 C dJ5_init_d00df_7 (by decide) (by decide) rfl ?_
  refine g_aload_n (z := 11) C dJ5_init_d00df_10 0 rfl rfl rfl ?_
  refine g_iload_n (z := 12) C dJ5_init_d00df_11 1 rfl rfl rfl ?_
  refine g_newB (N := 64) (a2 := 1) (b2 := 64) (z := 14) C hR dJ5_init_d00df_12 w_6 (by decide) (by decide) (Nat.le_of_ble_eq_true rfl) rfl rfl (Nat.le_of_ble_eq_true rfl) (Nat.le_of_ble_eq_true rfl) rfl (fun q1 => ?_)
  refine g_ws (w2 := [(h0, .inr (16, [.null, .int 0, .int 0, .int 0])), (q1, .inl (gK X 2, 64, .inl (fun _ => 0)))]) rfl ?_
  refine g_put (w2 := [(h0, .inr (16, [.ref q1, .int 0, .int 0, .int 0])), (q1, .inl (gK X 2, 64, .inl (fun _ => 0)))]) (z := 17) C kJ4 dJ5_init_d00df_14 0 rfl 0 (by decide) w_675 rfl rfl rfl rfl (Nat.le_of_ble_eq_true rfl) rfl rfl ?_
  refine g_aload_n (z := 18) C dJ5_init_d00df_17 0 rfl rfl rfl ?_
  refine g_iconst (v := 0) (z := 19) C dJ5_init_d00df_18 (by decide) rfl ?_
  refine g_put (w2 := [(h0, .inr (16, [.ref q1, .int 0, .int 0, .int 0])), (q1, .inl (gK X 2, 64, .inl (fun _ => 0)))]) (z := 22) C kJ4 dJ5_init_d00df_19 0 rfl 1 (by decide) w_676 rfl rfl rfl rfl (Nat.le_of_ble_eq_true rfl) rfl rfl ?_
  refine g_goto (z := 38) C dJ5_init_d00df_22 (by decide) ?_
  exact g_vret C hQ dJ5_init_d00df_38 (Nat.le_of_ble_eq_true rfl) (Nat.le_of_ble_eq_true rfl) ⟨rfl, q1, rfl⟩
set_option maxHeartbeats 4000000 in
set_option maxRecDepth 100000 in
/-- StringBuilder(64) -/
theorem k_sb (l : Launch) (D : va_G) (K : KS) (h0 : Nat) : Con l D K yJ4_init_d00df cJ4_init_d00df 2 none 2 33 1 64 [.ref h0, .int 64] [(h0, .inr (16, [.null, .int 0, .int 0, .int 0]))] (fun v w => v = none ∧ ∃ q1 : Nat, w = [(h0, .inr (16, [.ref q1, .int 0, .int 0, .int 0])), (q1, .inl (K 2, 64, .inl (fun _ => 0)))]) := by
  refine Con.of (by decide +kernel) (Nat.le_of_ble_eq_true rfl) ?_
  intro X hXl hXD hXK C hR hQ hnm
  subst hXl; subst hXD; subst hXK
  refine g_lv (l2 := [(0, .ref h0), (1, .int 64)]) [0, 1] rfl ?_
  refine g_aload_n (z := 1) C dJ4_init_d00df_0 0 rfl rfl rfl ?_
  refine g_iload_n (z := 2) C dJ4_init_d00df_1 1 rfl rfl rfl ?_
  refine g_callI (n := 1) (As := [.int 64]) (rest := []) (wr := []) (a2 := 1) (b2 := 64) (z := 5) C hR (k_asb (gl X) (gD X) (gK X) h0) dJ4_init_d00df_2 w_693 w_672 rfl w_670 w_671 ⟨by decide +kernel, by decide +kernel, by decide +kernel⟩ [0] [] rfl rfl rfl rfl rfl (by decide) ⟨(Nat.le_of_ble_eq_true rfl), (Nat.le_of_ble_eq_true rfl)⟩ rfl rfl (Nat.le_of_ble_eq_true rfl) (Nat.le_of_ble_eq_true rfl) (Nat.le_of_ble_eq_true rfl) rfl rfl rfl rfl (fun v ws' hp => ?_)
  obtain ⟨rfl, q1, rfl⟩ := hp
  refine g_ws (w2 := [(h0, .inr (16, [.ref q1, .int 0, .int 0, .int 0])), (q1, .inl (gK X 2, 64, .inl (fun _ => 0)))]) rfl ?_
  refine g_st (s2 := []) rfl ?_
  exact g_vret C hQ dJ4_init_d00df_5 (Nat.le_of_ble_eq_true rfl) (Nat.le_of_ble_eq_true rfl) ⟨rfl, q1, rfl⟩
set_option maxHeartbeats 4000000 in
set_option maxRecDepth 100000 in
/-- ensureCapacityInternal(0) -/
theorem k_ensure (l : Launch) (D : va_G) (K : KS) (h0 q1 : Nat) : Con l D K yJ5_ensureCapacityInternal_d00df cJ5_ensureCapacityInternal_d00df 3 none 0 0 0 0 [.ref h0, .int 0] [(h0, .inr (16, [.ref q1, .int 0, .int 0, .int 0])), (q1, .inl (K 2, 64, .inl (fun _ => 0)))] (fun v w => v = none ∧ w = [(h0, .inr (16, [.ref q1, .int 0, .int 0, .int 0])), (q1, .inl (K 2, 64, .inl (fun _ => 0)))]) := by
  refine Con.of (by decide +kernel) (Nat.le_of_ble_eq_true rfl) ?_
  intro X hXl hXD hXK C hR hQ hnm
  subst hXl; subst hXD; subst hXK
  refine g_lv (l2 := [(0, .ref h0), (1, .int 0)]) [0, 1] rfl ?_
  refine g_aload_n (z := 1) C dJ5_ensureCapacityInternal_d00df_0 0 rfl rfl rfl ?_
  refine g_get (z := 4) C kJ4 dJ5_ensureCapacityInternal_d00df_1 0 rfl 0 (by decide) w_675 rfl rfl rfl ?_
  refine g_alen (v := 64) (z := 5) C dJ5_ensureCapacityInternal_d00df_4 1 rfl 2 rfl (by decide) rfl ?_
  refine g_aload_n (z := 6) C dJ5_ensureCapacityInternal_d00df_5 0 rfl rfl rfl ?_
  refine g_get (z := 9) C kJ4 dJ5_ensureCapacityInternal_d00df_6 0 rfl 1 (by decide) w_676 rfl rfl rfl ?_
  refine g_ishr (v := 64) (z := 10) C dJ5_ensureCapacityInternal_d00df_9 (by decide) rfl ?_
  refine g_istore_n (l2 := [(2, .int 64), (0, .ref h0), (1, .int 0)]) (z := 11) C dJ5_ensureCapacityInternal_d00df_10 rfl (by decide) rfl rfl ?_
  refine g_iload_n (z := 12) C dJ5_ensureCapacityInternal_d00df_11 2 rfl rfl rfl ?_
  refine g_iload_n (z := 13) C dJ5_ensureCapacityInternal_d00df_12 0 rfl rfl rfl ?_
  refine g_isub (v := (-64)) (z := 14) C dJ5_ensureCapacityInternal_d00df_13 (by decide) rfl ?_
  refine g_if_le_t (z := 38) C dJ5_ensureCapacityInternal_d00df_14 (by decide) (by decide) ?_
  exact g_vret C hQ dJ5_ensureCapacityInternal_d00df_38 (Nat.le_of_ble_eq_true rfl) (Nat.le_of_ble_eq_true rfl) ⟨rfl, rfl⟩
set_option maxHeartbeats 4000000 in
set_option maxRecDepth 100000 in
/-- AbstractStringBuilder.setLength(0) -/
theorem k_asetLength (l : Launch) (D : va_G) (K : KS) (h0 q1 : Nat) : Con l D K yJ5_setLength_d00df cJ5_setLength_d00df 2 none 1 22 0 0 [.ref h0, .int 0] [(h0, .inr (16, [.ref q1, .int 0, .int 0, .int 0])), (q1, .inl (K 2, 64, .inl (fun _ => 0)))] (fun v w => v = none ∧ w = [(h0, .inr (16, [.ref q1, .int 0, .int 0, .int 0])), (q1, .inl (K 2, 64, .inl (fun _ => 0)))]) := by
  refine Con.of (by decide +kernel) (Nat.le_of_ble_eq_true rfl) ?_
  intro X hXl hXD hXK C hR hQ hnm
  subst hXl; subst hXD; subst hXK
  refine g_lv (l2 := [(0, .ref h0), (1, .int 0)]) [0, 1] rfl ?_
  refine g_iload_n (z := 1) C dJ5_setLength_d00df_0 1 rfl rfl rfl ?_
  refine g_if_ge_t (z := 13) C dJ5_setLength_d00df_1 (by decide) (by decide) ?_
  refine g_aload_n (z := 14) C dJ5_setLength_d00df_13 0 rfl rfl rfl ?_
  refine g_iload_n (z := 15) C dJ5_setLength_d00df_14 1 rfl rfl rfl ?_
  refine g_callV (n := 1) (As := [.int 0]) (rest := []) (wr := []) (a2 := 0) (b2 := 0) (z := 18) C hR (k_ensure (gl X) (gD X) (gK X) h0 q1) dJ5_setLength_d00df_15 w_684 w_681 w_x w_680 w_671 ⟨by decide +kernel, by decide +kernel, by decide +kernel⟩ [0, 1] [] rfl rfl rfl rfl rfl (by decide) ⟨(Nat.le_of_ble_eq_true rfl), (Nat.le_of_ble_eq_true rfl)⟩ rfl rfl (Nat.le_of_ble_eq_true rfl) (Nat.le_of_ble_eq_true rfl) (Nat.le_of_ble_eq_true rfl) rfl rfl 0 kJ4 rfl rfl rfl rfl (fun v ws' hp => ?_)
  obtain ⟨rfl, rfl⟩ := hp
  refine g_ws (w2 := [(h0, .inr (16, [.ref q1, .int 0, .int 0, .int 0])), (q1, .inl (gK X 2, 64, .inl (fun _ => 0)))]) rfl ?_
  refine g_st (s2 := []) rfl ?_
  refine g_aload_n (z := 19) C dJ5_setLength_d00df_18 0 rfl rfl rfl ?_
  refine g_get (z := 22) C kJ4 dJ5_setLength_d00df_19 0 rfl 3 (by decide) w_679 rfl rfl rfl ?_
  refine g_iload_n (z := 23) C dJ5_setLength_d00df_22 1 rfl rfl rfl ?_
  refine g_icmp_ge_t (z := 63) C dJ5_setLength_d00df_23 (by decide) (by decide) ?_
  refine g_aload_n (z := 64) C dJ5_setLength_d00df_63 0 rfl rfl rfl ?_
  refine g_get (z := 67) C kJ4 dJ5_setLength_d00df_64 0 rfl 3 (by decide) w_679 rfl rfl rfl ?_
  refine g_iload_n (z := 68) C dJ5_setLength_d00df_67 1 rfl rfl rfl ?_
  refine g_icmp_le_t (z := 76) C dJ5_setLength_d00df_68 (by decide) (by decide) ?_
  refine g_aload_n (z := 77) C dJ5_setLength_d00df_76 0 rfl rfl rfl ?_
  refine g_iload_n (z := 78) C dJ5_setLength_d00df_77 1 rfl rfl rfl ?_
  refine g_put (w2 := [(h0, .inr (16, [.ref q1, .int 0, .int 0, .int 0])), (q1, .inl (gK X 2, 64, .inl (fun _ => 0)))]) (z := 81) C kJ4 dJ5_setLength_d00df_78 0 rfl 3 (by decide) w_679 rfl rfl rfl rfl (Nat.le_of_ble_eq_true rfl) rfl rfl ?_
  exact g_vret C hQ dJ5_setLength_d00df_81 (Nat.le_of_ble_eq_true rfl) (Nat.le_of_ble_eq_true rfl) ⟨rfl, rfl⟩
set_option maxHeartbeats 4000000 in
set_option maxRecDepth 100000 in
/-- StringBuilder.setLength(0) -/
theorem k_setLength (l : Launch) (D : va_G) (K : KS) (h0 q1 : Nat) : Con l D K yJ4_setLength_d00df cJ4_setLength_d00df 2 none 2 43 0 0 [.ref h0, .int 0] [(h0, .inr (16, [.ref q1, .int 0, .int 0, .int 0])), (q1, .inl (K 2, 64, .inl (fun _ => 0)))] (fun v w => v = none ∧ w = [(h0, .inr (16, [.ref q1, .int 0, .int 0, .int 0])), (q1, .inl (K 2, 64, .inl (fun _ => 0)))]) := by
  refine Con.of (by decide +kernel) (Nat.le_of_ble_eq_true rfl) ?_
  intro X hXl hXD hXK C hR hQ hnm
  subst hXl; subst hXD; subst hXK
  refine g_lv (l2 := [(0, .ref h0), (1, .int 0)]) [0, 1] rfl ?_
  refine g_aload_n (z := 1) C dJ4_setLength_d00df_0 0 rfl rfl rfl ?_
  refine g_iload_n (z := 2) C dJ4_setLength_d00df_1 1 rfl rfl rfl ?_
  refine g_callSU (n := 1) (As := [.int 0]) (rest := []) (wr := []) (a2 := 0) (b2 := 0) (z := 5) C hR (k_asetLength (gl X) (gD X) (gK X) h0 q1) dJ4_setLength_d00df_2 w_702 w_825 w_818 w_683 (by decide +kernel) w_682 w_671 ⟨by decide +kernel, by decide +kernel, by decide +kernel⟩ [0, 1] [] rfl rfl rfl rfl rfl (by decide) ⟨(Nat.le_of_ble_eq_true rfl), (Nat.le_of_ble_eq_true rfl)⟩ rfl rfl (Nat.le_of_ble_eq_true rfl) (Nat.le_of_ble_eq_true rfl) (Nat.le_of_ble_eq_true rfl) rfl rfl 0 kJ4 rfl rfl rfl (fun v ws' hp => ?_)
  obtain ⟨rfl, rfl⟩ := hp
  refine g_ws (w2 := [(h0, .inr (16, [.ref q1, .int 0, .int 0, .int 0])), (q1, .inl (gK X 2, 64, .inl (fun _ => 0)))]) rfl ?_
  refine g_st (s2 := []) rfl ?_
  exact g_vret C hQ dJ4_setLength_d00df_5 (Nat.le_of_ble_eq_true rfl) (Nat.le_of_ble_eq_true rfl) ⟨rfl, rfl⟩
set_option maxHeartbeats 4000000 in
set_option maxRecDepth 100000 in
/-- AbstractStringBuilder.length() -/
theorem k_alength (l : Launch) (D : va_G) (K : KS) (h0 q1 : Nat) : Con l D K yJ5_length_8abf5 cJ5_length_8abf5 1 (some .int) 0 0 0 0 [.ref h0] [(h0, .inr (16, [.ref q1, .int 0, .int 0, .int 0])), (q1, .inl (K 2, 64, .inl (fun _ => 0)))] (fun v w => v = some (.int 0) ∧ w = [(h0, .inr (16, [.ref q1, .int 0, .int 0, .int 0])), (q1, .inl (K 2, 64, .inl (fun _ => 0)))]) := by
  refine Con.of (by decide +kernel) (Nat.le_of_ble_eq_true rfl) ?_
  intro X hXl hXD hXK C hR hQ hnm
  subst hXl; subst hXD; subst hXK
  refine g_lv (l2 := [(0, .ref h0)]) [0] rfl ?_
  refine g_aload_n (z := 1) C dJ5_length_8abf5_0 0 rfl rfl rfl ?_
  refine g_get (z := 4) C kJ4 dJ5_length_8abf5_1 0 rfl 3 (by decide) w_679 rfl rfl rfl ?_
  exact g_iret C hQ dJ5_length_8abf5_4 rfl (Nat.le_of_ble_eq_true rfl) (Nat.le_of_ble_eq_true rfl) ⟨rfl, rfl⟩
set_option maxHeartbeats 4000000 in
set_option maxRecDepth 100000 in
/-- StringBuilder.length() -/
theorem k_length (l : Launch) (D : va_G) (K : KS) (h0 q1 : Nat) : Con l D K yJ4_length_8abf5 cJ4_length_8abf5 1 (some .int) 1 20 0 0 [.ref h0] [(h0, .inr (16, [.ref q1, .int 0, .int 0, .int 0])), (q1, .inl (K 2, 64, .inl (fun _ => 0)))] (fun v w => v = some (.int 0) ∧ w = [(h0, .inr (16, [.ref q1, .int 0, .int 0, .int 0])), (q1, .inl (K 2, 64, .inl (fun _ => 0)))]) := by
  refine Con.of (by decide +kernel) (Nat.le_of_ble_eq_true rfl) ?_
  intro X hXl hXD hXK C hR hQ hnm
  subst hXl; subst hXD; subst hXK
  refine g_lv (l2 := [(0, .ref h0)]) [0] rfl ?_
  refine g_aload_n (z := 1) C dJ4_length_8abf5_0 0 rfl rfl rfl ?_
  refine g_callSU (n := 0) (As := []) (rest := []) (wr := []) (a2 := 0) (b2 := 0) (z := 4) C hR (k_alength (gl X) (gD X) (gK X) h0 q1) dJ4_length_8abf5_1 w_705 w_823 w_818 w_678 (by decide +kernel) w_677 w_671 ⟨by decide +kernel, by decide +kernel, by decide +kernel⟩ [0, 1] [] rfl rfl rfl rfl rfl (by decide) ⟨(Nat.le_of_ble_eq_true rfl), (Nat.le_of_ble_eq_true rfl)⟩ rfl rfl (Nat.le_of_ble_eq_true rfl) (Nat.le_of_ble_eq_true rfl) (Nat.le_of_ble_eq_true rfl) rfl rfl 0 kJ4 rfl rfl rfl (fun v ws' hp => ?_)
  obtain ⟨rfl, rfl⟩ := hp
  refine g_ws (w2 := [(h0, .inr (16, [.ref q1, .int 0, .int 0, .int 0])), (q1, .inl (gK X 2, 64, .inl (fun _ => 0)))]) rfl ?_
  refine g_st (s2 := [.int 0]) rfl ?_
  exact g_iret C hQ dJ4_length_8abf5_4 rfl (Nat.le_of_ble_eq_true rfl) (Nat.le_of_ble_eq_true rfl) ⟨rfl, rfl⟩
set_option maxHeartbeats 4000000 in
set_option maxRecDepth 100000 in
/-- getValue() -/
theorem k_getValue (l : Launch) (D : va_G) (K : KS) (h0 q1 : Nat) : Con l D K yJ5_getValue_6d5f1 cJ5_getValue_6d5f1 1 (some (.array .byte)) 0 0 0 0 [.ref h0] [(h0, .inr (16, [.ref q1, .int 0, .int 0, .int 0])), (q1, .inl (K 2, 64, .inl (fun _ => 0)))] (fun v w => v = some (.ref q1) ∧ w = [(h0, .inr (16, [.ref q1, .int 0, .int 0, .int 0])), (q1, .inl (K 2, 64, .inl (fun _ => 0)))]) := by
  refine Con.of (by decide +kernel) (Nat.le_of_ble_eq_true rfl) ?_
  intro X hXl hXD hXK C hR hQ hnm
  subst hXl; subst hXD; subst hXK
  refine g_lv (l2 := [(0, .ref h0)]) [0] rfl ?_
  refine g_aload_n (z := 1) C dJ5_getValue_6d5f1_0 0 rfl rfl rfl ?_
  refine g_get (z := 4) C kJ4 dJ5_getValue_6d5f1_1 0 rfl 0 (by decide) w_675 rfl rfl rfl ?_
  exact g_aret C hQ dJ5_getValue_6d5f1_4 (Or.inr ⟨_, rfl⟩) (Or.inr ⟨_, rfl⟩) (Nat.le_of_ble_eq_true rfl) (Nat.le_of_ble_eq_true rfl) ⟨rfl, rfl⟩
set_option maxHeartbeats 4000000 in
set_option maxRecDepth 100000 in
/-- isLatin1() -/
theorem k_isLatin1 (l : Launch) (D : va_G) (K : KS) (h0 q1 : Nat) : Con l D K yJ5_isLatin1_aae02 cJ5_isLatin1_aae02 1 (some .boolean) 0 0 0 0 [.ref h0] [(h0, .inr (16, [.ref q1, .int 0, .int 0, .int 0])), (q1, .inl (K 2, 64, .inl (fun _ => 0)))] (fun v w => v = some (.int 1) ∧ w = [(h0, .inr (16, [.ref q1, .int 0, .int 0, .int 0])), (q1, .inl (K 2, 64, .inl (fun _ => 0)))]) := by
  refine Con.of (by decide +kernel) (Nat.le_of_ble_eq_true rfl) ?_
  intro X hXl hXD hXK C hR hQ hnm
  subst hXl; subst hXD; subst hXK
  refine g_lv (l2 := [(0, .ref h0)]) [0] rfl ?_
  refine g_gets (z := 3) C dJ5_isLatin1_aae02_0 (evC C) w_674 rfl ?_
  refine g_if_eq_f (z := 6) 17 C dJ5_isLatin1_aae02_3 (by decide) (by decide) rfl ?_
  refine g_aload_n (z := 7) C dJ5_isLatin1_aae02_6 0 rfl rfl rfl ?_
  refine g_get (z := 10) C kJ4 dJ5_isLatin1_aae02_7 0 rfl 1 (by decide) w_676 rfl rfl rfl ?_
  refine g_if_ne_f (z := 13) 17 C dJ5_isLatin1_aae02_10 (by decide) (by decide) rfl ?_
  refine g_iconst (v := 1) (z := 14) C dJ5_isLatin1_aae02_13 (by decide) rfl ?_
  refine g_goto (z := 18) C dJ5_isLatin1_aae02_14 (by decide) ?_
  exact g_iret C hQ dJ5_isLatin1_aae02_18 rfl (Nat.le_of_ble_eq_true rfl) (Nat.le_of_ble_eq_true rfl) ⟨rfl, rfl⟩
set_option maxHeartbeats 4000000 in
set_option maxRecDepth 100000 in
/-- checkLength(0, 0) -/
theorem k_checkLength (l : Launch) (D : va_G) (K : KS)  : Con l D K yJ7_checkLength_df160 cJ7_checkLength_df160 2 none 0 0 0 0 [.int 0, .int 0] [] (fun v w => v = none ∧ w = []) := by
  refine Con.of (by decide +kernel) (Nat.le_of_ble_eq_true rfl) ?_
  intro X hXl hXD hXK C hR hQ hnm
  subst hXl; subst hXD; subst hXK
  refine g_lv (l2 := [(0, .int 0), (1, .int 0)]) [0, 1] rfl ?_
  refine g_iload_n (z := 1) C dJ7_checkLength_df160_0 1 rfl rfl rfl ?_
  refine g_iload_n (z := 2) C dJ7_checkLength_df160_1 0 rfl rfl rfl ?_
  refine g_icmp_ge_t (z := 37) C dJ7_checkLength_df160_2 (by decide) (by decide) ?_
  exact g_vret C hQ dJ7_checkLength_df160_37 (Nat.le_of_ble_eq_true rfl) (Nat.le_of_ble_eq_true rfl) ⟨rfl, rfl⟩
set_option maxHeartbeats 4000000 in
set_option maxRecDepth 100000 in
/-- copyOfRangeByte(bytes, 0, 0) -/
theorem k_copyRB (l : Launch) (D : va_G) (K : KS) (q1 : Nat) : Con l D K yJ7_copyOfRangeByte_39247 cJ7_copyOfRangeByte_39247 5 (some (.array .byte)) 1 60 1 0 [.ref q1, .int 0, .int 0] [(q1, .inl (K 2, 64, .inl (fun _ => 0)))] (fun v w => ∃ (q2 : Nat) (g : Nat → Int32), v = some (.ref q2) ∧ w = [(q1, .inl (K 2, 64, .inl (fun _ => 0))), (q2, .inl (K 2, 0, .inl (g)))]) := by
  refine Con.of (by decide +kernel) (Nat.le_of_ble_eq_true rfl) ?_
  intro X hXl hXD hXK C hR hQ hnm
  subst hXl; subst hXD; subst hXK
  refine g_lv (l2 := [(0, .ref q1), (1, .int 0), (2, .int 0)]) [0, 1, 2] rfl ?_
  refine g_iload_n (z := 1) C dJ7_copyOfRangeByte_39247_0 1 rfl rfl rfl ?_
  refine g_iload_n (z := 2) C dJ7_copyOfRangeByte_39247_1 2 rfl rfl rfl ?_
  refine g_callS (n := 2) (As := [.int 0, .int 0]) (rest := []) (wr := [(q1, .inl (gK X 2, 64, .inl (fun _ => 0)))]) (a2 := 0) (b2 := 0) (z := 5) C hR (k_checkLength (gl X) (gD X) (gK X)) dJ7_copyOfRangeByte_39247_2 w_753 w_757 w_756 w_747 ⟨by decide +kernel, by decide +kernel, by decide +kernel⟩ [] [0] rfl rfl rfl rfl rfl (by decide) ⟨(Nat.le_of_ble_eq_true rfl), (Nat.le_of_ble_eq_true rfl)⟩ rfl rfl (Nat.le_of_ble_eq_true rfl) (Nat.le_of_ble_eq_true rfl) (Nat.le_of_ble_eq_true rfl) rfl rfl rfl rfl (fun v ws' hp => ?_)
  obtain ⟨rfl, rfl⟩ := hp
  refine g_ws (w2 := [(q1, .inl (gK X 2, 64, .inl (fun _ => 0)))]) rfl ?_
  refine g_st (s2 := []) rfl ?_
  refine g_iload_n (z := 6) C dJ7_copyOfRangeByte_39247_5 2 rfl rfl rfl ?_
  refine g_iload_n (z := 7) C dJ7_copyOfRangeByte_39247_6 1 rfl rfl rfl ?_
  refine g_isub (v := 0) (z := 8) C dJ7_copyOfRangeByte_39247_7 (by decide) rfl ?_
  refine g_istore_n (l2 := [(3, .int 0), (0, .ref q1), (1, .int 0), (2, .int 0)]) (z := 9) C dJ7_copyOfRangeByte_39247_8 rfl (by decide) rfl rfl ?_
  refine g_iload_n (z := 10) C dJ7_copyOfRangeByte_39247_9 0 rfl rfl rfl ?_
  refine g_newB (N := 0) (a2 := 1) (b2 := 0) (z := 12) C hR dJ7_copyOfRangeByte_39247_10 w_6 (by decide) (by decide) (Nat.le_of_ble_eq_true rfl) rfl rfl (Nat.le_of_ble_eq_true rfl) (Nat.le_of_ble_eq_true rfl) rfl (fun q2 => ?_)
  refine g_ws (w2 := [(q1, .inl (gK X 2, 64, .inl (fun _ => 0))), (q2, .inl (gK X 2, 0, .inl (fun _ => 0)))]) rfl ?_
  refine g_astore (l2 := [(4, .ref q2), (3, .int 0), (0, .ref q1), (1, .int 0), (2, .int 0)]) (z := 14) C dJ7_copyOfRangeByte_39247_12 (by decide) rfl rfl ?_
  refine g_aload_n (z := 15) C dJ7_copyOfRangeByte_39247_14 2 rfl rfl rfl ?_
  refine g_iload_n (z := 16) C dJ7_copyOfRangeByte_39247_15 3 rfl rfl rfl ?_
  refine g_aload (z := 18) C dJ7_copyOfRangeByte_39247_16 0 rfl rfl ?_
  refine g_iconst (v := 0) (z := 19) C dJ7_copyOfRangeByte_39247_18 (by decide) rfl ?_
  refine g_aload_n (z := 20) C dJ7_copyOfRangeByte_39247_19 2 rfl rfl rfl ?_
  refine g_alen (v := 64) (z := 21) C dJ7_copyOfRangeByte_39247_20 0 rfl 2 rfl (by decide) rfl ?_
  refine g_iload_n (z := 22) C dJ7_copyOfRangeByte_39247_21 3 rfl rfl rfl ?_
  refine g_isub (v := 64) (z := 23) C dJ7_copyOfRangeByte_39247_22 (by decide) rfl ?_
  refine g_iload_n (z := 24) C dJ7_copyOfRangeByte_39247_23 1 rfl rfl rfl ?_
  refine g_min (v := 0) (z := 27) C hR dJ7_copyOfRangeByte_39247_24 w_754 w_212 w_214 w_213 (Nat.le_of_ble_eq_true rfl) (Nat.le_of_ble_eq_true rfl) (Nat.le_of_ble_eq_true rfl) (Nat.le_of_ble_eq_true rfl) (by decide) rfl ?_
  refine g_copyB (w2 := [(q1, .inl (gK X 2, 64, .inl (fun _ => 0))), (q2, .inl (gK X 2, 0, .inl (va_cpy (fun _ => 0) (fun _ => 0) (0 : Int32).toNatClampNeg (0 : Int32).toNatClampNeg (0 : Int32).toNatClampNeg)))]) (z := 30) C hR dJ7_copyOfRangeByte_39247_27 w_755 w_147 w_146 w_148 0 1 rfl rfl (by decide) (by decide) (by decide) (by decide) (by decide) (fun i hi => absurd hi (Nat.not_lt_zero i)) (Nat.le_of_ble_eq_true rfl) (by decide) rfl rfl ?_
  refine g_aload (z := 32) C dJ7_copyOfRangeByte_39247_30 0 rfl rfl ?_
  exact g_aret C hQ dJ7_copyOfRangeByte_39247_32 (Or.inr ⟨_, rfl⟩) (Or.inr ⟨_, rfl⟩) (Nat.le_of_ble_eq_true rfl) (Nat.le_of_ble_eq_true rfl) ⟨q2, _, rfl, rfl⟩
set_option maxHeartbeats 4000000 in
set_option maxRecDepth 100000 in
/-- copyOfRange(bytes, 0, 0) -/
theorem k_copyR (l : Launch) (D : va_G) (K : KS) (q1 : Nat) : Con l D K yJ7_copyOfRange_39247 cJ7_copyOfRange_39247 3 (some (.array .byte)) 2 84 1 0 [.ref q1, .int 0, .int 0] [(q1, .inl (K 2, 64, .inl (fun _ => 0)))] (fun v w => ∃ (q2 : Nat) (g : Nat → Int32), v = some (.ref q2) ∧ w = [(q1, .inl (K 2, 64, .inl (fun _ => 0))), (q2, .inl (K 2, 0, .inl (g)))]) := by
  refine Con.of (by decide +kernel) (Nat.le_of_ble_eq_true rfl) ?_
  intro X hXl hXD hXK C hR hQ hnm
  subst hXl; subst hXD; subst hXK
  refine g_lv (l2 := [(0, .ref q1), (1, .int 0), (2, .int 0)]) [0, 1, 2] rfl ?_
  refine g_iload_n (z := 1) C dJ7_copyOfRange_39247_0 1 rfl rfl rfl ?_
  refine g_if_ne_f (z := 4) 10 C dJ7_copyOfRange_39247_1 (by decide) (by decide) rfl ?_
  refine g_iload_n (z := 5) C dJ7_copyOfRange_39247_4 2 rfl rfl rfl ?_
  refine g_aload_n (z := 6) C dJ7_copyOfRange_39247_5 0 rfl rfl rfl ?_
  refine g_alen (v := 64) (z := 7) C dJ7_copyOfRange_39247_6 0 rfl 2 rfl (by decide) rfl ?_
  refine g_icmp_eq_f (z := 10) 17 C dJ7_copyOfRange_39247_7 (by decide) (by decide) rfl ?_
  refine g_aload_n (z := 11) C dJ7_copyOfRange_39247_10 0 rfl rfl rfl ?_
  refine g_iload_n (z := 12) C dJ7_copyOfRange_39247_11 1 rfl rfl rfl ?_
  refine g_iload_n (z := 13) C dJ7_copyOfRange_39247_12 2 rfl rfl rfl ?_
  refine g_callS (n := 3) (As := [.ref q1, .int 0, .int 0]) (rest := []) (wr := []) (a2 := 1) (b2 := 0) (z := 16) C hR (k_copyRB (gl X) (gD X) (gK X) q1) dJ7_copyOfRange_39247_13 w_749 w_752 w_751 w_747 ⟨by decide +kernel, by decide +kernel, by decide +kernel⟩ [0] [] rfl rfl rfl rfl rfl (by decide) ⟨(Nat.le_of_ble_eq_true rfl), (Nat.le_of_ble_eq_true rfl)⟩ rfl rfl (Nat.le_of_ble_eq_true rfl) (Nat.le_of_ble_eq_true rfl) (Nat.le_of_ble_eq_true rfl) rfl rfl rfl rfl (fun v ws' hp => ?_)
  obtain ⟨q2, g, rfl, rfl⟩ := hp
  refine g_ws (w2 := [(q1, .inl (gK X 2, 64, .inl (fun _ => 0))), (q2, .inl (gK X 2, 0, .inl (g)))]) rfl ?_
  refine g_st (s2 := [.ref q2]) rfl ?_
  exact g_aret C hQ dJ7_copyOfRange_39247_16 (Or.inr ⟨_, rfl⟩) (Or.inr ⟨_, rfl⟩) (Nat.le_of_ble_eq_true rfl) (Nat.le_of_ble_eq_true rfl) ⟨q2, g, rfl, rfl⟩
set_option maxHeartbeats 4000000 in
set_option maxRecDepth 100000 in
/-- String(builder, null) -/
theorem k_str2 (l : Launch) (D : va_G) (K : KS) (s0 h0 q1 : Nat) : Con l D K yJ0_init_db425 cJ0_init_db425 5 none 3 106 1 0 [.ref s0, .ref h0, .null] [(s0, .inr (17, [.null, .int 0, .int 0, .int 0])), (h0, .inr (16, [.ref q1, .int 0, .int 0, .int 0])), (q1, .inl (K 2, 64, .inl (fun _ => 0)))] (fun v w => v = none ∧ ∃ (q2 : Nat) (g : Nat → Int32), w = [(s0, .inr (17, [.ref q2, .int 0, .int 0, .int 0])), (h0, .inr (16, [.ref q1, .int 0, .int 0, .int 0])), (q1, .inl (K 2, 64, .inl (fun _ => 0))), (q2, .inl (K 2, 0, .inl (g)))]) := by
  refine Con.of (by decide +kernel) (Nat.le_of_ble_eq_true rfl) ?_
  intro X hXl hXD hXK C hR hQ hnm
  subst hXl; subst hXD; subst hXK
  refine g_lv (l2 := [(0, .ref s0), (1, .ref h0), (2, .null)]) [0, 1, 2] rfl ?_
  refine g_aload_n (z := 1) C dJ0_init_db425_0 0 rfl rfl rfl ?_
  refine g_objInit (z := 4) C hR dJ0_init_db425_1 w_711 w_0 w_1 (Nat.le_of_ble_eq_true rfl) (Nat.le_of_ble_eq_true rfl) rfl ?_
  refine g_aload_n (z := 5) C dJ0_init_db425_4 1 rfl rfl rfl ?_
  refine g_callV (n := 0) (As := []) (rest := []) (wr := [(s0, .inr (17, [.null, .int 0, .int 0, .int 0]))]) (a2 := 0) (b2 := 0) (z := 8) C hR (k_getValue (gl X) (gD X) (gK X) h0 q1) dJ0_init_db425_5 w_712 w_688 w_822 w_687 w_671 ⟨by decide +kernel, by decide +kernel, by decide +kernel⟩ [1, 2] [0] rfl rfl rfl rfl rfl (by decide) ⟨(Nat.le_of_ble_eq_true rfl), (Nat.le_of_ble_eq_true rfl)⟩ rfl rfl (Nat.le_of_ble_eq_true rfl) (Nat.le_of_ble_eq_true rfl) (Nat.le_of_ble_eq_true rfl) rfl rfl 1 kJ4 rfl rfl rfl rfl (fun v ws' hp => ?_)
  obtain ⟨rfl, rfl⟩ := hp
  refine g_ws (w2 := [(s0, .inr (17, [.null, .int 0, .int 0, .int 0])), (h0, .inr (16, [.ref q1, .int 0, .int 0, .int 0])), (q1, .inl (gK X 2, 64, .inl (fun _ => 0)))]) rfl ?_
  refine g_st (s2 := [.ref q1]) rfl ?_
  refine g_astore_n (l2 := [(3, .ref q1), (0, .ref s0), (1, .ref h0), (2, .null)]) (z := 9) C dJ0_init_db425_8 rfl (by decide) rfl rfl ?_
  refine g_aload_n (z := 10) C dJ0_init_db425_9 2 rfl rfl rfl ?_
  refine g_callO (n := 0) (As := []) (rest := []) (wr := [(s0, .inr (17, [.null, .int 0, .int 0, .int 0]))]) (a2 := 0) (b2 := 0) (z := 13) C hR (k_length (gl X) (gD X) (gK X) h0 q1) dJ0_init_db425_10 1 kJ4 rfl w_713 w_823 w_678 w_824 w_704 w_677 ⟨by decide +kernel, by decide +kernel, by decide +kernel⟩ w_703 w_396 ⟨by decide +kernel, by decide +kernel, by decide +kernel⟩ [1, 2] [0] rfl rfl rfl rfl rfl (by decide) ⟨(Nat.le_of_ble_eq_true rfl), (Nat.le_of_ble_eq_true rfl)⟩ rfl rfl (Nat.le_of_ble_eq_true rfl) (Nat.le_of_ble_eq_true rfl) (Nat.le_of_ble_eq_true rfl) rfl rfl  rfl rfl (fun v ws' hp => ?_)
  obtain ⟨rfl, rfl⟩ := hp
  refine g_ws (w2 := [(s0, .inr (17, [.null, .int 0, .int 0, .int 0])), (h0, .inr (16, [.ref q1, .int 0, .int 0, .int 0])), (q1, .inl (gK X 2, 64, .inl (fun _ => 0)))]) rfl ?_
  refine g_st (s2 := [.int 0]) rfl ?_
  refine g_istore (l2 := [(4, .int 0), (3, .ref q1), (0, .ref s0), (1, .ref h0), (2, .null)]) (z := 15) C dJ0_init_db425_13 (by decide) rfl rfl ?_
  refine g_aload_n (z := 16) C dJ0_init_db425_15 3 rfl rfl rfl ?_
  refine g_callV (n := 0) (As := []) (rest := []) (wr := [(s0, .inr (17, [.null, .int 0, .int 0, .int 0]))]) (a2 := 0) (b2 := 0) (z := 19) C hR (k_isLatin1 (gl X) (gD X) (gK X) h0 q1) dJ0_init_db425_16 w_714 w_690 w_820 w_689 w_671 ⟨by decide +kernel, by decide +kernel, by decide +kernel⟩ [1, 2] [0] rfl rfl rfl rfl rfl (by decide) ⟨(Nat.le_of_ble_eq_true rfl), (Nat.le_of_ble_eq_true rfl)⟩ rfl rfl (Nat.le_of_ble_eq_true rfl) (Nat.le_of_ble_eq_true rfl) (Nat.le_of_ble_eq_true rfl) rfl rfl 1 kJ4 rfl rfl rfl rfl (fun v ws' hp => ?_)
  obtain ⟨rfl, rfl⟩ := hp
  refine g_ws (w2 := [(s0, .inr (17, [.null, .int 0, .int 0, .int 0])), (h0, .inr (16, [.ref q1, .int 0, .int 0, .int 0])), (q1, .inl (gK X 2, 64, .inl (fun _ => 0)))]) rfl ?_
  refine g_st (s2 := [.int 1]) rfl ?_
  refine g_if_eq_f (z := 22) 41 C dJ0_init_db425_19 (by decide) (by decide) rfl ?_
  refine g_aload_n (z := 23) C dJ0_init_db425_22 2 rfl rfl rfl ?_
  refine g_iconst (v := 0) (z := 24) C dJ0_init_db425_23 (by decide) rfl ?_
  refine g_putF (w2 := [(s0, .inr (17, [.null, .int 0, .int 0, .int 0])), (h0, .inr (16, [.ref q1, .int 0, .int 0, .int 0])), (q1, .inl (gK X 2, 64, .inl (fun _ => 0)))]) (z := 27) C kJ0 dJ0_init_db425_24 0 rfl 1 (by decide) w_715 rfl rfl hnm rfl rfl rfl (Nat.le_of_ble_eq_true rfl) rfl rfl ?_
  refine g_aload_n (z := 28) C dJ0_init_db425_27 2 rfl rfl rfl ?_
  refine g_aload_n (z := 29) C dJ0_init_db425_28 1 rfl rfl rfl ?_
  refine g_iconst (v := 0) (z := 30) C dJ0_init_db425_29 (by decide) rfl ?_
  refine g_iload (z := 32) C dJ0_init_db425_30 0 rfl rfl ?_
  refine g_callS (n := 3) (As := [.ref q1, .int 0, .int 0]) (rest := [.ref s0]) (wr := [(s0, .inr (17, [.null, .int 0, .int 0, .int 0])), (h0, .inr (16, [.ref q1, .int 0, .int 0, .int 0]))]) (a2 := 1) (b2 := 0) (z := 35) C hR (k_copyR (gl X) (gD X) (gK X) q1) dJ0_init_db425_32 w_716 w_748 w_746 w_747 ⟨by decide +kernel, by decide +kernel, by decide +kernel⟩ [2] [0, 1] rfl rfl rfl rfl rfl (by decide) ⟨(Nat.le_of_ble_eq_true rfl), (Nat.le_of_ble_eq_true rfl)⟩ rfl rfl (Nat.le_of_ble_eq_true rfl) (Nat.le_of_ble_eq_true rfl) (Nat.le_of_ble_eq_true rfl) rfl rfl rfl rfl (fun v ws' hp => ?_)
  obtain ⟨q2, g, rfl, rfl⟩ := hp
  refine g_ws (w2 := [(s0, .inr (17, [.null, .int 0, .int 0, .int 0])), (h0, .inr (16, [.ref q1, .int 0, .int 0, .int 0])), (q1, .inl (gK X 2, 64, .inl (fun _ => 0))), (q2, .inl (gK X 2, 0, .inl (g)))]) rfl ?_
  refine g_st (s2 := [.ref q2, .ref s0]) rfl ?_
  refine g_putF (w2 := [(s0, .inr (17, [.ref q2, .int 0, .int 0, .int 0])), (h0, .inr (16, [.ref q1, .int 0, .int 0, .int 0])), (q1, .inl (gK X 2, 64, .inl (fun _ => 0))), (q2, .inl (gK X 2, 0, .inl (g)))]) (z := 38) C kJ0 dJ0_init_db425_35 0 rfl 0 (by decide) w_717 rfl rfl hnm rfl rfl rfl (Nat.le_of_ble_eq_true rfl) rfl rfl ?_
  refine g_goto (z := 97) C dJ0_init_db425_38 (by decide) ?_
  refine g_sub (w2 := [(s0, .inr (17, [.ref q2, .int 0, .int 0, .int 0])), (h0, .inr (16, [.ref q1, .int 0, .int 0, .int 0])), (q1, .inl (gK X 2, 64, .inl (fun _ => 0))), (q2, .inl (gK X 2, 0, .inl (g)))]) [0, 1, 2, 3] rfl rfl rfl ?_
  exact g_vret C hQ dJ0_init_db425_97 (Nat.le_of_ble_eq_true rfl) (Nat.le_of_ble_eq_true rfl) ⟨rfl, q2, g, rfl⟩
set_option maxHeartbeats 4000000 in
set_option maxRecDepth 100000 in
/-- String(builder) -/
theorem k_str1 (l : Launch) (D : va_G) (K : KS) (s0 h0 q1 : Nat) : Con l D K yJ0_init_81219 cJ0_init_81219 2 none 4 130 1 0 [.ref s0, .ref h0] [(s0, .inr (17, [.null, .int 0, .int 0, .int 0])), (h0, .inr (16, [.ref q1, .int 0, .int 0, .int 0])), (q1, .inl (K 2, 64, .inl (fun _ => 0)))] (fun v w => v = none ∧ ∃ (q2 : Nat) (g : Nat → Int32), w = [(s0, .inr (17, [.ref q2, .int 0, .int 0, .int 0])), (h0, .inr (16, [.ref q1, .int 0, .int 0, .int 0])), (q1, .inl (K 2, 64, .inl (fun _ => 0))), (q2, .inl (K 2, 0, .inl (g)))]) := by
  refine Con.of (by decide +kernel) (Nat.le_of_ble_eq_true rfl) ?_
  intro X hXl hXD hXK C hR hQ hnm
  subst hXl; subst hXD; subst hXK
  refine g_lv (l2 := [(0, .ref s0), (1, .ref h0)]) [0, 1] rfl ?_
  refine g_aload_n (z := 1) C dJ0_init_81219_0 0 rfl rfl rfl ?_
  refine g_aload_n (z := 2) C dJ0_init_81219_1 1 rfl rfl rfl ?_
  refine g_null (z := 3) C dJ0_init_81219_2 rfl ?_
  refine g_callI (n := 2) (As := [.ref h0, .null]) (rest := []) (wr := []) (a2 := 1) (b2 := 0) (z := 6) C hR (k_str2 (gl X) (gD X) (gK X) s0 h0 q1) dJ0_init_81219_3 w_708 w_710 rfl w_709 w_391 ⟨by decide +kernel, by decide +kernel, by decide +kernel⟩ [0, 1, 2] [] rfl rfl rfl rfl rfl (by decide) ⟨(Nat.le_of_ble_eq_true rfl), (Nat.le_of_ble_eq_true rfl)⟩ rfl rfl (Nat.le_of_ble_eq_true rfl) (Nat.le_of_ble_eq_true rfl) (Nat.le_of_ble_eq_true rfl) rfl rfl rfl rfl (fun v ws' hp => ?_)
  obtain ⟨rfl, q2, g, rfl⟩ := hp
  refine g_ws (w2 := [(s0, .inr (17, [.ref q2, .int 0, .int 0, .int 0])), (h0, .inr (16, [.ref q1, .int 0, .int 0, .int 0])), (q1, .inl (gK X 2, 64, .inl (fun _ => 0))), (q2, .inl (gK X 2, 0, .inl (g)))]) rfl ?_
  refine g_st (s2 := []) rfl ?_
  exact g_vret C hQ dJ0_init_81219_6 (Nat.le_of_ble_eq_true rfl) (Nat.le_of_ble_eq_true rfl) ⟨rfl, q2, g, rfl⟩
set_option maxHeartbeats 4000000 in
set_option maxRecDepth 100000 in
/-- toString(): a string of its own -/
theorem k_toString (l : Launch) (D : va_G) (K : KS) (h0 q1 : Nat) : Con l D K yJ4_toString_0e30d cJ4_toString_0e30d 1 (some (.object "java/lang/String")) 5 151 2 4 [.ref h0] [(h0, .inr (16, [.ref q1, .int 0, .int 0, .int 0])), (q1, .inl (K 2, 64, .inl (fun _ => 0)))] (fun v w => ∃ (q3 q2 : Nat), v = some (.ref q3) ∧ w = [(h0, .inr (16, [.ref q1, .int 0, .int 0, .int 0])), (q1, .inl (K 2, 64, .inl (fun _ => 0))), (q3, .inr (17, [.ref q2, .int 0, .int 0, .int 0]))]) := by
  refine Con.of (by decide +kernel) (Nat.le_of_ble_eq_true rfl) ?_
  intro X hXl hXD hXK C hR hQ hnm
  subst hXl; subst hXD; subst hXK
  refine g_lv (l2 := [(0, .ref h0)]) [0] rfl ?_
  refine g_new (fs := [.null, .int 0, .int 0, .int 0]) (a2 := 1) (b2 := 4) (z := 3) C hR kJ0 dJ4_toString_0e30d_0 w_697 w_390 w_391 rfl rfl rfl (Nat.le_of_ble_eq_true rfl) (Nat.le_of_ble_eq_true rfl) rfl (fun q3 => ?_)
  refine g_ws (w2 := [(h0, .inr (16, [.ref q1, .int 0, .int 0, .int 0])), (q1, .inl (gK X 2, 64, .inl (fun _ => 0))), (q3, .inr (17, [.null, .int 0, .int 0, .int 0]))]) rfl ?_
  refine g_dup (z := 4) C dJ4_toString_0e30d_3 rfl rfl ?_
  refine g_aload_n (z := 5) C dJ4_toString_0e30d_4 0 rfl rfl rfl ?_
  refine g_callI (n := 1) (As := [.ref h0]) (rest := [.ref q3]) (wr := []) (a2 := 2) (b2 := 4) (z := 8) C hR (k_str1 (gl X) (gD X) (gK X) q3 h0 q1) dJ4_toString_0e30d_5 w_698 w_707 rfl w_706 w_391 ⟨by decide +kernel, by decide +kernel, by decide +kernel⟩ [2, 0, 1] [] rfl rfl rfl rfl rfl (by decide) ⟨(Nat.le_of_ble_eq_true rfl), (Nat.le_of_ble_eq_true rfl)⟩ rfl rfl (Nat.le_of_ble_eq_true rfl) (Nat.le_of_ble_eq_true rfl) (Nat.le_of_ble_eq_true rfl) rfl rfl rfl rfl (fun v ws' hp => ?_)
  obtain ⟨rfl, q2, g, rfl⟩ := hp
  refine g_ws (w2 := [(q3, .inr (17, [.ref q2, .int 0, .int 0, .int 0])), (h0, .inr (16, [.ref q1, .int 0, .int 0, .int 0])), (q1, .inl (gK X 2, 64, .inl (fun _ => 0))), (q2, .inl (gK X 2, 0, .inl (g)))]) rfl ?_
  refine g_st (s2 := [.ref q3]) rfl ?_
  refine g_sub (w2 := [(h0, .inr (16, [.ref q1, .int 0, .int 0, .int 0])), (q1, .inl (gK X 2, 64, .inl (fun _ => 0))), (q3, .inr (17, [.ref q2, .int 0, .int 0, .int 0]))]) [1, 2, 0] rfl rfl rfl ?_
  exact g_aret C hQ dJ4_toString_0e30d_8 (Or.inl ⟨_, rfl⟩) (Or.inr ⟨_, rfl⟩) (Nat.le_of_ble_eq_true rfl) (Nat.le_of_ble_eq_true rfl) ⟨q3, q2, rfl, rfl⟩

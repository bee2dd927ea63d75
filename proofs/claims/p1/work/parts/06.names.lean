theorem dX6_alike_0 : decode cX6_alike 0 = .ok (.iconst 0, 1) := by decide +kernel
theorem dX6_alike_1 : decode cX6_alike 1 = .ok (.istore 4, 2) := by decide +kernel
theorem dX6_alike_3 : decode cX6_alike 3 = .ok (.iload 4, 2) := by decide +kernel
theorem dX6_alike_5 : decode cX6_alike 5 = .ok (.iload_n 3, 1) := by decide +kernel
theorem dX6_alike_6 : decode cX6_alike 6 = .ok (.if_icmp .ge 32, 3) := by decide +kernel
theorem dX6_alike_9 : decode cX6_alike 9 = .ok (.aload_n 0, 1) := by decide +kernel
theorem dX6_alike_10 : decode cX6_alike 10 = .ok (.getfield 17, 3) := by decide +kernel
theorem dX6_alike_13 : decode cX6_alike 13 = .ok (.iload_n 1, 1) := by decide +kernel
theorem dX6_alike_14 : decode cX6_alike 14 = .ok (.iload 4, 2) := by decide +kernel
theorem dX6_alike_16 : decode cX6_alike 16 = .ok (.iadd, 1) := by decide +kernel
theorem dX6_alike_17 : decode cX6_alike 17 = .ok (.baload, 1) := by decide +kernel
theorem dX6_alike_18 : decode cX6_alike 18 = .ok (.aload_n 0, 1) := by decide +kernel
theorem dX6_alike_19 : decode cX6_alike 19 = .ok (.getfield 17, 3) := by decide +kernel
theorem dX6_alike_22 : decode cX6_alike 22 = .ok (.iload_n 2, 1) := by decide +kernel
theorem dX6_alike_23 : decode cX6_alike 23 = .ok (.iload 4, 2) := by decide +kernel
theorem dX6_alike_25 : decode cX6_alike 25 = .ok (.iadd, 1) := by decide +kernel
theorem dX6_alike_26 : decode cX6_alike 26 = .ok (.baload, 1) := by decide +kernel
theorem dX6_alike_27 : decode cX6_alike 27 = .ok (.if_icmp .eq 5, 3) := by decide +kernel
theorem dX6_alike_30 : decode cX6_alike 30 = .ok (.iconst 0, 1) := by decide +kernel
theorem dX6_alike_31 : decode cX6_alike 31 = .ok (.ireturn, 1) := by decide +kernel
theorem dX6_alike_32 : decode cX6_alike 32 = .ok (.iinc 4 1, 3) := by decide +kernel
theorem dX6_alike_35 : decode cX6_alike 35 = .ok (.goto (-32), 3) := by decide +kernel
theorem dX6_alike_38 : decode cX6_alike 38 = .ok (.iconst 1, 1) := by decide +kernel
theorem dX6_alike_39 : decode cX6_alike 39 = .ok (.ireturn, 1) := by decide +kernel
theorem dX6_nameOf_0 : decode cX6_nameOf 0 = .ok (.iconst 0, 1) := by decide +kernel
theorem dX6_nameOf_1 : decode cX6_nameOf 1 = .ok (.istore_n 3, 1) := by decide +kernel
theorem dX6_nameOf_2 : decode cX6_nameOf 2 = .ok (.iconst 0, 1) := by decide +kernel
theorem dX6_nameOf_3 : decode cX6_nameOf 3 = .ok (.istore 4, 2) := by decide +kernel
theorem dX6_nameOf_5 : decode cX6_nameOf 5 = .ok (.iload 4, 2) := by decide +kernel
theorem dX6_nameOf_7 : decode cX6_nameOf 7 = .ok (.iload_n 2, 1) := by decide +kernel
theorem dX6_nameOf_8 : decode cX6_nameOf 8 = .ok (.if_icmp .ge 24, 3) := by decide +kernel
theorem dX6_nameOf_11 : decode cX6_nameOf 11 = .ok (.iload_n 3, 1) := by decide +kernel
theorem dX6_nameOf_12 : decode cX6_nameOf 12 = .ok (.bipush 31, 2) := by decide +kernel
theorem dX6_nameOf_14 : decode cX6_nameOf 14 = .ok (.imul, 1) := by decide +kernel
theorem dX6_nameOf_15 : decode cX6_nameOf 15 = .ok (.aload_n 0, 1) := by decide +kernel
theorem dX6_nameOf_16 : decode cX6_nameOf 16 = .ok (.getfield 17, 3) := by decide +kernel
theorem dX6_nameOf_19 : decode cX6_nameOf 19 = .ok (.iload_n 1, 1) := by decide +kernel
theorem dX6_nameOf_20 : decode cX6_nameOf 20 = .ok (.iload 4, 2) := by decide +kernel
theorem dX6_nameOf_22 : decode cX6_nameOf 22 = .ok (.iadd, 1) := by decide +kernel
theorem dX6_nameOf_23 : decode cX6_nameOf 23 = .ok (.baload, 1) := by decide +kernel
theorem dX6_nameOf_24 : decode cX6_nameOf 24 = .ok (.iadd, 1) := by decide +kernel
theorem dX6_nameOf_25 : decode cX6_nameOf 25 = .ok (.istore_n 3, 1) := by decide +kernel
theorem dX6_nameOf_26 : decode cX6_nameOf 26 = .ok (.iinc 4 1, 3) := by decide +kernel
theorem dX6_nameOf_29 : decode cX6_nameOf 29 = .ok (.goto (-24), 3) := by decide +kernel
theorem dX6_nameOf_32 : decode cX6_nameOf 32 = .ok (.iload_n 3, 1) := by decide +kernel
theorem dX6_nameOf_33 : decode cX6_nameOf 33 = .ok (.sipush 255, 3) := by decide +kernel
theorem dX6_nameOf_36 : decode cX6_nameOf 36 = .ok (.iand, 1) := by decide +kernel
theorem dX6_nameOf_37 : decode cX6_nameOf 37 = .ok (.istore 4, 2) := by decide +kernel
theorem dX6_nameOf_39 : decode cX6_nameOf 39 = .ok (.aload_n 0, 1) := by decide +kernel
theorem dX6_nameOf_40 : decode cX6_nameOf 40 = .ok (.getfield 33, 3) := by decide +kernel
theorem dX6_nameOf_43 : decode cX6_nameOf 43 = .ok (.iload 4, 2) := by decide +kernel
theorem dX6_nameOf_45 : decode cX6_nameOf 45 = .ok (.iaload, 1) := by decide +kernel
theorem dX6_nameOf_46 : decode cX6_nameOf 46 = .ok (.istore 5, 2) := by decide +kernel
theorem dX6_nameOf_48 : decode cX6_nameOf 48 = .ok (.iload 5, 2) := by decide +kernel
theorem dX6_nameOf_50 : decode cX6_nameOf 50 = .ok (.ifCond .lt 45, 3) := by decide +kernel
theorem dX6_nameOf_53 : decode cX6_nameOf 53 = .ok (.aload_n 0, 1) := by decide +kernel
theorem dX6_nameOf_54 : decode cX6_nameOf 54 = .ok (.getfield 27, 3) := by decide +kernel
theorem dX6_nameOf_57 : decode cX6_nameOf 57 = .ok (.iload 5, 2) := by decide +kernel
theorem dX6_nameOf_59 : decode cX6_nameOf 59 = .ok (.iaload, 1) := by decide +kernel
theorem dX6_nameOf_60 : decode cX6_nameOf 60 = .ok (.iload_n 2, 1) := by decide +kernel
theorem dX6_nameOf_61 : decode cX6_nameOf 61 = .ok (.if_icmp .ne 22, 3) := by decide +kernel
theorem dX6_nameOf_64 : decode cX6_nameOf 64 = .ok (.aload_n 0, 1) := by decide +kernel
theorem dX6_nameOf_65 : decode cX6_nameOf 65 = .ok (.aload_n 0, 1) := by decide +kernel
theorem dX6_nameOf_66 : decode cX6_nameOf 66 = .ok (.getfield 23, 3) := by decide +kernel
theorem dX6_nameOf_69 : decode cX6_nameOf 69 = .ok (.iload 5, 2) := by decide +kernel
theorem dX6_nameOf_71 : decode cX6_nameOf 71 = .ok (.iaload, 1) := by decide +kernel
theorem dX6_nameOf_72 : decode cX6_nameOf 72 = .ok (.iload_n 1, 1) := by decide +kernel
theorem dX6_nameOf_73 : decode cX6_nameOf 73 = .ok (.iload_n 2, 1) := by decide +kernel
theorem dX6_nameOf_74 : decode cX6_nameOf 74 = .ok (.invokevirtual 125, 3) := by decide +kernel
theorem dX6_nameOf_77 : decode cX6_nameOf 77 = .ok (.ifCond .eq 6, 3) := by decide +kernel
theorem dX6_nameOf_80 : decode cX6_nameOf 80 = .ok (.iload 5, 2) := by decide +kernel
theorem dX6_nameOf_82 : decode cX6_nameOf 82 = .ok (.ireturn, 1) := by decide +kernel
theorem dX6_nameOf_83 : decode cX6_nameOf 83 = .ok (.aload_n 0, 1) := by decide +kernel
theorem dX6_nameOf_84 : decode cX6_nameOf 84 = .ok (.getfield 30, 3) := by decide +kernel
theorem dX6_nameOf_87 : decode cX6_nameOf 87 = .ok (.iload 5, 2) := by decide +kernel
theorem dX6_nameOf_89 : decode cX6_nameOf 89 = .ok (.iaload, 1) := by decide +kernel
theorem dX6_nameOf_90 : decode cX6_nameOf 90 = .ok (.istore 5, 2) := by decide +kernel
theorem dX6_nameOf_92 : decode cX6_nameOf 92 = .ok (.goto (-44), 3) := by decide +kernel
theorem dX6_nameOf_95 : decode cX6_nameOf 95 = .ok (.aload_n 0, 1) := by decide +kernel
theorem dX6_nameOf_96 : decode cX6_nameOf 96 = .ok (.getfield 119, 3) := by decide +kernel
theorem dX6_nameOf_99 : decode cX6_nameOf 99 = .ok (.sipush 1544, 3) := by decide +kernel
theorem dX6_nameOf_102 : decode cX6_nameOf 102 = .ok (.if_icmp .lt 5, 3) := by decide +kernel
theorem dX6_nameOf_107 : decode cX6_nameOf 107 = .ok (.aload_n 0, 1) := by decide +kernel
theorem dX6_nameOf_108 : decode cX6_nameOf 108 = .ok (.getfield 23, 3) := by decide +kernel
theorem dX6_nameOf_111 : decode cX6_nameOf 111 = .ok (.aload_n 0, 1) := by decide +kernel
theorem dX6_nameOf_112 : decode cX6_nameOf 112 = .ok (.getfield 119, 3) := by decide +kernel
theorem dX6_nameOf_115 : decode cX6_nameOf 115 = .ok (.iload_n 1, 1) := by decide +kernel
theorem dX6_nameOf_116 : decode cX6_nameOf 116 = .ok (.iastore, 1) := by decide +kernel
theorem dX6_nameOf_117 : decode cX6_nameOf 117 = .ok (.aload_n 0, 1) := by decide +kernel
theorem dX6_nameOf_118 : decode cX6_nameOf 118 = .ok (.getfield 27, 3) := by decide +kernel
theorem dX6_nameOf_121 : decode cX6_nameOf 121 = .ok (.aload_n 0, 1) := by decide +kernel
theorem dX6_nameOf_122 : decode cX6_nameOf 122 = .ok (.getfield 119, 3) := by decide +kernel
theorem dX6_nameOf_125 : decode cX6_nameOf 125 = .ok (.iload_n 2, 1) := by decide +kernel
theorem dX6_nameOf_126 : decode cX6_nameOf 126 = .ok (.iastore, 1) := by decide +kernel
theorem dX6_nameOf_127 : decode cX6_nameOf 127 = .ok (.aload_n 0, 1) := by decide +kernel
theorem dX6_nameOf_128 : decode cX6_nameOf 128 = .ok (.getfield 30, 3) := by decide +kernel
theorem dX6_nameOf_131 : decode cX6_nameOf 131 = .ok (.aload_n 0, 1) := by decide +kernel
theorem dX6_nameOf_132 : decode cX6_nameOf 132 = .ok (.getfield 119, 3) := by decide +kernel
theorem dX6_nameOf_135 : decode cX6_nameOf 135 = .ok (.aload_n 0, 1) := by decide +kernel
theorem dX6_nameOf_136 : decode cX6_nameOf 136 = .ok (.getfield 33, 3) := by decide +kernel
theorem dX6_nameOf_139 : decode cX6_nameOf 139 = .ok (.iload 4, 2) := by decide +kernel
theorem dX6_nameOf_141 : decode cX6_nameOf 141 = .ok (.iaload, 1) := by decide +kernel
theorem dX6_nameOf_142 : decode cX6_nameOf 142 = .ok (.iastore, 1) := by decide +kernel
theorem dX6_nameOf_143 : decode cX6_nameOf 143 = .ok (.aload_n 0, 1) := by decide +kernel
theorem dX6_nameOf_144 : decode cX6_nameOf 144 = .ok (.getfield 33, 3) := by decide +kernel
theorem dX6_nameOf_147 : decode cX6_nameOf 147 = .ok (.iload 4, 2) := by decide +kernel
theorem dX6_nameOf_149 : decode cX6_nameOf 149 = .ok (.aload_n 0, 1) := by decide +kernel
theorem dX6_nameOf_150 : decode cX6_nameOf 150 = .ok (.getfield 119, 3) := by decide +kernel
theorem dX6_nameOf_153 : decode cX6_nameOf 153 = .ok (.iastore, 1) := by decide +kernel
theorem dX6_nameOf_154 : decode cX6_nameOf 154 = .ok (.aload_n 0, 1) := by decide +kernel
theorem dX6_nameOf_155 : decode cX6_nameOf 155 = .ok (.dup, 1) := by decide +kernel
theorem dX6_nameOf_156 : decode cX6_nameOf 156 = .ok (.getfield 119, 3) := by decide +kernel
theorem dX6_nameOf_159 : decode cX6_nameOf 159 = .ok (.iconst 1, 1) := by decide +kernel
theorem dX6_nameOf_160 : decode cX6_nameOf 160 = .ok (.iadd, 1) := by decide +kernel
theorem dX6_nameOf_161 : decode cX6_nameOf 161 = .ok (.putfield 119, 3) := by decide +kernel
theorem dX6_nameOf_164 : decode cX6_nameOf 164 = .ok (.aload_n 0, 1) := by decide +kernel
theorem dX6_nameOf_165 : decode cX6_nameOf 165 = .ok (.getfield 119, 3) := by decide +kernel
theorem dX6_nameOf_168 : decode cX6_nameOf 168 = .ok (.iconst 1, 1) := by decide +kernel
theorem dX6_nameOf_169 : decode cX6_nameOf 169 = .ok (.isub, 1) := by decide +kernel
theorem dX6_nameOf_170 : decode cX6_nameOf 170 = .ok (.ireturn, 1) := by decide +kernel
/-- what the names are: each within the words, each chain runs down -/
def RI (n : Nat) (fS fL fN fH : Nat → Int32) : Prop := n ≤ 200 ∧ (∀ k, k < n → ∃ s l : Nat, fS k = nI s ∧ fL k = nI l ∧ s + l ≤ 157) ∧ (∀ k, k < n → fN k = -1 ∨ ∃ j : Nat, j < k ∧ fN k = nI j) ∧ (∀ k, k < 256 → fH k = -1 ∨ ∃ j : Nat, j < n ∧ fH k = nI j)
theorem RI.add {n s l h : Nat} {fS fL fN fH : Nat → Int32} (H : RI n fS fL fN fH) (hn : n < 200) (hs : s + l ≤ 157) (hh : h < 256) : RI (n + 1) (upd fS n (nI s)) (upd fL n (nI l)) (upd fN n (fH h)) (upd fH h (nI n)) := by
  obtain ⟨h1, h2, h3, h4⟩ := H
  refine ⟨by omega, fun k hk => ?_, fun k hk => ?_, fun k hk => ?_⟩
  · by_cases e : k = n
    · subst e
      exact ⟨s, l, by rw [pk_us], by rw [pk_us], hs⟩
    · obtain ⟨s', l', a, b, c⟩ := h2 k (by omega)
      exact ⟨s', l', by rw [pk_un e]; exact a, by rw [pk_un e]; exact b, c⟩
  · by_cases e : k = n
    · subst e
      rw [pk_us]
      exact h4 h hh
    · rw [pk_un e]
      exact h3 k (by omega)
  · by_cases e : k = h
    · subst e
      rw [pk_us]
      exact Or.inr ⟨n, by omega, rfl⟩
    · rw [pk_un e]
      rcases h4 k hk with a | ⟨j, hj, a⟩
      · exact Or.inl a
      · exact Or.inr ⟨j, by omega, a⟩
theorem m1_lt : (-1 : Int32) < 0 := by decide
theorem nar_z {r : Int32} (h : r = 0 ∨ r = 1) : narrow .boolean (.int r) = .int r := by rcases h with h | h <;> subst h <;> rfl
set_option maxHeartbeats 4000000 in
set_option maxRecDepth 100000 in
/-- alike: a byte for a byte -/
theorem k_alike (l : Launch) (D : va_G) (K : KS) (h0 h1 pP pS pL pN pH pK pO pV : Nat) (xat xend xtok xcur xkind xpos xopen xwrong : Int32) (xn : Int32) (f : Nat → Int32) (s t len : Nat) (hs : s + len ≤ 157) (ht : t + len ≤ 157) : Con l D K yX6_alike cX6_alike 5 (some .boolean) 0 0 0 0 [.ref h0, .int (nI s), .int (nI t), .int (nI len)] [(h0, .inr (2, [.ref h1, .ref pP, .ref pS, .ref pL, .ref pN, .ref pH, .int xn, .int xat, .int xend, .ref pK, .ref pO, .ref pV, .int xtok, .int xcur, .int xkind, .int xpos, .int xopen, .int xwrong])), (pP, .inl (K 2, 3157, .inl (f)))] (fun v w => (∃ r : Int32, (r = 0 ∨ r = 1) ∧ v = some (.int r)) ∧ w = [(h0, .inr (2, [.ref h1, .ref pP, .ref pS, .ref pL, .ref pN, .ref pH, .int xn, .int xat, .int xend, .ref pK, .ref pO, .ref pV, .int xtok, .int xcur, .int xkind, .int xpos, .int xopen, .int xwrong])), (pP, .inl (K 2, 3157, .inl (f)))]) := by
  refine Con.of (by decide +kernel) (Nat.le_of_ble_eq_true rfl) ?_
  intro X hXl hXD hXK C hR hQ hnm
  subst hXl; subst hXD; subst hXK
  refine g_lv (l2 := [(0, .ref h0), (1, .int (nI s)), (2, .int (nI t)), (3, .int (nI len))]) [0, 1, 2, 3] rfl ?_
  refine g_iconst (v := 0) (z := 1) C dX6_alike_0 (by decide) rfl ?_
  refine g_istore (l2 := [(4, .int 0), (0, .ref h0), (1, .int (nI s)), (2, .int (nI t)), (3, .int (nI len))]) (z := 3) C dX6_alike_1 (by decide) rfl rfl ?_
  refine g_lv (l2 := [(4, .int 0), (0, .ref h0), (1, .int (nI s)), (2, .int (nI t)), (3, .int (nI len))]) [0, 1, 2, 3, 4] rfl ?_
  have loop : ∀ (n i : Nat) (x : Int32), x = nI i → i ≤ len → len + 1 ≤ i + n → G X 0 0 [(h0, .inr (2, [.ref h1, .ref pP, .ref pS, .ref pL, .ref pN, .ref pH, .int xn, .int xat, .int xend, .ref pK, .ref pO, .ref pV, .int xtok, .int xcur, .int xkind, .int xpos, .int xopen, .int xwrong])), (pP, .inl (gK X 2, 3157, .inl (f)))] [(4, .int x), (0, .ref h0), (1, .int (nI s)), (2, .int (nI t)), (3, .int (nI len))] 3 [] := by
    intro n
    induction n with
    | zero => intro i x _ u1 u2; omega
    | succ n ih =>
      intro i x hx u1 u2
      subst hx
      refine g_iload (z := 5) C dX6_alike_3 0 rfl rfl ?_
      refine g_iload_n (z := 6) C dX6_alike_5 4 rfl rfl rfl ?_
      refine g_icmp_ge (z2 := 38) (z := 9) C dX6_alike_6 (by decide) rfl (fun hc => ?_) (fun hc => ?_)
      · refine g_iconst (v := 1) (z := 39) C dX6_alike_38 (by decide) rfl ?_
        exact g_iret C hQ dX6_alike_39 rfl (Nat.le_of_ble_eq_true rfl) (Nat.le_of_ble_eq_true rfl) ⟨⟨1, Or.inr rfl, rfl⟩, rfl⟩
      · have hi : i < len := by
          rcases Nat.lt_or_ge i len with q | q
          · exact q
          · exact absurd (nI_le q (by omega)) hc
        refine g_aload_n (z := 10) C dX6_alike_9 1 rfl rfl rfl ?_
        refine g_get (z := 13) C kX6 dX6_alike_10 0 rfl 1 (by decide) w_132 rfl rfl rfl ?_
        refine g_iload_n (z := 14) C dX6_alike_13 2 rfl rfl rfl ?_
        refine g_iload (z := 16) C dX6_alike_14 0 rfl rfl ?_
        refine g_iadd (v := nI (s + i)) (z := 17) C dX6_alike_16 (nI_add s i) rfl ?_
        refine g_bald (v := (f (s + i))) (z := 18) C dX6_alike_17 1 rfl (vp_in_nI (by omega) (by omega)) (by rw [nI_clamp (by omega)]) rfl ?_
        refine g_aload_n (z := 19) C dX6_alike_18 1 rfl rfl rfl ?_
        refine g_get (z := 22) C kX6 dX6_alike_19 0 rfl 1 (by decide) w_132 rfl rfl rfl ?_
        refine g_iload_n (z := 23) C dX6_alike_22 3 rfl rfl rfl ?_
        refine g_iload (z := 25) C dX6_alike_23 0 rfl rfl ?_
        refine g_iadd (v := nI (t + i)) (z := 26) C dX6_alike_25 (nI_add t i) rfl ?_
        refine g_bald (v := (f (t + i))) (z := 27) C dX6_alike_26 1 rfl (vp_in_nI (by omega) (by omega)) (by rw [nI_clamp (by omega)]) rfl ?_
        refine g_icmp_eq (z2 := 32) (z := 30) C dX6_alike_27 (by decide) rfl (fun hq => ?_) (fun hq => ?_)
        · refine g_iinc (v := ((nI i) + 1)) (l2 := [(4, .int ((nI i) + 1)), (0, .ref h0), (1, .int (nI s)), (2, .int (nI t)), (3, .int (nI len))]) (z := 35) C dX6_alike_32 0 rfl (by rfl) (by decide) rfl rfl ?_
          refine g_goto (z := 3) C dX6_alike_35 (by decide) ?_
          exact ih (i + 1) _ (nI_1 i) (by omega) (by omega)
        · refine g_iconst (v := 0) (z := 31) C dX6_alike_30 (by decide) rfl ?_
          exact g_iret C hQ dX6_alike_31 rfl (Nat.le_of_ble_eq_true rfl) (Nat.le_of_ble_eq_true rfl) ⟨⟨0, Or.inl rfl, rfl⟩, rfl⟩
  exact loop (len + 1) 0 0 nI_0.symm (by omega) (by omega)
set_option maxHeartbeats 4000000 in
set_option maxRecDepth 100000 in
/-- nameOf: an old name, or one more -/
theorem k_nameOf (l : Launch) (D : va_G) (K : KS) (h0 h1 pP pS pL pN pH pK pO pV : Nat) (xat xend xtok xcur xkind xpos xopen xwrong : Int32) (f fS fL fN fH : Nat → Int32) (n s len : Nat) (hI : RI n fS fL fN fH) (hn : n < 200) (hsl : s + len ≤ 157) : Con l D K yX6_nameOf cX6_nameOf 6 (some .int) 1 24 0 0 [.ref h0, .int (nI s), .int (nI len)] [(h0, .inr (2, [.ref h1, .ref pP, .ref pS, .ref pL, .ref pN, .ref pH, .int (nI n), .int xat, .int xend, .ref pK, .ref pO, .ref pV, .int xtok, .int xcur, .int xkind, .int xpos, .int xopen, .int xwrong])), (pP, .inl (K 2, 3157, .inl (f))), (pS, .inl (K 0, 1544, .inl (fS))), (pL, .inl (K 0, 1544, .inl (fL))), (pN, .inl (K 0, 1544, .inl (fN))), (pH, .inl (K 0, 256, .inl (fH)))] (fun v w => ∃ (r : Int32) (n2 : Nat) (gS gL gN gH : Nat → Int32), n2 ≤ n + 1 ∧ RI n2 gS gL gN gH ∧ v = some (.int r) ∧ w = [(h0, .inr (2, [.ref h1, .ref pP, .ref pS, .ref pL, .ref pN, .ref pH, .int (nI n2), .int xat, .int xend, .ref pK, .ref pO, .ref pV, .int xtok, .int xcur, .int xkind, .int xpos, .int xopen, .int xwrong])), (pP, .inl (K 2, 3157, .inl (f))), (pS, .inl (K 0, 1544, .inl (gS))), (pL, .inl (K 0, 1544, .inl (gL))), (pN, .inl (K 0, 1544, .inl (gN))), (pH, .inl (K 0, 256, .inl (gH)))]) := by
  refine Con.of (by decide +kernel) (Nat.le_of_ble_eq_true rfl) ?_
  intro X hXl hXD hXK C hR hQ hnm
  subst hXl; subst hXD; subst hXK
  refine g_lv (l2 := [(0, .ref h0), (1, .int (nI s)), (2, .int (nI len))]) [0, 1, 2] rfl ?_
  refine g_iconst (v := 0) (z := 1) C dX6_nameOf_0 (by decide) rfl ?_
  refine g_istore_n (l2 := [(3, .int 0), (0, .ref h0), (1, .int (nI s)), (2, .int (nI len))]) (z := 2) C dX6_nameOf_1 rfl (by decide) rfl rfl ?_
  refine g_iconst (v := 0) (z := 3) C dX6_nameOf_2 (by decide) rfl ?_
  refine g_istore (l2 := [(4, .int 0), (3, .int 0), (0, .ref h0), (1, .int (nI s)), (2, .int (nI len))]) (z := 5) C dX6_nameOf_3 (by decide) rfl rfl ?_
  refine g_lv (l2 := [(4, .int 0), (3, .int 0), (0, .ref h0), (1, .int (nI s)), (2, .int (nI len))]) [0, 1, 2, 3, 4] rfl ?_
  obtain ⟨hI1, hI2, hI3, hI4⟩ := id hI
  have chain : ∀ (k : Nat) (x y : Int32) (hh : Nat), hh < 256 → (x = -1 ∨ ∃ j : Nat, j < n ∧ j < k ∧ x = nI j) → G X 0 0 [(h0, .inr (2, [.ref h1, .ref pP, .ref pS, .ref pL, .ref pN, .ref pH, .int (nI n), .int xat, .int xend, .ref pK, .ref pO, .ref pV, .int xtok, .int xcur, .int xkind, .int xpos, .int xopen, .int xwrong])), (pP, .inl (gK X 2, 3157, .inl (f))), (pS, .inl (gK X 0, 1544, .inl (fS))), (pL, .inl (gK X 0, 1544, .inl (fL))), (pN, .inl (gK X 0, 1544, .inl (fN))), (pH, .inl (gK X 0, 256, .inl (fH)))] [(5, .int x), (4, .int (nI hh)), (3, .int y), (0, .ref h0), (1, .int (nI s)), (2, .int (nI len))] 48 [] := by
    intro k
    induction k with
    | zero =>
      intro x y hh hhh hj
      have hx : x < 0 := by
        rcases hj with e | ⟨j, _, hj2, _⟩
        · rw [e]; exact m1_lt
        · omega
      refine g_iload (z := 50) C dX6_nameOf_48 0 rfl rfl ?_
      refine g_if_lt_t (z := 95) C dX6_nameOf_50 hx (by decide) ?_
      refine g_aload_n (z := 96) C dX6_nameOf_95 3 rfl rfl rfl ?_
      refine g_get (z := 99) C kX6 dX6_nameOf_96 0 rfl 6 (by decide) w_162 rfl rfl rfl ?_
      refine g_sipush (v := 1544) (z := 102) C dX6_nameOf_99 (by decide) rfl ?_
      refine g_icmp_lt_t (z := 107) C dX6_nameOf_102 (nI_lt (a := n) (b := 1544) (by omega) (by omega)) (by decide) ?_
      refine g_aload_n (z := 108) C dX6_nameOf_107 3 rfl rfl rfl ?_
      refine g_get (z := 111) C kX6 dX6_nameOf_108 0 rfl 2 (by decide) w_133 rfl rfl rfl ?_
      refine g_aload_n (z := 112) C dX6_nameOf_111 3 rfl rfl rfl ?_
      refine g_get (z := 115) C kX6 dX6_nameOf_112 0 rfl 6 (by decide) w_162 rfl rfl rfl ?_
      refine g_iload_n (z := 116) C dX6_nameOf_115 4 rfl rfl rfl ?_
      refine g_iast (w2 := [(h0, .inr (2, [.ref h1, .ref pP, .ref pS, .ref pL, .ref pN, .ref pH, .int (nI n), .int xat, .int xend, .ref pK, .ref pO, .ref pV, .int xtok, .int xcur, .int xkind, .int xpos, .int xopen, .int xwrong])), (pP, .inl (gK X 2, 3157, .inl (f))), (pS, .inl (gK X 0, 1544, .inl (upd (fS) ((nI n) : Int32).toNatClampNeg (nI s)))), (pL, .inl (gK X 0, 1544, .inl (fL))), (pN, .inl (gK X 0, 1544, .inl (fN))), (pH, .inl (gK X 0, 256, .inl (fH)))]) (z := 117) C dX6_nameOf_116 2 rfl (vp_in_nI (by omega) (by omega)) rfl rfl ?_
      rw [nI_clamp (by omega : n < 2 ^ 31)]
      refine g_aload_n (z := 118) C dX6_nameOf_117 3 rfl rfl rfl ?_
      refine g_get (z := 121) C kX6 dX6_nameOf_118 0 rfl 3 (by decide) w_134 rfl rfl rfl ?_
      refine g_aload_n (z := 122) C dX6_nameOf_121 3 rfl rfl rfl ?_
      refine g_get (z := 125) C kX6 dX6_nameOf_122 0 rfl 6 (by decide) w_162 rfl rfl rfl ?_
      refine g_iload_n (z := 126) C dX6_nameOf_125 5 rfl rfl rfl ?_
      refine g_iast (w2 := [(h0, .inr (2, [.ref h1, .ref pP, .ref pS, .ref pL, .ref pN, .ref pH, .int (nI n), .int xat, .int xend, .ref pK, .ref pO, .ref pV, .int xtok, .int xcur, .int xkind, .int xpos, .int xopen, .int xwrong])), (pP, .inl (gK X 2, 3157, .inl (f))), (pS, .inl (gK X 0, 1544, .inl (upd fS n (nI s)))), (pL, .inl (gK X 0, 1544, .inl (upd (fL) ((nI n) : Int32).toNatClampNeg (nI len)))), (pN, .inl (gK X 0, 1544, .inl (fN))), (pH, .inl (gK X 0, 256, .inl (fH)))]) (z := 127) C dX6_nameOf_126 3 rfl (vp_in_nI (by omega) (by omega)) rfl rfl ?_
      rw [nI_clamp (by omega : n < 2 ^ 31)]
      refine g_aload_n (z := 128) C dX6_nameOf_127 3 rfl rfl rfl ?_
      refine g_get (z := 131) C kX6 dX6_nameOf_128 0 rfl 4 (by decide) w_135 rfl rfl rfl ?_
      refine g_aload_n (z := 132) C dX6_nameOf_131 3 rfl rfl rfl ?_
      refine g_get (z := 135) C kX6 dX6_nameOf_132 0 rfl 6 (by decide) w_162 rfl rfl rfl ?_
      refine g_aload_n (z := 136) C dX6_nameOf_135 3 rfl rfl rfl ?_
      refine g_get (z := 139) C kX6 dX6_nameOf_136 0 rfl 5 (by decide) w_136 rfl rfl rfl ?_
      refine g_iload (z := 141) C dX6_nameOf_139 1 rfl rfl ?_
      refine g_iald (v := (fH hh)) (z := 142) C dX6_nameOf_141 5 rfl (vp_in_nI (by omega) (by omega)) (by rw [nI_clamp (by omega)]) rfl ?_
      refine g_iast (w2 := [(h0, .inr (2, [.ref h1, .ref pP, .ref pS, .ref pL, .ref pN, .ref pH, .int (nI n), .int xat, .int xend, .ref pK, .ref pO, .ref pV, .int xtok, .int xcur, .int xkind, .int xpos, .int xopen, .int xwrong])), (pP, .inl (gK X 2, 3157, .inl (f))), (pS, .inl (gK X 0, 1544, .inl (upd fS n (nI s)))), (pL, .inl (gK X 0, 1544, .inl (upd fL n (nI len)))), (pN, .inl (gK X 0, 1544, .inl (upd (fN) ((nI n) : Int32).toNatClampNeg (fH hh)))), (pH, .inl (gK X 0, 256, .inl (fH)))]) (z := 143) C dX6_nameOf_142 4 rfl (vp_in_nI (by omega) (by omega)) rfl rfl ?_
      rw [nI_clamp (by omega : n < 2 ^ 31)]
      refine g_aload_n (z := 144) C dX6_nameOf_143 3 rfl rfl rfl ?_
      refine g_get (z := 147) C kX6 dX6_nameOf_144 0 rfl 5 (by decide) w_136 rfl rfl rfl ?_
      refine g_iload (z := 149) C dX6_nameOf_147 1 rfl rfl ?_
      refine g_aload_n (z := 150) C dX6_nameOf_149 3 rfl rfl rfl ?_
      refine g_get (z := 153) C kX6 dX6_nameOf_150 0 rfl 6 (by decide) w_162 rfl rfl rfl ?_
      refine g_iast (w2 := [(h0, .inr (2, [.ref h1, .ref pP, .ref pS, .ref pL, .ref pN, .ref pH, .int (nI n), .int xat, .int xend, .ref pK, .ref pO, .ref pV, .int xtok, .int xcur, .int xkind, .int xpos, .int xopen, .int xwrong])), (pP, .inl (gK X 2, 3157, .inl (f))), (pS, .inl (gK X 0, 1544, .inl (upd fS n (nI s)))), (pL, .inl (gK X 0, 1544, .inl (upd fL n (nI len)))), (pN, .inl (gK X 0, 1544, .inl (upd fN n (fH hh)))), (pH, .inl (gK X 0, 256, .inl (upd (fH) ((nI hh) : Int32).toNatClampNeg (nI n))))]) (z := 154) C dX6_nameOf_153 5 rfl (vp_in_nI (by omega) (by omega)) rfl rfl ?_
      rw [nI_clamp (by omega : hh < 2 ^ 31)]
      refine g_aload_n (z := 155) C dX6_nameOf_154 3 rfl rfl rfl ?_
      refine g_dup (z := 156) C dX6_nameOf_155 rfl rfl ?_
      refine g_get (z := 159) C kX6 dX6_nameOf_156 0 rfl 6 (by decide) w_162 rfl rfl rfl ?_
      refine g_iconst (v := 1) (z := 160) C dX6_nameOf_159 (by decide) rfl ?_
      refine g_iadd (v := nI (n + 1)) (z := 161) C dX6_nameOf_160 (nI_1 n) rfl ?_
      refine g_put (w2 := [(h0, .inr (2, [.ref h1, .ref pP, .ref pS, .ref pL, .ref pN, .ref pH, .int (nI (n + 1)), .int xat, .int xend, .ref pK, .ref pO, .ref pV, .int xtok, .int xcur, .int xkind, .int xpos, .int xopen, .int xwrong])), (pP, .inl (gK X 2, 3157, .inl (f))), (pS, .inl (gK X 0, 1544, .inl (upd fS n (nI s)))), (pL, .inl (gK X 0, 1544, .inl (upd fL n (nI len)))), (pN, .inl (gK X 0, 1544, .inl (upd fN n (fH hh)))), (pH, .inl (gK X 0, 256, .inl (upd fH hh (nI n))))]) (z := 164) C kX6 dX6_nameOf_161 0 rfl 6 (by decide) w_162 rfl rfl rfl rfl (Nat.le_of_ble_eq_true rfl) rfl rfl ?_
      refine g_aload_n (z := 165) C dX6_nameOf_164 3 rfl rfl rfl ?_
      refine g_get (z := 168) C kX6 dX6_nameOf_165 0 rfl 6 (by decide) w_162 rfl rfl rfl ?_
      refine g_iconst (v := 1) (z := 169) C dX6_nameOf_168 (by decide) rfl ?_
      refine g_isub (v := ((nI (n + 1)) - 1)) (z := 170) C dX6_nameOf_169 (rfl) rfl ?_
      exact g_iret C hQ dX6_nameOf_170 rfl (Nat.le_of_ble_eq_true rfl) (Nat.le_of_ble_eq_true rfl) ⟨_, n + 1, _, _, _, _, Nat.le_refl _, hI.add (by omega) (by omega) hhh, rfl, rfl⟩
    | succ k ih =>
      intro x y hh hhh hj
      rcases hj with e | ⟨j, hj1, hj2, e⟩
      · have hx : x < 0 := by rw [e]; exact m1_lt
        refine g_iload (z := 50) C dX6_nameOf_48 0 rfl rfl ?_
        refine g_if_lt_t (z := 95) C dX6_nameOf_50 hx (by decide) ?_
        refine g_aload_n (z := 96) C dX6_nameOf_95 3 rfl rfl rfl ?_
        refine g_get (z := 99) C kX6 dX6_nameOf_96 0 rfl 6 (by decide) w_162 rfl rfl rfl ?_
        refine g_sipush (v := 1544) (z := 102) C dX6_nameOf_99 (by decide) rfl ?_
        refine g_icmp_lt_t (z := 107) C dX6_nameOf_102 (nI_lt (a := n) (b := 1544) (by omega) (by omega)) (by decide) ?_
        refine g_aload_n (z := 108) C dX6_nameOf_107 3 rfl rfl rfl ?_
        refine g_get (z := 111) C kX6 dX6_nameOf_108 0 rfl 2 (by decide) w_133 rfl rfl rfl ?_
        refine g_aload_n (z := 112) C dX6_nameOf_111 3 rfl rfl rfl ?_
        refine g_get (z := 115) C kX6 dX6_nameOf_112 0 rfl 6 (by decide) w_162 rfl rfl rfl ?_
        refine g_iload_n (z := 116) C dX6_nameOf_115 4 rfl rfl rfl ?_
        refine g_iast (w2 := [(h0, .inr (2, [.ref h1, .ref pP, .ref pS, .ref pL, .ref pN, .ref pH, .int (nI n), .int xat, .int xend, .ref pK, .ref pO, .ref pV, .int xtok, .int xcur, .int xkind, .int xpos, .int xopen, .int xwrong])), (pP, .inl (gK X 2, 3157, .inl (f))), (pS, .inl (gK X 0, 1544, .inl (upd (fS) ((nI n) : Int32).toNatClampNeg (nI s)))), (pL, .inl (gK X 0, 1544, .inl (fL))), (pN, .inl (gK X 0, 1544, .inl (fN))), (pH, .inl (gK X 0, 256, .inl (fH)))]) (z := 117) C dX6_nameOf_116 2 rfl (vp_in_nI (by omega) (by omega)) rfl rfl ?_
        rw [nI_clamp (by omega : n < 2 ^ 31)]
        refine g_aload_n (z := 118) C dX6_nameOf_117 3 rfl rfl rfl ?_
        refine g_get (z := 121) C kX6 dX6_nameOf_118 0 rfl 3 (by decide) w_134 rfl rfl rfl ?_
        refine g_aload_n (z := 122) C dX6_nameOf_121 3 rfl rfl rfl ?_
        refine g_get (z := 125) C kX6 dX6_nameOf_122 0 rfl 6 (by decide) w_162 rfl rfl rfl ?_
        refine g_iload_n (z := 126) C dX6_nameOf_125 5 rfl rfl rfl ?_
        refine g_iast (w2 := [(h0, .inr (2, [.ref h1, .ref pP, .ref pS, .ref pL, .ref pN, .ref pH, .int (nI n), .int xat, .int xend, .ref pK, .ref pO, .ref pV, .int xtok, .int xcur, .int xkind, .int xpos, .int xopen, .int xwrong])), (pP, .inl (gK X 2, 3157, .inl (f))), (pS, .inl (gK X 0, 1544, .inl (upd fS n (nI s)))), (pL, .inl (gK X 0, 1544, .inl (upd (fL) ((nI n) : Int32).toNatClampNeg (nI len)))), (pN, .inl (gK X 0, 1544, .inl (fN))), (pH, .inl (gK X 0, 256, .inl (fH)))]) (z := 127) C dX6_nameOf_126 3 rfl (vp_in_nI (by omega) (by omega)) rfl rfl ?_
        rw [nI_clamp (by omega : n < 2 ^ 31)]
        refine g_aload_n (z := 128) C dX6_nameOf_127 3 rfl rfl rfl ?_
        refine g_get (z := 131) C kX6 dX6_nameOf_128 0 rfl 4 (by decide) w_135 rfl rfl rfl ?_
        refine g_aload_n (z := 132) C dX6_nameOf_131 3 rfl rfl rfl ?_
        refine g_get (z := 135) C kX6 dX6_nameOf_132 0 rfl 6 (by decide) w_162 rfl rfl rfl ?_
        refine g_aload_n (z := 136) C dX6_nameOf_135 3 rfl rfl rfl ?_
        refine g_get (z := 139) C kX6 dX6_nameOf_136 0 rfl 5 (by decide) w_136 rfl rfl rfl ?_
        refine g_iload (z := 141) C dX6_nameOf_139 1 rfl rfl ?_
        refine g_iald (v := (fH hh)) (z := 142) C dX6_nameOf_141 5 rfl (vp_in_nI (by omega) (by omega)) (by rw [nI_clamp (by omega)]) rfl ?_
        refine g_iast (w2 := [(h0, .inr (2, [.ref h1, .ref pP, .ref pS, .ref pL, .ref pN, .ref pH, .int (nI n), .int xat, .int xend, .ref pK, .ref pO, .ref pV, .int xtok, .int xcur, .int xkind, .int xpos, .int xopen, .int xwrong])), (pP, .inl (gK X 2, 3157, .inl (f))), (pS, .inl (gK X 0, 1544, .inl (upd fS n (nI s)))), (pL, .inl (gK X 0, 1544, .inl (upd fL n (nI len)))), (pN, .inl (gK X 0, 1544, .inl (upd (fN) ((nI n) : Int32).toNatClampNeg (fH hh)))), (pH, .inl (gK X 0, 256, .inl (fH)))]) (z := 143) C dX6_nameOf_142 4 rfl (vp_in_nI (by omega) (by omega)) rfl rfl ?_
        rw [nI_clamp (by omega : n < 2 ^ 31)]
        refine g_aload_n (z := 144) C dX6_nameOf_143 3 rfl rfl rfl ?_
        refine g_get (z := 147) C kX6 dX6_nameOf_144 0 rfl 5 (by decide) w_136 rfl rfl rfl ?_
        refine g_iload (z := 149) C dX6_nameOf_147 1 rfl rfl ?_
        refine g_aload_n (z := 150) C dX6_nameOf_149 3 rfl rfl rfl ?_
        refine g_get (z := 153) C kX6 dX6_nameOf_150 0 rfl 6 (by decide) w_162 rfl rfl rfl ?_
        refine g_iast (w2 := [(h0, .inr (2, [.ref h1, .ref pP, .ref pS, .ref pL, .ref pN, .ref pH, .int (nI n), .int xat, .int xend, .ref pK, .ref pO, .ref pV, .int xtok, .int xcur, .int xkind, .int xpos, .int xopen, .int xwrong])), (pP, .inl (gK X 2, 3157, .inl (f))), (pS, .inl (gK X 0, 1544, .inl (upd fS n (nI s)))), (pL, .inl (gK X 0, 1544, .inl (upd fL n (nI len)))), (pN, .inl (gK X 0, 1544, .inl (upd fN n (fH hh)))), (pH, .inl (gK X 0, 256, .inl (upd (fH) ((nI hh) : Int32).toNatClampNeg (nI n))))]) (z := 154) C dX6_nameOf_153 5 rfl (vp_in_nI (by omega) (by omega)) rfl rfl ?_
        rw [nI_clamp (by omega : hh < 2 ^ 31)]
        refine g_aload_n (z := 155) C dX6_nameOf_154 3 rfl rfl rfl ?_
        refine g_dup (z := 156) C dX6_nameOf_155 rfl rfl ?_
        refine g_get (z := 159) C kX6 dX6_nameOf_156 0 rfl 6 (by decide) w_162 rfl rfl rfl ?_
        refine g_iconst (v := 1) (z := 160) C dX6_nameOf_159 (by decide) rfl ?_
        refine g_iadd (v := nI (n + 1)) (z := 161) C dX6_nameOf_160 (nI_1 n) rfl ?_
        refine g_put (w2 := [(h0, .inr (2, [.ref h1, .ref pP, .ref pS, .ref pL, .ref pN, .ref pH, .int (nI (n + 1)), .int xat, .int xend, .ref pK, .ref pO, .ref pV, .int xtok, .int xcur, .int xkind, .int xpos, .int xopen, .int xwrong])), (pP, .inl (gK X 2, 3157, .inl (f))), (pS, .inl (gK X 0, 1544, .inl (upd fS n (nI s)))), (pL, .inl (gK X 0, 1544, .inl (upd fL n (nI len)))), (pN, .inl (gK X 0, 1544, .inl (upd fN n (fH hh)))), (pH, .inl (gK X 0, 256, .inl (upd fH hh (nI n))))]) (z := 164) C kX6 dX6_nameOf_161 0 rfl 6 (by decide) w_162 rfl rfl rfl rfl (Nat.le_of_ble_eq_true rfl) rfl rfl ?_
        refine g_aload_n (z := 165) C dX6_nameOf_164 3 rfl rfl rfl ?_
        refine g_get (z := 168) C kX6 dX6_nameOf_165 0 rfl 6 (by decide) w_162 rfl rfl rfl ?_
        refine g_iconst (v := 1) (z := 169) C dX6_nameOf_168 (by decide) rfl ?_
        refine g_isub (v := ((nI (n + 1)) - 1)) (z := 170) C dX6_nameOf_169 (rfl) rfl ?_
        exact g_iret C hQ dX6_nameOf_170 rfl (Nat.le_of_ble_eq_true rfl) (Nat.le_of_ble_eq_true rfl) ⟨_, n + 1, _, _, _, _, Nat.le_refl _, hI.add (by omega) (by omega) hhh, rfl, rfl⟩
      · subst e
        refine g_iload (z := 50) C dX6_nameOf_48 0 rfl rfl ?_
        refine g_if_lt_f (z := 53) 95 C dX6_nameOf_50 (nI_pos (by omega)) (by decide) rfl ?_
        obtain ⟨s2, l2, e1, e2, e3⟩ := hI2 j hj1
        refine g_aload_n (z := 54) C dX6_nameOf_53 3 rfl rfl rfl ?_
        refine g_get (z := 57) C kX6 dX6_nameOf_54 0 rfl 3 (by decide) w_134 rfl rfl rfl ?_
        refine g_iload (z := 59) C dX6_nameOf_57 0 rfl rfl ?_
        refine g_iald (v := (nI l2)) (z := 60) C dX6_nameOf_59 3 rfl (vp_in_nI (by omega) (by omega)) (by rw [nI_clamp (by omega)]; exact e2) rfl ?_
        refine g_iload_n (z := 61) C dX6_nameOf_60 5 rfl rfl rfl ?_
        refine g_icmp_ne (z2 := 83) (z := 64) C dX6_nameOf_61 (by decide) rfl (fun hl => ?_) (fun hl => ?_)
        · refine g_aload_n (z := 84) C dX6_nameOf_83 3 rfl rfl rfl ?_
          refine g_get (z := 87) C kX6 dX6_nameOf_84 0 rfl 4 (by decide) w_135 rfl rfl rfl ?_
          refine g_iload (z := 89) C dX6_nameOf_87 0 rfl rfl ?_
          refine g_iald (v := (fN j)) (z := 90) C dX6_nameOf_89 4 rfl (vp_in_nI (by omega) (by omega)) (by rw [nI_clamp (by omega)]) rfl ?_
          refine g_istore (l2 := [(5, .int (fN j)), (4, .int (nI hh)), (3, .int y), (0, .ref h0), (1, .int (nI s)), (2, .int (nI len))]) (z := 92) C dX6_nameOf_90 (by decide) rfl rfl ?_
          refine g_goto (z := 48) C dX6_nameOf_92 (by decide) ?_
          refine g_lv (l2 := [(5, .int (fN j)), (4, .int (nI hh)), (3, .int y), (0, .ref h0), (1, .int (nI s)), (2, .int (nI len))]) [0, 1, 2, 3, 4, 5] rfl ?_
          refine ih _ y hh hhh ?_
          rcases hI3 j hj1 with q | ⟨i, hi, q⟩
          · exact Or.inl q
          · exact Or.inr ⟨i, by omega, by omega, q⟩
        · have el : len = l2 := ((nI_eq (by omega) (by omega)).mp hl).symm
          subst el
          refine g_aload_n (z := 65) C dX6_nameOf_64 3 rfl rfl rfl ?_
          refine g_aload_n (z := 66) C dX6_nameOf_65 3 rfl rfl rfl ?_
          refine g_get (z := 69) C kX6 dX6_nameOf_66 0 rfl 2 (by decide) w_133 rfl rfl rfl ?_
          refine g_iload (z := 71) C dX6_nameOf_69 0 rfl rfl ?_
          refine g_iald (v := (nI s2)) (z := 72) C dX6_nameOf_71 2 rfl (vp_in_nI (by omega) (by omega)) (by rw [nI_clamp (by omega)]; exact e1) rfl ?_
          refine g_iload_n (z := 73) C dX6_nameOf_72 4 rfl rfl rfl ?_
          refine g_iload_n (z := 74) C dX6_nameOf_73 5 rfl rfl rfl ?_
          refine g_callV (n := 3) (As := [.int (nI s2), .int (nI s), .int (nI len)]) (rest := []) (wr := [(pS, .inl (gK X 0, 1544, .inl (fS))), (pL, .inl (gK X 0, 1544, .inl (fL))), (pN, .inl (gK X 0, 1544, .inl (fN))), (pH, .inl (gK X 0, 256, .inl (fH)))]) (a2 := 0) (b2 := 0) (z := 77) C hR (k_alike (gl X) (gD X) (gK X) h0 h1 pP pS pL pN pH pK pO pV xat xend xtok xcur xkind xpos xopen xwrong (nI n) f s2 s len (by omega) (by omega)) dX6_nameOf_74 w_167 w_169 w_170 w_168 w_16 ⟨by decide +kernel, by decide +kernel, by decide +kernel⟩ [0, 1] [2, 3, 4, 5] rfl rfl rfl rfl rfl (by decide) ⟨(Nat.le_of_ble_eq_true rfl), (Nat.le_of_ble_eq_true rfl)⟩ rfl rfl (Nat.le_of_ble_eq_true rfl) (Nat.le_of_ble_eq_true rfl) (Nat.le_of_ble_eq_true rfl) rfl rfl 0 kX6 rfl rfl rfl rfl (fun v ws' hp => ?_)
          obtain ⟨⟨r, hr, rfl⟩, rfl⟩ := hp
          refine g_ws (w2 := [(pS, .inl (gK X 0, 1544, .inl (fS))), (pL, .inl (gK X 0, 1544, .inl (fL))), (pN, .inl (gK X 0, 1544, .inl (fN))), (pH, .inl (gK X 0, 256, .inl (fH))), (h0, .inr (2, [.ref h1, .ref pP, .ref pS, .ref pL, .ref pN, .ref pH, .int (nI n), .int xat, .int xend, .ref pK, .ref pO, .ref pV, .int xtok, .int xcur, .int xkind, .int xpos, .int xopen, .int xwrong])), (pP, .inl (gK X 2, 3157, .inl (f)))]) rfl ?_
          refine g_st (s2 := [.int r]) rfl ?_
          refine g_sub (w2 := [(h0, .inr (2, [.ref h1, .ref pP, .ref pS, .ref pL, .ref pN, .ref pH, .int (nI n), .int xat, .int xend, .ref pK, .ref pO, .ref pV, .int xtok, .int xcur, .int xkind, .int xpos, .int xopen, .int xwrong])), (pP, .inl (gK X 2, 3157, .inl (f))), (pS, .inl (gK X 0, 1544, .inl (fS))), (pL, .inl (gK X 0, 1544, .inl (fL))), (pN, .inl (gK X 0, 1544, .inl (fN))), (pH, .inl (gK X 0, 256, .inl (fH)))]) [4, 5, 0, 1, 2, 3] rfl rfl rfl ?_
          refine g_if_eq (z2 := 83) (z := 80) C dX6_nameOf_77 (by decide) rfl (fun hz => ?_) (fun hz => ?_)
          · refine g_aload_n (z := 84) C dX6_nameOf_83 3 rfl rfl rfl ?_
            refine g_get (z := 87) C kX6 dX6_nameOf_84 0 rfl 4 (by decide) w_135 rfl rfl rfl ?_
            refine g_iload (z := 89) C dX6_nameOf_87 0 rfl rfl ?_
            refine g_iald (v := (fN j)) (z := 90) C dX6_nameOf_89 4 rfl (vp_in_nI (by omega) (by omega)) (by rw [nI_clamp (by omega)]) rfl ?_
            refine g_istore (l2 := [(5, .int (fN j)), (4, .int (nI hh)), (3, .int y), (0, .ref h0), (1, .int (nI s)), (2, .int (nI len))]) (z := 92) C dX6_nameOf_90 (by decide) rfl rfl ?_
            refine g_goto (z := 48) C dX6_nameOf_92 (by decide) ?_
            refine g_lv (l2 := [(5, .int (fN j)), (4, .int (nI hh)), (3, .int y), (0, .ref h0), (1, .int (nI s)), (2, .int (nI len))]) [0, 1, 2, 3, 4, 5] rfl ?_
            refine ih _ y hh hhh ?_
            rcases hI3 j hj1 with q | ⟨i, hi, q⟩
            · exact Or.inl q
            · exact Or.inr ⟨i, by omega, by omega, q⟩
          · refine g_iload (z := 82) C dX6_nameOf_80 0 rfl rfl ?_
            exact g_iret C hQ dX6_nameOf_82 rfl (Nat.le_of_ble_eq_true rfl) (Nat.le_of_ble_eq_true rfl) ⟨_, n, _, _, _, _, Nat.le_succ n, hI, rfl, rfl⟩
  have loop : ∀ (k i : Nat) (x y : Int32), x = nI i → i ≤ len → len + 1 ≤ i + k → G X 0 0 [(h0, .inr (2, [.ref h1, .ref pP, .ref pS, .ref pL, .ref pN, .ref pH, .int (nI n), .int xat, .int xend, .ref pK, .ref pO, .ref pV, .int xtok, .int xcur, .int xkind, .int xpos, .int xopen, .int xwrong])), (pP, .inl (gK X 2, 3157, .inl (f))), (pS, .inl (gK X 0, 1544, .inl (fS))), (pL, .inl (gK X 0, 1544, .inl (fL))), (pN, .inl (gK X 0, 1544, .inl (fN))), (pH, .inl (gK X 0, 256, .inl (fH)))] [(4, .int x), (3, .int y), (0, .ref h0), (1, .int (nI s)), (2, .int (nI len))] 5 [] := by
    intro k
    induction k with
    | zero => intro i x y _ u1 u2; omega
    | succ k ih =>
      intro i x y hx u1 u2
      subst hx
      refine g_iload (z := 7) C dX6_nameOf_5 0 rfl rfl ?_
      refine g_iload_n (z := 8) C dX6_nameOf_7 4 rfl rfl rfl ?_
      refine g_icmp_ge (z2 := 32) (z := 11) C dX6_nameOf_8 (by decide) rfl (fun hc => ?_) (fun hc => ?_)
      · refine g_iload_n (z := 33) C dX6_nameOf_32 1 rfl rfl rfl ?_
        refine g_sipush (v := 255) (z := 36) C dX6_nameOf_33 (by decide) rfl ?_
        obtain ⟨hh, hhh, eh⟩ := pk_andE y (m := 255) 8 (by decide)
        refine g_iand (v := nI hh) (z := 37) C dX6_nameOf_36 eh rfl ?_
        refine g_istore (l2 := [(4, .int (nI hh)), (3, .int y), (0, .ref h0), (1, .int (nI s)), (2, .int (nI len))]) (z := 39) C dX6_nameOf_37 (by decide) rfl rfl ?_
        refine g_aload_n (z := 40) C dX6_nameOf_39 2 rfl rfl rfl ?_
        refine g_get (z := 43) C kX6 dX6_nameOf_40 0 rfl 5 (by decide) w_136 rfl rfl rfl ?_
        refine g_iload (z := 45) C dX6_nameOf_43 0 rfl rfl ?_
        refine g_iald (v := (fH hh)) (z := 46) C dX6_nameOf_45 5 rfl (vp_in_nI (by omega) (by omega)) (by rw [nI_clamp (by omega)]) rfl ?_
        refine g_istore (l2 := [(5, .int (fH hh)), (4, .int (nI hh)), (3, .int y), (0, .ref h0), (1, .int (nI s)), (2, .int (nI len))]) (z := 48) C dX6_nameOf_46 (by decide) rfl rfl ?_
        refine g_lv (l2 := [(5, .int (fH hh)), (4, .int (nI hh)), (3, .int y), (0, .ref h0), (1, .int (nI s)), (2, .int (nI len))]) [0, 1, 2, 3, 4, 5] rfl ?_
        refine chain n _ y hh hhh ?_
        rcases hI4 hh hhh with q | ⟨j, hj, q⟩
        · exact Or.inl q
        · exact Or.inr ⟨j, hj, hj, q⟩
      · have hi : i < len := by
          rcases Nat.lt_or_ge i len with q | q
          · exact q
          · exact absurd (nI_le q (by omega)) hc
        refine g_iload_n (z := 12) C dX6_nameOf_11 1 rfl rfl rfl ?_
        refine g_bipush (v := 31) (z := 14) C dX6_nameOf_12 (by decide) rfl ?_
        refine g_imul (v := (y * 31)) (z := 15) C dX6_nameOf_14 (rfl) rfl ?_
        refine g_aload_n (z := 16) C dX6_nameOf_15 2 rfl rfl rfl ?_
        refine g_get (z := 19) C kX6 dX6_nameOf_16 0 rfl 1 (by decide) w_132 rfl rfl rfl ?_
        refine g_iload_n (z := 20) C dX6_nameOf_19 3 rfl rfl rfl ?_
        refine g_iload (z := 22) C dX6_nameOf_20 0 rfl rfl ?_
        refine g_iadd (v := nI (s + i)) (z := 23) C dX6_nameOf_22 (nI_add s i) rfl ?_
        refine g_bald (v := (f (s + i))) (z := 24) C dX6_nameOf_23 1 rfl (vp_in_nI (by omega) (by omega)) (by rw [nI_clamp (by omega)]) rfl ?_
        refine g_iadd (v := ((y * 31) + (f (s + i)))) (z := 25) C dX6_nameOf_24 (rfl) rfl ?_
        refine g_istore_n (l2 := [(3, .int ((y * 31) + (f (s + i)))), (4, .int (nI i)), (0, .ref h0), (1, .int (nI s)), (2, .int (nI len))]) (z := 26) C dX6_nameOf_25 rfl (by decide) rfl rfl ?_
        refine g_iinc (v := ((nI i) + 1)) (l2 := [(4, .int ((nI i) + 1)), (3, .int ((y * 31) + (f (s + i)))), (0, .ref h0), (1, .int (nI s)), (2, .int (nI len))]) (z := 29) C dX6_nameOf_26 1 rfl (by rfl) (by decide) rfl rfl ?_
        refine g_goto (z := 5) C dX6_nameOf_29 (by decide) ?_
        refine g_lv (l2 := [(4, .int ((nI i) + 1)), (3, .int ((y * 31) + (f (s + i)))), (0, .ref h0), (1, .int (nI s)), (2, .int (nI len))]) [0, 1, 2, 3, 4] rfl ?_
        exact ih (i + 1) _ _ (nI_1 i) (by omega) (by omega)
  exact loop (len + 1) 0 0 0 nI_0.symm (by omega) (by omega)

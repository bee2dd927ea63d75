abbrev FLT : List Cond := flatC (Jvm.Cond.and given_1 narrow_1)
theorem fW_ex : Cond.exactly (Term.string "LoanHouse$Reader" 9) "java/lang/String" ∈ FLT := List.mem_of_getElem? (i := 291) (by decide +kernel)
theorem fW_co : Cond.eq (Term.field (Term.string "LoanHouse$Reader" 9) "java/lang/String" "coder" "B") (Term.int 0) ∈ FLT := List.mem_of_getElem? (i := 292) (by decide +kernel)
theorem fW_ar : Cond.arrayOf (Term.field (Term.string "LoanHouse$Reader" 9) "java/lang/String" "value" "[B") .byte ∈ FLT := List.mem_of_getElem? (i := 293) (by decide +kernel)
theorem fW_le : Cond.eq (Term.length (Term.field (Term.string "LoanHouse$Reader" 9) "java/lang/String" "value" "[B")) (Term.int 157) ∈ FLT := List.mem_of_getElem? (i := 294) (by decide +kernel)
theorem fE_ex : Cond.exactly (Term.string "LoanHouseModel" 208) "java/lang/String" ∈ FLT := List.mem_of_getElem? (i := 537) (by decide +kernel)
theorem fM_ex : Cond.exactly (Term.string "LoanHouseModel" 816) "java/lang/String" ∈ FLT := List.mem_of_getElem? (i := 1186) (by decide +kernel)
theorem fC : Cond.eq (Term.static "java/lang/String" "COMPACT_STRINGS" "Z") (Term.int 1) ∈ FLT := List.mem_of_getElem? (i := 4) (by decide +kernel)
theorem fF : Cond.isRef (Term.static "jdk/internal/util/Preconditions" "SIOOBE_FORMATTER" "Ljava/util/function/BiFunction;") ∈ FLT := List.mem_of_getElem? (i := 5) (by decide +kernel)
theorem fD : Cond.exactly (Term.static "java/util/ArrayList" "DEFAULTCAPACITY_EMPTY_ELEMENTDATA" "[Ljava/lang/Object;") "[Ljava/lang/Object;" ∈ FLT := List.mem_of_getElem? (i := 11) (by decide +kernel)
theorem fW_el : ∀ j, j < 157 → FLT[295 + j]? = some (Cond.eq (Term.elem (Term.field (Term.string "LoanHouse$Reader" 9) "java/lang/String" "value" "[B") (Term.int (Int32.ofNat j))) (Term.int (byW.getD j 0))) := by decide +kernel
theorem t_sW : Cond.stringRef "LoanHouse$Reader" 9 txW ∈ lw_tbl := List.mem_of_getElem? (i := 175) (by decide +kernel)
theorem t_sE : Cond.stringRef "LoanHouseModel" 208 "" ∈ lw_tbl := List.mem_of_getElem? (i := 2950) (by decide +kernel)
theorem t_sM : Cond.stringRef "LoanHouseModel" 816 "main" ∈ lw_tbl := List.mem_of_getElem? (i := 3866) (by decide +kernel)
theorem t_lC : Cond.laysStatic "java/lang/String" "COMPACT_STRINGS" "Z" ∈ lw_tbl := List.mem_of_getElem? (i := 185) (by decide +kernel)
theorem t_lF : Cond.laysStatic "jdk/internal/util/Preconditions" "SIOOBE_FORMATTER" "Ljava/util/function/BiFunction;" ∈ lw_tbl := List.mem_of_getElem? (i := 201) (by decide +kernel)
theorem t_lD : Cond.laysStatic "java/util/ArrayList" "DEFAULTCAPACITY_EMPTY_ELEMENTDATA" "[Ljava/lang/Object;" ∈ lw_tbl := List.mem_of_getElem? (i := 2431) (by decide +kernel)
theorem t_iC : Cond.initialized "java/lang/String" ∈ lw_tbl := List.mem_of_getElem? (i := 38) (by decide +kernel)
theorem t_iF : Cond.initialized "jdk/internal/util/Preconditions" ∈ lw_tbl := List.mem_of_getElem? (i := 40) (by decide +kernel)
theorem t_iD : Cond.initialized "java/util/ArrayList" ∈ lw_tbl := List.mem_of_getElem? (i := 57) (by decide +kernel)
theorem t_ao0 : Cond.arrayOver (.object "LoanHouseModel$Exp") ∈ lw_tbl := List.mem_of_getElem? (i := 3647) (by decide +kernel)
theorem t_ao1 : Cond.arrayOver (.object "LoanHouseModel$Fn") ∈ lw_tbl := List.mem_of_getElem? (i := 2466) (by decide +kernel)
theorem t_ao2 : Cond.arrayOver (.object "LoanHouseModel$Node") ∈ lw_tbl := List.mem_of_getElem? (i := 2468) (by decide +kernel)
theorem t_ao3 : Cond.arrayOver (.object "LoanHouseModel$Type") ∈ lw_tbl := List.mem_of_getElem? (i := 2463) (by decide +kernel)
theorem t_ao4 : Cond.arrayOver (.object "LoanHouseModel$Var") ∈ lw_tbl := List.mem_of_getElem? (i := 4207) (by decide +kernel)
theorem t_ao5 : Cond.arrayOver (.object "java/lang/Object") ∈ lw_tbl := List.mem_of_getElem? (i := 3204) (by decide +kernel)
theorem t_ao6 : Cond.arrayOver (.object "java/lang/String") ∈ lw_tbl := List.mem_of_getElem? (i := 2386) (by decide +kernel)
theorem t_aoJ : Cond.arrayOver (.array .long) ∈ lw_tbl := List.mem_of_getElem? (i := 514) (by decide +kernel)
theorem t_pv : Cond.privateMethod yJ5_ensureCapacityInternal_d00df ∈ lw_tbl := List.mem_of_getElem? (i := 2810) (by decide +kernel)
theorem t_in : Cond.instanceMethod yJ5_ensureCapacityInternal_d00df ∈ lw_tbl := List.mem_of_getElem? (i := 2811) (by decide +kernel)
theorem t_sb : Cond.instantiable "java/lang/StringBuilder" 4 ∈ lw_tbl := List.mem_of_getElem? (i := 2388) (by decide +kernel)
theorem t_sl : Cond.selects "java/lang/StringBuilder" yJ5_isLatin1_aae02 yJ5_isLatin1_aae02 ∈ lw_tbl := List.mem_of_getElem? (i := 2841) (by decide +kernel)
theorem sel_private {s : State} {args : Array Value} {Cn : String} {n : Nat} {y w : MethodName} (hy : y.cls ≠ "java/lang/invoke/MethodHandle" ∧ y.cls ≠ "java/lang/invoke/VarHandle") (hins : (Cond.instantiable Cn n).before args s = true) (hpriv : (Cond.privateMethod y).before args s = true) (hinst : (Cond.instanceMethod y).before args s = true) (hsel : (Cond.selects Cn w w).before args s = true) (hw : w.cls = y.cls) : (Cond.selects Cn y y).before args s = true := by
  obtain ⟨c, k, hc, hk, -, -, -, -⟩ := Cond.instantiable_spec hins
  obtain ⟨mk, methM, hnamed, hmethM, -, -⟩ := Cond.instanceMethod_spec hinst
  have hfound : s.methodFound? y.cls y.name y.desc = some mk := State.methodFound?_of_named hnamed hy
  have hs : selectMethod {} s.vm c mk = .method mk := selectMethod_private hmethM (Cond.privateMethod_at hpriv mk methM hnamed hmethM)
  obtain ⟨c2, r2, m2, q1, q2, q3, q4, kP, hkP, hkPi⟩ := Cond.selects_spec hsel
  have e : m2.cls = mk.cls := by
    have h1 := findClass_of_methodNamed q3
    have h2 := findClass_of_methodNamed hnamed
    rw [hw] at h1
    exact Option.some.inj (h1.symm.trans h2)
  rw [e] at hkP
  simp only [Cond.before, Cond.holds, Cond.value, hc, hfound, hnamed, hs, hkP]
  simp [hkPi]
theorem arr_of {args : Array Value} {s : State} {t : FieldType} (h : (Cond.arrayClass t).before args s = true) (ho : ∀ C, t ≠ .object C) : ∃ c : ClassId, ArrOfT s c t ∧ va_RA s c t := by
  obtain ⟨c, k, comp, h1, h2, h3⟩ := Cond.arrayClass_spec h
  refine ⟨c, fun n z => ⟨(fun q hq => by cases hq), k, h2, comp, h3⟩, ?_⟩
  cases t <;> first | exact h1 | exact absurd rfl (ho _)
theorem arr_ofS {args : Array Value} {s : State} {Cn : String} (h : (Cond.arrayOver (.object Cn)).before args s = true) : ∃ c : ClassId, ArrOfT s c (.object Cn) ∧ va_RA s c (.object Cn) := by
  obtain ⟨comp, c, k, h1, -, h3, h4, h5⟩ := Cond.arrayOver_spec h
  exact ⟨c, fun n z => ⟨(fun q hq => by cases hq), k, h3, comp, h4⟩, k, comp, h3, h4, h1, h5⟩
theorem tbl_words {args : Array Value} {s : State} (hts : ∀ w ∈ lw_tbl, w.before args s = true) : ∀ w ∈ TBL, w.before args s = true := fun w h => (tbl_in w h).elim (fun h => by
  have e : w = Cond.selects "java/lang/StringBuilder" yJ5_ensureCapacityInternal_d00df yJ5_ensureCapacityInternal_d00df := by
    simpa [TBX] using h
  subst e
  exact sel_private ⟨by decide +kernel, by decide +kernel⟩ (hts _ t_sb) (hts _ t_pv) (hts _ t_in) (hts _ t_sl) rfl) (fun h => hts w h)
theorem cl_known {args : Array Value} {s : State} (hts : ∀ w ∈ lw_tbl, w.before args s = true) : ∃ (dC : Nat → ClassId) (dI : Nat → Nat → Nat), ∀ (k : Nat) (q : vw_C), CL[k]? = some q → u_Kn s q.1 q.2.1 q.2.2 (dC k) (dI k) := by
  have hT := tbl_words hts
  obtain ⟨c0, i0, h0⟩ := u_known (C := "LoanHouse") (T := TX12) (N := 17) (n := 17) hts (fun w h => (gi_X12 w h).1) (hT _ w_777)
  obtain ⟨c1, i1, h1⟩ := u_known (C := "LoanHouse$Tree") (T := TX8) (N := 12) (n := 12) hts (fun w h => (gi_X8 w h).1) (hT _ w_11)
  obtain ⟨c2, i2, h2⟩ := u_known (C := "LoanHouse$Reader") (T := TX6) (N := 18) (n := 18) hts (fun w h => (gi_X6 w h).1) (hT _ w_15)
  obtain ⟨c3, i3, h3⟩ := u_known (C := "LoanHouse$Checker") (T := TX0) (N := 11) (n := 11) hts (fun w h => (gi_X0 w h).1) (hT _ w_19)
  obtain ⟨c4, i4, h4⟩ := u_known (C := "LoanHouse$Emitter") (T := TX1) (N := 10) (n := 10) hts (fun w h => (gi_X1 w h).1) (hT _ w_23)
  obtain ⟨c5, i5, h5⟩ := u_known (C := "LoanHouse$Ways") (T := TX11) (N := 22) (n := 22) hts (fun w h => (gi_X11 w h).1) (hT _ w_27)
  obtain ⟨c6, i6, h6⟩ := u_known (C := "LoanHouse$Machine") (T := TX3) (N := 21) (n := 21) hts (fun w h => (gi_X3 w h).1) (hT _ w_31)
  obtain ⟨c7, i7, h7⟩ := u_known (C := "LoanHouse$Store") (T := TX7) (N := 19) (n := 19) hts (fun w h => (gi_X7 w h).1) (hT _ w_234)
  obtain ⟨c8, i8, h8⟩ := u_known (C := "LoanHouse$Program") (T := TX5) (N := 15) (n := 15) hts (fun w h => (gi_X5 w h).1) (hT _ w_35)
  obtain ⟨c9, i9, h9⟩ := u_known (C := "LoanHouse$Types") (T := TX9) (N := 19) (n := 19) hts (fun w h => (gi_X9 w h).1) (hT _ w_255)
  obtain ⟨c10, i10, h10⟩ := u_known (C := "LoanHouse$Functions") (T := TX2) (N := 19) (n := 19) hts (fun w h => (gi_X2 w h).1) (hT _ w_259)
  obtain ⟨c11, i11, h11⟩ := u_known (C := "LoanHouse$Variables") (T := TX10) (N := 12) (n := 12) hts (fun w h => (gi_X10 w h).1) (hT _ w_263)
  obtain ⟨c12, i12, h12⟩ := u_known (C := "LoanHouse$Places") (T := TX4) (N := 20) (n := 20) hts (fun w h => (gi_X4 w h).1) (hT _ w_267)
  obtain ⟨c13, i13, h13⟩ := u_known (C := "LoanHouseModel") (T := TX30) (N := 95) (n := 95) hts (fun w h => (gi_X30 w h).1) (hT _ w_780)
  obtain ⟨c14, i14, h14⟩ := u_known (C := "LoanHouseModel$Type") (T := TX26) (N := 3) (n := 3) hts (fun w h => (gi_X26 w h).1) (hT _ w_407)
  obtain ⟨c15, i15, h15⟩ := u_known (C := "LoanHouseModel$Program") (T := TX23) (N := 4) (n := 4) hts (fun w h => (gi_X23 w h).1) (hT _ w_472)
  obtain ⟨c16, i16, h16⟩ := u_known (C := "java/lang/StringBuilder") (T := TJ4) (N := 4) (n := 4) hts (fun w h => (gi_J4 w h).1) (hT _ w_395)
  obtain ⟨c17, i17, h17⟩ := u_known (C := "java/lang/String") (T := TJ0) (N := 4) (n := 4) hts (fun w h => (gi_J0 w h).1) (hT _ w_390)
  obtain ⟨c18, i18, h18⟩ := u_known (C := "java/util/ArrayList") (T := TJx4a65c) (N := 3) (n := 3) hts (fun w h => (gi_Jx4a65c w h).1) (hT _ w_401)
  refine ⟨fun k => ([c0, c1, c2, c3, c4, c5, c6, c7, c8, c9, c10, c11, c12, c13, c14, c15, c16, c17, c18] : List Nat).getD k 0, fun k => ([i0, i1, i2, i3, i4, i5, i6, i7, i8, i9, i10, i11, i12, i13, i14, i15, i16, i17, i18] : List (Nat → Nat)).getD k (fun _ => 0), ?_⟩
  intro k q hq
  match k, hq with
  | 0, hq => cases hq; exact h0
  | 1, hq => cases hq; exact h1
  | 2, hq => cases hq; exact h2
  | 3, hq => cases hq; exact h3
  | 4, hq => cases hq; exact h4
  | 5, hq => cases hq; exact h5
  | 6, hq => cases hq; exact h6
  | 7, hq => cases hq; exact h7
  | 8, hq => cases hq; exact h8
  | 9, hq => cases hq; exact h9
  | 10, hq => cases hq; exact h10
  | 11, hq => cases hq; exact h11
  | 12, hq => cases hq; exact h12
  | 13, hq => cases hq; exact h13
  | 14, hq => cases hq; exact h14
  | 15, hq => cases hq; exact h15
  | 16, hq => cases hq; exact h16
  | 17, hq => cases hq; exact h17
  | 18, hq => cases hq; exact h18
  | k + 19, hq => simp [CL] at hq
theorem env_at {args : Array Value} {s : State} (hts : ∀ w ∈ lw_tbl, w.before args s = true) (hfl : ∀ c ∈ FLT, c.before args s = true) (cI cJ cB cZ cS : ClassId) : ∃ K : KS, K 0 = cI ∧ K 1 = cJ ∧ K 2 = cB ∧ K 3 = cZ ∧ K 4 = cS ∧ EV K (fun q => s.heap.size ≤ q) s s.heap := by
  have hA : ∀ a : Nat, a < s.heap.size → ¬ (fun q => s.heap.size ≤ q) a := fun a h => Nat.not_le.mpr h
  obtain ⟨adK, adV, ⟨hS, -⟩, hev⟩ := vk_Sof (args := args) (s := s) (N := 1) (tm := fun _ => Term.string "LoanHouse$Reader" 9) (len := [157]) (byt := [byW]) (A := fun q => s.heap.size ≤ q) (fun i hi => by
    have e : i = 0 := by omega
    subst e
    decide) (fun i _ => hfl _ fW_ex) (fun i _ => hfl _ fW_co) (fun i _ => hfl _ fW_ar) (fun i hi => by
    have e : i = 0 := by omega
    subst e
    exact hfl _ fW_le) (fun i hi j hj => by
    have e : i = 0 := by omega
    subst e
    exact hfl _ (List.mem_of_getElem? (fW_el j hj))) (fun i j hi hj hij => absurd (show i = j by omega) hij) hA
  obtain ⟨w1, w2, w3, w4⟩ := hS 0 (by omega)
  have hev0 := hev 0 (by omega)
  obtain ⟨aE, cE, cellE, kE, e1, e2, e3, e4, e5, e6, -⟩ := Cond.exactly_spec (hfl _ fE_ex)
  obtain ⟨aM, cM, cellM, kM, m1, -, -, -, -, -, -⟩ := Cond.exactly_spec (hfl _ fM_ex)
  obtain ⟨aD, cD, cellD, kD, d1, -, -, -, -, -, -⟩ := Cond.exactly_spec (hfl _ fD)
  refine ⟨fun k => ([cI, cJ, cB, cZ, cS, 0, 0, 0, 0, 0, adK 0, adV 0, aD, aE, aM] : List Nat).getD k 0, rfl, rfl, rfl, rfl, rfl, ?_⟩
  refine ⟨fun w hw => va_Nw.of (nst_tab (nst_ok w hw)) (hts w (nst_in w hw)), fun C hC => ?_, vk_R.of (hts _ t_sW) hev0, vk_R.of (hts _ t_sE) e1, vk_R.of (hts _ t_sM) m1, va_Zof (hts _ t_lC) (hts _ t_iC) (va_eqt (hfl _ fC)) hA, va_Zqof (hts _ t_lF) (hts _ t_iF) (hfl _ fF) hA, va_Zof (hts _ t_lD) (hts _ t_iD) d1 hA, w1, w2, w3, w4, ⟨cellE, e3, e5, by rw [e6]; exact e2, hA aE (Array.getElem?_eq_some_iff.mp e3).1⟩, hts _ t_aoJ⟩
  simp only [AOS, List.mem_cons, List.not_mem_nil, or_false] at hC
  rcases hC with rfl | rfl | rfl | rfl | rfl | rfl | rfl
  · exact va_AO.of (hts _ t_ao0)
  · exact va_AO.of (hts _ t_ao1)
  · exact va_AO.of (hts _ t_ao2)
  · exact va_AO.of (hts _ t_ao3)
  · exact va_AO.of (hts _ t_ao4)
  · exact va_AO.of (hts _ t_ao5)
  · exact va_AO.of (hts _ t_ao6)

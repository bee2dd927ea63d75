-- PART A of the skeleton, cut to the private methods that are reached
/-- a private method of a class that the tables say can be made, by its rows of tables_1 -/
def lw_okq (q : MethodName × Nat) : Prop := (q.1.cls ≠ "java/lang/invoke/MethodHandle" ∧ q.1.cls ≠ "java/lang/invoke/VarHandle") ∧ Cond.instantiable q.1.cls q.2 ∈ tables_1 ∧ Cond.privateMethod q.1 ∈ tables_1 ∧ Cond.instanceMethod q.1 ∈ tables_1
theorem lw_p0 : lw_okq (⟨"LoanHouse", "feedNumber", "(I)V"⟩, 17) := ⟨⟨by decide +kernel, by decide +kernel⟩, List.mem_of_getElem? (i := 52) (by decide +kernel), List.mem_of_getElem? (i := 1077) (by decide +kernel), List.mem_of_getElem? (i := 1078) (by decide +kernel)⟩
theorem lw_p1 : lw_okq (⟨"LoanHouse", "judgeTree", "(I)I"⟩, 17) := ⟨⟨by decide +kernel, by decide +kernel⟩, List.mem_of_getElem? (i := 52) (by decide +kernel), List.mem_of_getElem? (i := 1362) (by decide +kernel), List.mem_of_getElem? (i := 1363) (by decide +kernel)⟩
theorem lw_p2 : lw_okq (⟨"LoanHouse$Tree", "clear", "()V"⟩, 12) := ⟨⟨by decide +kernel, by decide +kernel⟩, List.mem_of_getElem? (i := 60) (by decide +kernel), List.mem_of_getElem? (i := 1195) (by decide +kernel), List.mem_of_getElem? (i := 1196) (by decide +kernel)⟩
theorem lw_p3 : lw_okq (⟨"LoanHouse$Tree", "add", "(II)I"⟩, 12) := ⟨⟨by decide +kernel, by decide +kernel⟩, List.mem_of_getElem? (i := 60) (by decide +kernel), List.mem_of_getElem? (i := 1203) (by decide +kernel), List.mem_of_getElem? (i := 1204) (by decide +kernel)⟩
theorem lw_p4 : lw_okq (⟨"LoanHouse$Reader", "read", "([BI)I"⟩, 18) := ⟨⟨by decide +kernel, by decide +kernel⟩, List.mem_of_getElem? (i := 136) (by decide +kernel), List.mem_of_getElem? (i := 1085) (by decide +kernel), List.mem_of_getElem? (i := 1086) (by decide +kernel)⟩
theorem lw_p5 : lw_okq (⟨"LoanHouse$Reader", "takeWords", "()V"⟩, 18) := ⟨⟨by decide +kernel, by decide +kernel⟩, List.mem_of_getElem? (i := 136) (by decide +kernel), List.mem_of_getElem? (i := 1092) (by decide +kernel), List.mem_of_getElem? (i := 1093) (by decide +kernel)⟩
theorem lw_p6 : lw_okq (⟨"LoanHouse$Reader", "nameOf", "(II)I"⟩, 18) := ⟨⟨by decide +kernel, by decide +kernel⟩, List.mem_of_getElem? (i := 136) (by decide +kernel), List.mem_of_getElem? (i := 1096) (by decide +kernel), List.mem_of_getElem? (i := 1097) (by decide +kernel)⟩
theorem lw_p7 : lw_okq (⟨"LoanHouse$Reader", "alike", "(III)Z"⟩, 18) := ⟨⟨by decide +kernel, by decide +kernel⟩, List.mem_of_getElem? (i := 136) (by decide +kernel), List.mem_of_getElem? (i := 1100) (by decide +kernel), List.mem_of_getElem? (i := 1101) (by decide +kernel)⟩
theorem lw_p8 : lw_okq (⟨"LoanHouse$Reader", "takeTokens", "()V"⟩, 18) := ⟨⟨by decide +kernel, by decide +kernel⟩, List.mem_of_getElem? (i := 136) (by decide +kernel), List.mem_of_getElem? (i := 1104) (by decide +kernel), List.mem_of_getElem? (i := 1105) (by decide +kernel)⟩
theorem lw_p9 : lw_okq (⟨"LoanHouse$Reader", "skipBlanks", "()V"⟩, 18) := ⟨⟨by decide +kernel, by decide +kernel⟩, List.mem_of_getElem? (i := 136) (by decide +kernel), List.mem_of_getElem? (i := 1108) (by decide +kernel), List.mem_of_getElem? (i := 1109) (by decide +kernel)⟩
theorem lw_p10 : lw_okq (⟨"LoanHouse$Reader", "advance", "()V"⟩, 18) := ⟨⟨by decide +kernel, by decide +kernel⟩, List.mem_of_getElem? (i := 136) (by decide +kernel), List.mem_of_getElem? (i := 1199) (by decide +kernel), List.mem_of_getElem? (i := 1200) (by decide +kernel)⟩
theorem lw_p11 : lw_okq (⟨"LoanHouse$Checker", "check", "(LLoanHouse$Program;I)I"⟩, 11) := ⟨⟨by decide +kernel, by decide +kernel⟩, List.mem_of_getElem? (i := 246) (by decide +kernel), List.mem_of_getElem? (i := 1386) (by decide +kernel), List.mem_of_getElem? (i := 1387) (by decide +kernel)⟩
theorem lw_p12 : lw_okq (⟨"LoanHouse$Checker", "declareAll", "(I)V"⟩, 11) := ⟨⟨by decide +kernel, by decide +kernel⟩, List.mem_of_getElem? (i := 246) (by decide +kernel), List.mem_of_getElem? (i := 1391) (by decide +kernel), List.mem_of_getElem? (i := 1392) (by decide +kernel)⟩
theorem lw_p13 : lw_okq (⟨"LoanHouse$Checker", "measures", "(I)V"⟩, 11) := ⟨⟨by decide +kernel, by decide +kernel⟩, List.mem_of_getElem? (i := 246) (by decide +kernel), List.mem_of_getElem? (i := 1514) (by decide +kernel), List.mem_of_getElem? (i := 1515) (by decide +kernel)⟩
theorem lw_p14 : lw_okq (⟨"LoanHouse$Checker", "mainFunction", "(I)V"⟩, 11) := ⟨⟨by decide +kernel, by decide +kernel⟩, List.mem_of_getElem? (i := 246) (by decide +kernel), List.mem_of_getElem? (i := 1709) (by decide +kernel), List.mem_of_getElem? (i := 1710) (by decide +kernel)⟩
theorem lw_p15 : lw_okq (⟨"LoanHouse$Checker", "broken", "(I)V"⟩, 11) := ⟨⟨by decide +kernel, by decide +kernel⟩, List.mem_of_getElem? (i := 246) (by decide +kernel), List.mem_of_getElem? (i := 1399) (by decide +kernel), List.mem_of_getElem? (i := 1400) (by decide +kernel)⟩
theorem lw_p16 : lw_okq (⟨"LoanHouse$Program", "clear", "()V"⟩, 15) := ⟨⟨by decide +kernel, by decide +kernel⟩, List.mem_of_getElem? (i := 547) (by decide +kernel), List.mem_of_getElem? (i := 1366) (by decide +kernel), List.mem_of_getElem? (i := 1367) (by decide +kernel)⟩
theorem lw_p17 : lw_okq (⟨"LoanHouse$Types", "clear", "()V"⟩, 19) := ⟨⟨by decide +kernel, by decide +kernel⟩, List.mem_of_getElem? (i := 553) (by decide +kernel), List.mem_of_getElem? (i := 1370) (by decide +kernel), List.mem_of_getElem? (i := 1371) (by decide +kernel)⟩
theorem lw_p18 : lw_okq (⟨"LoanHouse$Types", "measure", "()V"⟩, 19) := ⟨⟨by decide +kernel, by decide +kernel⟩, List.mem_of_getElem? (i := 553) (by decide +kernel), List.mem_of_getElem? (i := 1467) (by decide +kernel), List.mem_of_getElem? (i := 1468) (by decide +kernel)⟩
theorem lw_p19 : lw_okq (⟨"LoanHouse$Functions", "clear", "()V"⟩, 19) := ⟨⟨by decide +kernel, by decide +kernel⟩, List.mem_of_getElem? (i := 653) (by decide +kernel), List.mem_of_getElem? (i := 1374) (by decide +kernel), List.mem_of_getElem? (i := 1375) (by decide +kernel)⟩
theorem lw_p20 : lw_okq (⟨"LoanHouse$Variables", "clear", "()V"⟩, 12) := ⟨⟨by decide +kernel, by decide +kernel⟩, List.mem_of_getElem? (i := 764) (by decide +kernel), List.mem_of_getElem? (i := 1378) (by decide +kernel), List.mem_of_getElem? (i := 1379) (by decide +kernel)⟩
theorem lw_p21 : lw_okq (⟨"LoanHouse$Places", "clear", "()V"⟩, 20) := ⟨⟨by decide +kernel, by decide +kernel⟩, List.mem_of_getElem? (i := 826) (by decide +kernel), List.mem_of_getElem? (i := 1382) (by decide +kernel), List.mem_of_getElem? (i := 1383) (by decide +kernel)⟩
theorem lw_p22 : lw_okq (⟨"LoanHouseModel", "split", "(I)V"⟩, 95) := ⟨⟨by decide +kernel, by decide +kernel⟩, List.mem_of_getElem? (i := 2346) (by decide +kernel), List.mem_of_getElem? (i := 2730) (by decide +kernel), List.mem_of_getElem? (i := 2731) (by decide +kernel)⟩
theorem lw_p23 : lw_okq (⟨"LoanHouseModel", "token", "(III)V"⟩, 95) := ⟨⟨by decide +kernel, by decide +kernel⟩, List.mem_of_getElem? (i := 2346) (by decide +kernel), List.mem_of_getElem? (i := 2750) (by decide +kernel), List.mem_of_getElem? (i := 2751) (by decide +kernel)⟩
theorem lw_p24 : lw_okq (⟨"LoanHouseModel", "known", "(II)Ljava/lang/String;"⟩, 95) := ⟨⟨by decide +kernel, by decide +kernel⟩, List.mem_of_getElem? (i := 2346) (by decide +kernel), List.mem_of_getElem? (i := 2918) (by decide +kernel), List.mem_of_getElem? (i := 2919) (by decide +kernel)⟩
theorem lw_p25 : lw_okq (⟨"LoanHouseModel", "isLate", "(Ljava/lang/String;II)Z"⟩, 95) := ⟨⟨by decide +kernel, by decide +kernel⟩, List.mem_of_getElem? (i := 2346) (by decide +kernel), List.mem_of_getElem? (i := 2922) (by decide +kernel), List.mem_of_getElem? (i := 2923) (by decide +kernel)⟩
theorem lw_p26 : lw_okq (⟨"LoanHouseModel", "word", "(II)Ljava/lang/String;"⟩, 95) := ⟨⟨by decide +kernel, by decide +kernel⟩, List.mem_of_getElem? (i := 2346) (by decide +kernel), List.mem_of_getElem? (i := 2765) (by decide +kernel), List.mem_of_getElem? (i := 2766) (by decide +kernel)⟩
theorem lw_p27 : lw_okq (⟨"LoanHouseModel", "readText", "()V"⟩, 95) := ⟨⟨by decide +kernel, by decide +kernel⟩, List.mem_of_getElem? (i := 2346) (by decide +kernel), List.mem_of_getElem? (i := 2962) (by decide +kernel), List.mem_of_getElem? (i := 2963) (by decide +kernel)⟩
theorem lw_p28 : lw_okq (⟨"LoanHouseModel", "isOver", "()Z"⟩, 95) := ⟨⟨by decide +kernel, by decide +kernel⟩, List.mem_of_getElem? (i := 2346) (by decide +kernel), List.mem_of_getElem? (i := 2966) (by decide +kernel), List.mem_of_getElem? (i := 2967) (by decide +kernel)⟩
theorem lw_p29 : lw_okq (⟨"LoanHouseModel", "ruleItems", "()V"⟩, 95) := ⟨⟨by decide +kernel, by decide +kernel⟩, List.mem_of_getElem? (i := 2346) (by decide +kernel), List.mem_of_getElem? (i := 3765) (by decide +kernel), List.mem_of_getElem? (i := 3766) (by decide +kernel)⟩
theorem lw_p30 : lw_okq (⟨"LoanHouseModel", "ruleFns", "()V"⟩, 95) := ⟨⟨by decide +kernel, by decide +kernel⟩, List.mem_of_getElem? (i := 2346) (by decide +kernel), List.mem_of_getElem? (i := 3817) (by decide +kernel), List.mem_of_getElem? (i := 3818) (by decide +kernel)⟩
theorem lw_p31 : lw_okq (⟨"LoanHouseModel", "fnOf", "(Ljava/lang/String;)LLoanHouseModel$Fn;"⟩, 95) := ⟨⟨by decide +kernel, by decide +kernel⟩, List.mem_of_getElem? (i := 2346) (by decide +kernel), List.mem_of_getElem? (i := 3821) (by decide +kernel), List.mem_of_getElem? (i := 3822) (by decide +kernel)⟩
theorem lw_p32 : lw_okq (⟨"LoanHouseModel", "wrong", "(I)V"⟩, 95) := ⟨⟨by decide +kernel, by decide +kernel⟩, List.mem_of_getElem? (i := 2346) (by decide +kernel), List.mem_of_getElem? (i := 3769) (by decide +kernel), List.mem_of_getElem? (i := 3770) (by decide +kernel)⟩
theorem lw_p33 : lw_okq (⟨"LoanHouseModel", "breaks", "(III)V"⟩, 95) := ⟨⟨by decide +kernel, by decide +kernel⟩, List.mem_of_getElem? (i := 2346) (by decide +kernel), List.mem_of_getElem? (i := 3058) (by decide +kernel), List.mem_of_getElem? (i := 3059) (by decide +kernel)⟩
theorem lw_p34 : lw_okq (⟨"LoanHouseModel", "give", "(LLoanHouseModel$Fn;LLoanHouseModel$Var;J)V"⟩, 95) := ⟨⟨by decide +kernel, by decide +kernel⟩, List.mem_of_getElem? (i := 2346) (by decide +kernel), List.mem_of_getElem? (i := 4261) (by decide +kernel), List.mem_of_getElem? (i := 4262) (by decide +kernel)⟩
theorem lw_p35 : lw_okq (⟨"LoanHouseModel", "out", "(IJ)V"⟩, 95) := ⟨⟨by decide +kernel, by decide +kernel⟩, List.mem_of_getElem? (i := 2346) (by decide +kernel), List.mem_of_getElem? (i := 4507) (by decide +kernel), List.mem_of_getElem? (i := 4508) (by decide +kernel)⟩
theorem lw_p36 : lw_okq (⟨"LoanHouseModel", "place", "(LLoanHouseModel$Place;I)V"⟩, 95) := ⟨⟨by decide +kernel, by decide +kernel⟩, List.mem_of_getElem? (i := 2346) (by decide +kernel), List.mem_of_getElem? (i := 3900) (by decide +kernel), List.mem_of_getElem? (i := 3901) (by decide +kernel)⟩
def lw_privs : List (MethodName × Nat) := [(⟨"LoanHouse", "feedNumber", "(I)V"⟩, 17), (⟨"LoanHouse", "judgeTree", "(I)I"⟩, 17), (⟨"LoanHouse$Tree", "clear", "()V"⟩, 12), (⟨"LoanHouse$Tree", "add", "(II)I"⟩, 12), (⟨"LoanHouse$Reader", "read", "([BI)I"⟩, 18), (⟨"LoanHouse$Reader", "takeWords", "()V"⟩, 18), (⟨"LoanHouse$Reader", "nameOf", "(II)I"⟩, 18), (⟨"LoanHouse$Reader", "alike", "(III)Z"⟩, 18), (⟨"LoanHouse$Reader", "takeTokens", "()V"⟩, 18), (⟨"LoanHouse$Reader", "skipBlanks", "()V"⟩, 18), (⟨"LoanHouse$Reader", "advance", "()V"⟩, 18), (⟨"LoanHouse$Checker", "check", "(LLoanHouse$Program;I)I"⟩, 11), (⟨"LoanHouse$Checker", "declareAll", "(I)V"⟩, 11), (⟨"LoanHouse$Checker", "measures", "(I)V"⟩, 11), (⟨"LoanHouse$Checker", "mainFunction", "(I)V"⟩, 11), (⟨"LoanHouse$Checker", "broken", "(I)V"⟩, 11), (⟨"LoanHouse$Program", "clear", "()V"⟩, 15), (⟨"LoanHouse$Types", "clear", "()V"⟩, 19), (⟨"LoanHouse$Types", "measure", "()V"⟩, 19), (⟨"LoanHouse$Functions", "clear", "()V"⟩, 19), (⟨"LoanHouse$Variables", "clear", "()V"⟩, 12), (⟨"LoanHouse$Places", "clear", "()V"⟩, 20), (⟨"LoanHouseModel", "split", "(I)V"⟩, 95), (⟨"LoanHouseModel", "token", "(III)V"⟩, 95), (⟨"LoanHouseModel", "known", "(II)Ljava/lang/String;"⟩, 95), (⟨"LoanHouseModel", "isLate", "(Ljava/lang/String;II)Z"⟩, 95), (⟨"LoanHouseModel", "word", "(II)Ljava/lang/String;"⟩, 95), (⟨"LoanHouseModel", "readText", "()V"⟩, 95), (⟨"LoanHouseModel", "isOver", "()Z"⟩, 95), (⟨"LoanHouseModel", "ruleItems", "()V"⟩, 95), (⟨"LoanHouseModel", "ruleFns", "()V"⟩, 95), (⟨"LoanHouseModel", "fnOf", "(Ljava/lang/String;)LLoanHouseModel$Fn;"⟩, 95), (⟨"LoanHouseModel", "wrong", "(I)V"⟩, 95), (⟨"LoanHouseModel", "breaks", "(III)V"⟩, 95), (⟨"LoanHouseModel", "give", "(LLoanHouseModel$Fn;LLoanHouseModel$Var;J)V"⟩, 95), (⟨"LoanHouseModel", "out", "(IJ)V"⟩, 95), (⟨"LoanHouseModel", "place", "(LLoanHouseModel$Place;I)V"⟩, 95)]
theorem lw_privs_ok : ∀ q ∈ lw_privs, lw_okq q := List.forall_mem_cons.mpr ⟨lw_p0, List.forall_mem_cons.mpr ⟨lw_p1, List.forall_mem_cons.mpr ⟨lw_p2, List.forall_mem_cons.mpr ⟨lw_p3, List.forall_mem_cons.mpr ⟨lw_p4, List.forall_mem_cons.mpr ⟨lw_p5, List.forall_mem_cons.mpr ⟨lw_p6, List.forall_mem_cons.mpr ⟨lw_p7, List.forall_mem_cons.mpr ⟨lw_p8, List.forall_mem_cons.mpr ⟨lw_p9, List.forall_mem_cons.mpr ⟨lw_p10, List.forall_mem_cons.mpr ⟨lw_p11, List.forall_mem_cons.mpr ⟨lw_p12, List.forall_mem_cons.mpr ⟨lw_p13, List.forall_mem_cons.mpr ⟨lw_p14, List.forall_mem_cons.mpr ⟨lw_p15, List.forall_mem_cons.mpr ⟨lw_p16, List.forall_mem_cons.mpr ⟨lw_p17, List.forall_mem_cons.mpr ⟨lw_p18, List.forall_mem_cons.mpr ⟨lw_p19, List.forall_mem_cons.mpr ⟨lw_p20, List.forall_mem_cons.mpr ⟨lw_p21, List.forall_mem_cons.mpr ⟨lw_p22, List.forall_mem_cons.mpr ⟨lw_p23, List.forall_mem_cons.mpr ⟨lw_p24, List.forall_mem_cons.mpr ⟨lw_p25, List.forall_mem_cons.mpr ⟨lw_p26, List.forall_mem_cons.mpr ⟨lw_p27, List.forall_mem_cons.mpr ⟨lw_p28, List.forall_mem_cons.mpr ⟨lw_p29, List.forall_mem_cons.mpr ⟨lw_p30, List.forall_mem_cons.mpr ⟨lw_p31, List.forall_mem_cons.mpr ⟨lw_p32, List.forall_mem_cons.mpr ⟨lw_p33, List.forall_mem_cons.mpr ⟨lw_p34, List.forall_mem_cons.mpr ⟨lw_p35, List.forall_mem_cons.mpr ⟨lw_p36, fun _ h => absurd h List.not_mem_nil⟩⟩⟩⟩⟩⟩⟩⟩⟩⟩⟩⟩⟩⟩⟩⟩⟩⟩⟩⟩⟩⟩⟩⟩⟩⟩⟩⟩⟩⟩⟩⟩⟩⟩⟩⟩⟩
def lw_tbl : List Cond := k2_sels lw_privs ++ tables_1
theorem goodIn_r {big : List Cond} (ws : List Cond) (ps : List Nat) (hp : ws = ps.filterMap (fun i => big[i]?)) (h : ws.all goodWord = true) : GoodIn big ws := by
  intro w hw
  have h1 := List.all_eq_true.mp h w hw
  rw [hp] at hw
  obtain ⟨i, -, hi⟩ := List.mem_filterMap.mp hw
  have hm : w ∈ big := by first | exact List.mem_of_getElem? hi | exact List.getElem?_mem hi
  exact ⟨hm, good_of_word h1⟩
theorem goodIn_app {big a b : List Cond} (ha : GoodIn big a) (hb : GoodIn big b) : GoodIn big (a ++ b) := fun w h => (List.mem_append.mp h).elim (ha w) (hb w)
def TX12 : u_T := fun k => match k with
  | 0 => ("LoanHouse", "text", "[B", true)
  | 1 => ("LoanHouse", "textLength", "I", false)
  | 2 => ("LoanHouse", "given", "[J", true)
  | 3 => ("LoanHouse", "givenTotal", "I", false)
  | 4 => ("LoanHouse", "tree", "LLoanHouse$Tree;", true)
  | 5 => ("LoanHouse", "reader", "LLoanHouse$Reader;", true)
  | 6 => ("LoanHouse", "checker", "LLoanHouse$Checker;", true)
  | 7 => ("LoanHouse", "emitter", "LLoanHouse$Emitter;", true)
  | 8 => ("LoanHouse", "ways", "LLoanHouse$Ways;", true)
  | 9 => ("LoanHouse", "machine", "LLoanHouse$Machine;", true)
  | 10 => ("LoanHouse", "program", "LLoanHouse$Program;", false)
  | 11 => ("LoanHouse", "next", "LLoanHouse$Program;", false)
  | 12 => ("LoanHouse", "hasProgram", "Z", false)
  | 13 => ("LoanHouse", "hasRun", "Z", false)
  | 14 => ("LoanHouse", "faultKind", "I", false)
  | 15 => ("LoanHouse", "faultPlace", "I", false)
  | _ => ("LoanHouse", "faultOther", "I", false)
def tyX12 : Nat → FieldType := fun k => match k with
  | 0 => .array .byte
  | 1 => .int
  | 2 => .array .long
  | 3 => .int
  | 4 => .object "LoanHouse$Tree"
  | 5 => .object "LoanHouse$Reader"
  | 6 => .object "LoanHouse$Checker"
  | 7 => .object "LoanHouse$Emitter"
  | 8 => .object "LoanHouse$Ways"
  | 9 => .object "LoanHouse$Machine"
  | 10 => .object "LoanHouse$Program"
  | 11 => .object "LoanHouse$Program"
  | 12 => .boolean
  | 13 => .boolean
  | 14 => .int
  | 15 => .int
  | _ => .int
abbrev wsX120 : List Cond := u_ws "LoanHouse" TX12 17
theorem nmX12 : ∀ a, a < 17 → ∀ b, b < 17 → a ≠ b → (TX12 a).2.1 ≠ (TX12 b).2.1 := by decide +kernel
theorem tyX12_ok : ∀ k, k < 17 → parseFieldDescriptor (TX12 k).2.2.1 = some (tyX12 k) := by decide +kernel
def TX8 : u_T := fun k => match k with
  | 0 => ("LoanHouse$Tree", "kind", "[I", true)
  | 1 => ("LoanHouse$Tree", "pos", "[I", true)
  | 2 => ("LoanHouse$Tree", "from", "[I", true)
  | 3 => ("LoanHouse$Tree", "name", "[I", true)
  | 4 => ("LoanHouse$Tree", "a", "[I", true)
  | 5 => ("LoanHouse$Tree", "b", "[I", true)
  | 6 => ("LoanHouse$Tree", "c", "[I", true)
  | 7 => ("LoanHouse$Tree", "next", "[I", true)
  | 8 => ("LoanHouse$Tree", "value", "[J", true)
  | 9 => ("LoanHouse$Tree", "type", "[I", true)
  | 10 => ("LoanHouse$Tree", "ref", "[I", true)
  | _ => ("LoanHouse$Tree", "total", "I", false)
def tyX8 : Nat → FieldType := fun k => match k with
  | 0 => .array .int
  | 1 => .array .int
  | 2 => .array .int
  | 3 => .array .int
  | 4 => .array .int
  | 5 => .array .int
  | 6 => .array .int
  | 7 => .array .int
  | 8 => .array .long
  | 9 => .array .int
  | 10 => .array .int
  | _ => .int
abbrev wsX80 : List Cond := u_ws "LoanHouse$Tree" TX8 12
theorem nmX8 : ∀ a, a < 12 → ∀ b, b < 12 → a ≠ b → (TX8 a).2.1 ≠ (TX8 b).2.1 := by decide +kernel
theorem tyX8_ok : ∀ k, k < 12 → parseFieldDescriptor (TX8 k).2.2.1 = some (tyX8 k) := by decide +kernel
def TX6 : u_T := fun k => match k with
  | 0 => ("LoanHouse$Reader", "tree", "LLoanHouse$Tree;", true)
  | 1 => ("LoanHouse$Reader", "pool", "[B", true)
  | 2 => ("LoanHouse$Reader", "nameStart", "[I", true)
  | 3 => ("LoanHouse$Reader", "nameLength", "[I", true)
  | 4 => ("LoanHouse$Reader", "nameNext", "[I", true)
  | 5 => ("LoanHouse$Reader", "heads", "[I", true)
  | 6 => ("LoanHouse$Reader", "names", "I", false)
  | 7 => ("LoanHouse$Reader", "at", "I", false)
  | 8 => ("LoanHouse$Reader", "end", "I", false)
  | 9 => ("LoanHouse$Reader", "tokenKind", "[I", true)
  | 10 => ("LoanHouse$Reader", "tokenPos", "[I", true)
  | 11 => ("LoanHouse$Reader", "tokenValue", "[J", true)
  | 12 => ("LoanHouse$Reader", "tokens", "I", false)
  | 13 => ("LoanHouse$Reader", "current", "I", false)
  | 14 => ("LoanHouse$Reader", "kind", "I", false)
  | 15 => ("LoanHouse$Reader", "pos", "I", false)
  | 16 => ("LoanHouse$Reader", "open", "I", false)
  | _ => ("LoanHouse$Reader", "wrong", "I", false)
def tyX6 : Nat → FieldType := fun k => match k with
  | 0 => .object "LoanHouse$Tree"
  | 1 => .array .byte
  | 2 => .array .int
  | 3 => .array .int
  | 4 => .array .int
  | 5 => .array .int
  | 6 => .int
  | 7 => .int
  | 8 => .int
  | 9 => .array .int
  | 10 => .array .int
  | 11 => .array .long
  | 12 => .int
  | 13 => .int
  | 14 => .int
  | 15 => .int
  | 16 => .int
  | _ => .int
abbrev wsX60 : List Cond := u_ws "LoanHouse$Reader" TX6 18
theorem nmX6 : ∀ a, a < 18 → ∀ b, b < 18 → a ≠ b → (TX6 a).2.1 ≠ (TX6 b).2.1 := by decide +kernel
theorem tyX6_ok : ∀ k, k < 18 → parseFieldDescriptor (TX6 k).2.2.1 = some (tyX6 k) := by decide +kernel
def TX0 : u_T := fun k => match k with
  | 0 => ("LoanHouse$Checker", "tree", "LLoanHouse$Tree;", true)
  | 1 => ("LoanHouse$Checker", "types", "LLoanHouse$Types;", false)
  | 2 => ("LoanHouse$Checker", "functions", "LLoanHouse$Functions;", false)
  | 3 => ("LoanHouse$Checker", "variables", "LLoanHouse$Variables;", false)
  | 4 => ("LoanHouse$Checker", "places", "LLoanHouse$Places;", false)
  | 5 => ("LoanHouse$Checker", "least", "I", false)
  | 6 => ("LoanHouse$Checker", "fn", "I", false)
  | 7 => ("LoanHouse$Checker", "top", "I", false)
  | 8 => ("LoanHouse$Checker", "whiles", "I", false)
  | 9 => ("LoanHouse$Checker", "shared", "Z", false)
  | _ => ("LoanHouse$Checker", "movable", "Z", false)
def tyX0 : Nat → FieldType := fun k => match k with
  | 0 => .object "LoanHouse$Tree"
  | 1 => .object "LoanHouse$Types"
  | 2 => .object "LoanHouse$Functions"
  | 3 => .object "LoanHouse$Variables"
  | 4 => .object "LoanHouse$Places"
  | 5 => .int
  | 6 => .int
  | 7 => .int
  | 8 => .int
  | 9 => .boolean
  | _ => .boolean
abbrev wsX00 : List Cond := u_ws "LoanHouse$Checker" TX0 11
theorem nmX0 : ∀ a, a < 11 → ∀ b, b < 11 → a ≠ b → (TX0 a).2.1 ≠ (TX0 b).2.1 := by decide +kernel
theorem tyX0_ok : ∀ k, k < 11 → parseFieldDescriptor (TX0 k).2.2.1 = some (tyX0 k) := by decide +kernel
def TX1 : u_T := fun k => match k with
  | 0 => ("LoanHouse$Emitter", "tree", "LLoanHouse$Tree;", true)
  | 1 => ("LoanHouse$Emitter", "program", "LLoanHouse$Program;", false)
  | 2 => ("LoanHouse$Emitter", "types", "LLoanHouse$Types;", false)
  | 3 => ("LoanHouse$Emitter", "functions", "LLoanHouse$Functions;", false)
  | 4 => ("LoanHouse$Emitter", "variables", "LLoanHouse$Variables;", false)
  | 5 => ("LoanHouse$Emitter", "places", "LLoanHouse$Places;", false)
  | 6 => ("LoanHouse$Emitter", "top", "I", false)
  | 7 => ("LoanHouse$Emitter", "loopStart", "I", false)
  | 8 => ("LoanHouse$Emitter", "loopBreaks", "I", false)
  | _ => ("LoanHouse$Emitter", "loopOuter", "I", false)
def tyX1 : Nat → FieldType := fun k => match k with
  | 0 => .object "LoanHouse$Tree"
  | 1 => .object "LoanHouse$Program"
  | 2 => .object "LoanHouse$Types"
  | 3 => .object "LoanHouse$Functions"
  | 4 => .object "LoanHouse$Variables"
  | 5 => .object "LoanHouse$Places"
  | 6 => .int
  | 7 => .int
  | 8 => .int
  | _ => .int
abbrev wsX10 : List Cond := u_ws "LoanHouse$Emitter" TX1 10
theorem nmX1 : ∀ a, a < 10 → ∀ b, b < 10 → a ≠ b → (TX1 a).2.1 ≠ (TX1 b).2.1 := by decide +kernel
theorem tyX1_ok : ∀ k, k < 10 → parseFieldDescriptor (TX1 k).2.2.1 = some (tyX1 k) := by decide +kernel
def TX11 : u_T := fun k => match k with
  | 0 => ("LoanHouse$Ways", "program", "LLoanHouse$Program;", false)
  | 1 => ("LoanHouse$Ways", "functions", "LLoanHouse$Functions;", false)
  | 2 => ("LoanHouse$Ways", "variables", "LLoanHouse$Variables;", false)
  | 3 => ("LoanHouse$Ways", "places", "LLoanHouse$Places;", false)
  | 4 => ("LoanHouse$Ways", "fn", "I", false)
  | 5 => ("LoanHouse$Ways", "first", "I", false)
  | 6 => ("LoanHouse$Ways", "state", "[J", true)
  | 7 => ("LoanHouse$Ways", "come", "Z", false)
  | 8 => ("LoanHouse$Ways", "labelState", "[J", false)
  | 9 => ("LoanHouse$Ways", "labelCome", "[Z", false)
  | 10 => ("LoanHouse$Ways", "changed", "Z", false)
  | 11 => ("LoanHouse$Ways", "splits", "J", false)
  | 12 => ("LoanHouse$Ways", "temps", "[J", true)
  | 13 => ("LoanHouse$Ways", "depth", "I", false)
  | 14 => ("LoanHouse$Ways", "matched", "[J", true)
  | 15 => ("LoanHouse$Ways", "matchHolds", "J", false)
  | 16 => ("LoanHouse$Ways", "used", "[J", true)
  | 17 => ("LoanHouse$Ways", "met", "[Z", true)
  | 18 => ("LoanHouse$Ways", "straySlot", "I", false)
  | 19 => ("LoanHouse$Ways", "strayLeaf", "I", false)
  | 20 => ("LoanHouse$Ways", "clashPlace", "I", false)
  | _ => ("LoanHouse$Ways", "clashOther", "I", false)
def tyX11 : Nat → FieldType := fun k => match k with
  | 0 => .object "LoanHouse$Program"
  | 1 => .object "LoanHouse$Functions"
  | 2 => .object "LoanHouse$Variables"
  | 3 => .object "LoanHouse$Places"
  | 4 => .int
  | 5 => .int
  | 6 => .array .long
  | 7 => .boolean
  | 8 => .array .long
  | 9 => .array .boolean
  | 10 => .boolean
  | 11 => .long
  | 12 => .array .long
  | 13 => .int
  | 14 => .array .long
  | 15 => .long
  | 16 => .array .long
  | 17 => .array .boolean
  | 18 => .int
  | 19 => .int
  | 20 => .int
  | _ => .int
abbrev wsX110 : List Cond := u_ws "LoanHouse$Ways" TX11 22
theorem nmX11 : ∀ a, a < 22 → ∀ b, b < 22 → a ≠ b → (TX11 a).2.1 ≠ (TX11 b).2.1 := by decide +kernel
theorem tyX11_ok : ∀ k, k < 22 → parseFieldDescriptor (TX11 k).2.2.1 = some (tyX11 k) := by decide +kernel
def TX3 : u_T := fun k => match k with
  | 0 => ("LoanHouse$Machine", "store", "LLoanHouse$Store;", true)
  | 1 => ("LoanHouse$Machine", "program", "LLoanHouse$Program;", false)
  | 2 => ("LoanHouse$Machine", "types", "LLoanHouse$Types;", false)
  | 3 => ("LoanHouse$Machine", "functions", "LLoanHouse$Functions;", false)
  | 4 => ("LoanHouse$Machine", "variables", "LLoanHouse$Variables;", false)
  | 5 => ("LoanHouse$Machine", "places", "LLoanHouse$Places;", false)
  | 6 => ("LoanHouse$Machine", "fn", "I", false)
  | 7 => ("LoanHouse$Machine", "base", "I", false)
  | 8 => ("LoanHouse$Machine", "held", "J", false)
  | 9 => ("LoanHouse$Machine", "next", "I", false)
  | 10 => ("LoanHouse$Machine", "waiting", "[[J", true)
  | 11 => ("LoanHouse$Machine", "calls", "I", false)
  | 12 => ("LoanHouse$Machine", "parts", "[J", true)
  | 13 => ("LoanHouse$Machine", "given", "[J", false)
  | 14 => ("LoanHouse$Machine", "givenTotal", "I", false)
  | 15 => ("LoanHouse$Machine", "reads", "I", false)
  | 16 => ("LoanHouse$Machine", "steps", "I", false)
  | 17 => ("LoanHouse$Machine", "mostSteps", "I", false)
  | 18 => ("LoanHouse$Machine", "ended", "I", false)
  | 19 => ("LoanHouse$Machine", "why", "I", false)
  | _ => ("LoanHouse$Machine", "failedAt", "I", false)
def tyX3 : Nat → FieldType := fun k => match k with
  | 0 => .object "LoanHouse$Store"
  | 1 => .object "LoanHouse$Program"
  | 2 => .object "LoanHouse$Types"
  | 3 => .object "LoanHouse$Functions"
  | 4 => .object "LoanHouse$Variables"
  | 5 => .object "LoanHouse$Places"
  | 6 => .int
  | 7 => .int
  | 8 => .long
  | 9 => .int
  | 10 => .array (.array .long)
  | 11 => .int
  | 12 => .array .long
  | 13 => .array .long
  | 14 => .int
  | 15 => .int
  | 16 => .int
  | 17 => .int
  | 18 => .int
  | 19 => .int
  | _ => .int
abbrev wsX30 : List Cond := u_ws "LoanHouse$Machine" TX3 21
theorem nmX3 : ∀ a, a < 21 → ∀ b, b < 21 → a ≠ b → (TX3 a).2.1 ≠ (TX3 b).2.1 := by decide +kernel
theorem tyX3_ok : ∀ k, k < 21 → parseFieldDescriptor (TX3 k).2.2.1 = some (tyX3 k) := by decide +kernel
def TX7 : u_T := fun k => match k with
  | 0 => ("LoanHouse$Store", "types", "LLoanHouse$Types;", false)
  | 1 => ("LoanHouse$Store", "cells", "[J", false)
  | 2 => ("LoanHouse$Store", "top", "I", false)
  | 3 => ("LoanHouse$Store", "boxUsed", "[Z", true)
  | 4 => ("LoanHouse$Store", "boxes", "I", false)
  | 5 => ("LoanHouse$Store", "mostBoxes", "I", false)
  | 6 => ("LoanHouse$Store", "rowUsed", "[Z", true)
  | 7 => ("LoanHouse$Store", "rowLength", "[I", true)
  | 8 => ("LoanHouse$Store", "rows", "I", false)
  | 9 => ("LoanHouse$Store", "mostRows", "I", false)
  | 10 => ("LoanHouse$Store", "outKind", "[I", true)
  | 11 => ("LoanHouse$Store", "outNumber", "[J", true)
  | 12 => ("LoanHouse$Store", "outs", "I", false)
  | 13 => ("LoanHouse$Store", "made", "I", false)
  | 14 => ("LoanHouse$Store", "told", "I", false)
  | 15 => ("LoanHouse$Store", "strays", "I", false)
  | 16 => ("LoanHouse$Store", "twices", "I", false)
  | 17 => ("LoanHouse$Store", "dropType", "[I", true)
  | _ => ("LoanHouse$Store", "dropAt", "[I", true)
def tyX7 : Nat → FieldType := fun k => match k with
  | 0 => .object "LoanHouse$Types"
  | 1 => .array .long
  | 2 => .int
  | 3 => .array .boolean
  | 4 => .int
  | 5 => .int
  | 6 => .array .boolean
  | 7 => .array .int
  | 8 => .int
  | 9 => .int
  | 10 => .array .int
  | 11 => .array .long
  | 12 => .int
  | 13 => .int
  | 14 => .int
  | 15 => .int
  | 16 => .int
  | 17 => .array .int
  | _ => .array .int
abbrev wsX70 : List Cond := u_ws "LoanHouse$Store" TX7 19
theorem nmX7 : ∀ a, a < 19 → ∀ b, b < 19 → a ≠ b → (TX7 a).2.1 ≠ (TX7 b).2.1 := by decide +kernel
theorem tyX7_ok : ∀ k, k < 19 → parseFieldDescriptor (TX7 k).2.2.1 = some (tyX7 k) := by decide +kernel
def TX5 : u_T := fun k => match k with
  | 0 => ("LoanHouse$Program", "types", "LLoanHouse$Types;", true)
  | 1 => ("LoanHouse$Program", "functions", "LLoanHouse$Functions;", true)
  | 2 => ("LoanHouse$Program", "variables", "LLoanHouse$Variables;", true)
  | 3 => ("LoanHouse$Program", "places", "LLoanHouse$Places;", true)
  | 4 => ("LoanHouse$Program", "op", "[I", true)
  | 5 => ("LoanHouse$Program", "x", "[I", true)
  | 6 => ("LoanHouse$Program", "y", "[I", true)
  | 7 => ("LoanHouse$Program", "z", "[I", true)
  | 8 => ("LoanHouse$Program", "pos", "[I", true)
  | 9 => ("LoanHouse$Program", "label", "[I", true)
  | 10 => ("LoanHouse$Program", "slots", "I", false)
  | 11 => ("LoanHouse$Program", "labels", "I", false)
  | 12 => ("LoanHouse$Program", "matches", "I", false)
  | 13 => ("LoanHouse$Program", "order", "[I", true)
  | _ => ("LoanHouse$Program", "orders", "I", false)
def tyX5 : Nat → FieldType := fun k => match k with
  | 0 => .object "LoanHouse$Types"
  | 1 => .object "LoanHouse$Functions"
  | 2 => .object "LoanHouse$Variables"
  | 3 => .object "LoanHouse$Places"
  | 4 => .array .int
  | 5 => .array .int
  | 6 => .array .int
  | 7 => .array .int
  | 8 => .array .int
  | 9 => .array .int
  | 10 => .int
  | 11 => .int
  | 12 => .int
  | 13 => .array .int
  | _ => .int
abbrev wsX50 : List Cond := u_ws "LoanHouse$Program" TX5 15
theorem nmX5 : ∀ a, a < 15 → ∀ b, b < 15 → a ≠ b → (TX5 a).2.1 ≠ (TX5 b).2.1 := by decide +kernel
theorem tyX5_ok : ∀ k, k < 15 → parseFieldDescriptor (TX5 k).2.2.1 = some (tyX5 k) := by decide +kernel
def TX9 : u_T := fun k => match k with
  | 0 => ("LoanHouse$Types", "kind", "[I", true)
  | 1 => ("LoanHouse$Types", "arg", "[I", true)
  | 2 => ("LoanHouse$Types", "total", "I", false)
  | 3 => ("LoanHouse$Types", "declName", "[I", true)
  | 4 => ("LoanHouse$Types", "declForm", "[I", true)
  | 5 => ("LoanHouse$Types", "declFirst", "[I", true)
  | 6 => ("LoanHouse$Types", "declWidth", "[I", true)
  | 7 => ("LoanHouse$Types", "declCells", "[I", true)
  | 8 => ("LoanHouse$Types", "declParts", "[I", true)
  | 9 => ("LoanHouse$Types", "declLeaves", "[I", true)
  | 10 => ("LoanHouse$Types", "decls", "I", false)
  | 11 => ("LoanHouse$Types", "variantName", "[I", true)
  | 12 => ("LoanHouse$Types", "variantFirst", "[I", true)
  | 13 => ("LoanHouse$Types", "variantWidth", "[I", true)
  | 14 => ("LoanHouse$Types", "variants", "I", false)
  | 15 => ("LoanHouse$Types", "memberName", "[I", true)
  | 16 => ("LoanHouse$Types", "memberType", "[I", true)
  | 17 => ("LoanHouse$Types", "memberCell", "[I", true)
  | _ => ("LoanHouse$Types", "members", "I", false)
def tyX9 : Nat → FieldType := fun k => match k with
  | 0 => .array .int
  | 1 => .array .int
  | 2 => .int
  | 3 => .array .int
  | 4 => .array .int
  | 5 => .array .int
  | 6 => .array .int
  | 7 => .array .int
  | 8 => .array .int
  | 9 => .array .int
  | 10 => .int
  | 11 => .array .int
  | 12 => .array .int
  | 13 => .array .int
  | 14 => .int
  | 15 => .array .int
  | 16 => .array .int
  | 17 => .array .int
  | _ => .int
abbrev wsX90 : List Cond := u_ws "LoanHouse$Types" TX9 19
theorem nmX9 : ∀ a, a < 19 → ∀ b, b < 19 → a ≠ b → (TX9 a).2.1 ≠ (TX9 b).2.1 := by decide +kernel
theorem tyX9_ok : ∀ k, k < 19 → parseFieldDescriptor (TX9 k).2.2.1 = some (tyX9 k) := by decide +kernel
def TX2 : u_T := fun k => match k with
  | 0 => ("LoanHouse$Functions", "name", "[I", true)
  | 1 => ("LoanHouse$Functions", "node", "[I", true)
  | 2 => ("LoanHouse$Functions", "result", "[I", true)
  | 3 => ("LoanHouse$Functions", "of", "[J", true)
  | 4 => ("LoanHouse$Functions", "params", "[I", true)
  | 5 => ("LoanHouse$Functions", "firstParam", "[I", true)
  | 6 => ("LoanHouse$Functions", "paramType", "[I", true)
  | 7 => ("LoanHouse$Functions", "paramTotal", "I", false)
  | 8 => ("LoanHouse$Functions", "firstVariable", "[I", true)
  | 9 => ("LoanHouse$Functions", "variables", "[I", true)
  | 10 => ("LoanHouse$Functions", "firstLeaf", "[I", true)
  | 11 => ("LoanHouse$Functions", "leaves", "[I", true)
  | 12 => ("LoanHouse$Functions", "splits", "[I", true)
  | 13 => ("LoanHouse$Functions", "firstLoan", "[I", true)
  | 14 => ("LoanHouse$Functions", "loans", "[I", true)
  | 15 => ("LoanHouse$Functions", "entry", "[I", true)
  | 16 => ("LoanHouse$Functions", "cells", "[I", true)
  | 17 => ("LoanHouse$Functions", "total", "I", false)
  | _ => ("LoanHouse$Functions", "main", "I", false)
def tyX2 : Nat → FieldType := fun k => match k with
  | 0 => .array .int
  | 1 => .array .int
  | 2 => .array .int
  | 3 => .array .long
  | 4 => .array .int
  | 5 => .array .int
  | 6 => .array .int
  | 7 => .int
  | 8 => .array .int
  | 9 => .array .int
  | 10 => .array .int
  | 11 => .array .int
  | 12 => .array .int
  | 13 => .array .int
  | 14 => .array .int
  | 15 => .array .int
  | 16 => .array .int
  | 17 => .int
  | _ => .int
abbrev wsX20 : List Cond := u_ws "LoanHouse$Functions" TX2 19
theorem nmX2 : ∀ a, a < 19 → ∀ b, b < 19 → a ≠ b → (TX2 a).2.1 ≠ (TX2 b).2.1 := by decide +kernel
theorem tyX2_ok : ∀ k, k < 19 → parseFieldDescriptor (TX2 k).2.2.1 = some (tyX2 k) := by decide +kernel
def TX10 : u_T := fun k => match k with
  | 0 => ("LoanHouse$Variables", "name", "[I", true)
  | 1 => ("LoanHouse$Variables", "pos", "[I", true)
  | 2 => ("LoanHouse$Variables", "type", "[I", true)
  | 3 => ("LoanHouse$Variables", "outer", "[I", true)
  | 4 => ("LoanHouse$Variables", "firstLeaf", "[I", true)
  | 5 => ("LoanHouse$Variables", "leafCount", "[I", true)
  | 6 => ("LoanHouse$Variables", "cell", "[I", true)
  | 7 => ("LoanHouse$Variables", "loans", "[J", true)
  | 8 => ("LoanHouse$Variables", "total", "I", false)
  | 9 => ("LoanHouse$Variables", "leafType", "[I", true)
  | 10 => ("LoanHouse$Variables", "leafCell", "[I", true)
  | _ => ("LoanHouse$Variables", "leaves", "I", false)
def tyX10 : Nat → FieldType := fun k => match k with
  | 0 => .array .int
  | 1 => .array .int
  | 2 => .array .int
  | 3 => .array .int
  | 4 => .array .int
  | 5 => .array .int
  | 6 => .array .int
  | 7 => .array .long
  | 8 => .int
  | 9 => .array .int
  | 10 => .array .int
  | _ => .int
abbrev wsX100 : List Cond := u_ws "LoanHouse$Variables" TX10 12
theorem nmX10 : ∀ a, a < 12 → ∀ b, b < 12 → a ≠ b → (TX10 a).2.1 ≠ (TX10 b).2.1 := by decide +kernel
theorem tyX10_ok : ∀ k, k < 12 → parseFieldDescriptor (TX10 k).2.2.1 = some (tyX10 k) := by decide +kernel
def TX4 : u_T := fun k => match k with
  | 0 => ("LoanHouse$Places", "pos", "[I", true)
  | 1 => ("LoanHouse$Places", "act", "[I", true)
  | 2 => ("LoanHouse$Places", "fn", "[I", true)
  | 3 => ("LoanHouse$Places", "variable", "[I", true)
  | 4 => ("LoanHouse$Places", "type", "[I", true)
  | 5 => ("LoanHouse$Places", "firstStep", "[I", true)
  | 6 => ("LoanHouse$Places", "steps", "[I", true)
  | 7 => ("LoanHouse$Places", "leaf", "[I", true)
  | 8 => ("LoanHouse$Places", "leaves", "[I", true)
  | 9 => ("LoanHouse$Places", "further", "[Z", true)
  | 10 => ("LoanHouse$Places", "come", "[Z", true)
  | 11 => ("LoanHouse$Places", "force", "[J", true)
  | 12 => ("LoanHouse$Places", "total", "I", false)
  | 13 => ("LoanHouse$Places", "stepKind", "[I", true)
  | 14 => ("LoanHouse$Places", "stepCell", "[I", true)
  | 15 => ("LoanHouse$Places", "stepPos", "[I", true)
  | 16 => ("LoanHouse$Places", "stepTotal", "I", false)
  | 17 => ("LoanHouse$Places", "loanPos", "[I", true)
  | 18 => ("LoanHouse$Places", "loanPlace", "[I", true)
  | _ => ("LoanHouse$Places", "loans", "I", false)
def tyX4 : Nat → FieldType := fun k => match k with
  | 0 => .array .int
  | 1 => .array .int
  | 2 => .array .int
  | 3 => .array .int
  | 4 => .array .int
  | 5 => .array .int
  | 6 => .array .int
  | 7 => .array .int
  | 8 => .array .int
  | 9 => .array .boolean
  | 10 => .array .boolean
  | 11 => .array .long
  | 12 => .int
  | 13 => .array .int
  | 14 => .array .int
  | 15 => .array .int
  | 16 => .int
  | 17 => .array .int
  | 18 => .array .int
  | _ => .int
abbrev wsX40 : List Cond := u_ws "LoanHouse$Places" TX4 20
theorem nmX4 : ∀ a, a < 20 → ∀ b, b < 20 → a ≠ b → (TX4 a).2.1 ≠ (TX4 b).2.1 := by decide +kernel
theorem tyX4_ok : ∀ k, k < 20 → parseFieldDescriptor (TX4 k).2.2.1 = some (tyX4 k) := by decide +kernel
def TX30 : u_T := fun k => match k with
  | 0 => ("LoanHouseModel", "text", "[B", true)
  | 1 => ("LoanHouseModel", "textSize", "I", false)
  | 2 => ("LoanHouseModel", "tokens", "I", false)
  | 3 => ("LoanHouseModel", "at", "I", false)
  | 4 => ("LoanHouseModel", "open", "I", false)
  | 5 => ("LoanHouseModel", "kindOf", "[I", true)
  | 6 => ("LoanHouseModel", "placeOf", "[I", true)
  | 7 => ("LoanHouseModel", "endOf", "[I", true)
  | 8 => ("LoanHouseModel", "wordOf", "[Ljava/lang/String;", true)
  | 9 => ("LoanHouseModel", "fault", "I", false)
  | 10 => ("LoanHouseModel", "faultPlace", "I", false)
  | 11 => ("LoanHouseModel", "otherPlace", "I", false)
  | 12 => ("LoanHouseModel", "late", "[Ljava/lang/String;", true)
  | 13 => ("LoanHouseModel", "builder", "Ljava/lang/StringBuilder;", true)
  | 14 => ("LoanHouseModel", "ones", "[Ljava/lang/String;", true)
  | 15 => ("LoanHouseModel", "program", "LLoanHouseModel$Program;", false)
  | 16 => ("LoanHouseModel", "inHand", "LLoanHouseModel$Fn;", false)
  | 17 => ("LoanHouseModel", "exps", "Ljava/util/ArrayList;", false)
  | 18 => ("LoanHouseModel", "takenExps", "Ljava/util/ArrayList;", false)
  | 19 => ("LoanHouseModel", "expsUsed", "I", false)
  | 20 => ("LoanHouseModel", "intType", "LLoanHouseModel$Type;", true)
  | 21 => ("LoanHouseModel", "boolType", "LLoanHouseModel$Type;", true)
  | 22 => ("LoanHouseModel", "scope", "Ljava/util/ArrayList;", true)
  | 23 => ("LoanHouseModel", "loops", "I", false)
  | 24 => ("LoanHouseModel", "nodes", "Ljava/util/ArrayList;", true)
  | 25 => ("LoanHouseModel", "tail", "LLoanHouseModel$Node;", false)
  | 26 => ("LoanHouseModel", "live", "Ljava/util/ArrayList;", true)
  | 27 => ("LoanHouseModel", "loopHead", "LLoanHouseModel$Node;", false)
  | 28 => ("LoanHouseModel", "loopExit", "LLoanHouseModel$Node;", false)
  | 29 => ("LoanHouseModel", "loopMark", "I", false)
  | 30 => ("LoanHouseModel", "allNodes", "Ljava/util/ArrayList;", false)
  | 31 => ("LoanHouseModel", "takenNodes", "Ljava/util/ArrayList;", false)
  | 32 => ("LoanHouseModel", "nodesUsed", "I", false)
  | 33 => ("LoanHouseModel", "all", "[J", false)
  | 34 => ("LoanHouseModel", "some", "[J", false)
  | 35 => ("LoanHouseModel", "used", "[J", false)
  | 36 => ("LoanHouseModel", "holds", "[J", false)
  | 37 => ("LoanHouseModel", "columns", "I", false)
  | 38 => ("LoanHouseModel", "column", "[I", true)
  | 39 => ("LoanHouseModel", "mark", "[Z", false)
  | 40 => ("LoanHouseModel", "now", "[J", false)
  | 41 => ("LoanHouseModel", "forces", "[J", true)
  | 42 => ("LoanHouseModel", "taken", "LLoanHouseModel$Program;", false)
  | 43 => ("LoanHouseModel", "entries", "Ljava/util/ArrayList;", true)
  | 44 => ("LoanHouseModel", "lastFault", "I", false)
  | 45 => ("LoanHouseModel", "lastPlace", "I", false)
  | 46 => ("LoanHouseModel", "lastOther", "I", false)
  | 47 => ("LoanHouseModel", "made", "Ljava/util/ArrayList;", true)
  | 48 => ("LoanHouseModel", "takenForces", "[J", true)
  | 49 => ("LoanHouseModel", "type", "[LLoanHouseModel$Type;", false)
  | 50 => ("LoanHouseModel", "num", "[J", false)
  | 51 => ("LoanHouseModel", "times", "[J", false)
  | 52 => ("LoanHouseModel", "tree", "[J", false)
  | 53 => ("LoanHouseModel", "kin", "[J", false)
  | 54 => ("LoanHouseModel", "by", "[J", false)
  | 55 => ("LoanHouseModel", "pool", "I", false)
  | 56 => ("LoanHouseModel", "spare", "I", false)
  | 57 => ("LoanHouseModel", "time", "J", false)
  | 58 => ("LoanHouseModel", "lentOf", "[I", false)
  | 59 => ("LoanHouseModel", "lends", "I", false)
  | 60 => ("LoanHouseModel", "strays", "I", false)
  | 61 => ("LoanHouseModel", "twices", "I", false)
  | 62 => ("LoanHouseModel", "clashes", "I", false)
  | 63 => ("LoanHouseModel", "lefts", "I", false)
  | 64 => ("LoanHouseModel", "heap", "[I", false)
  | 65 => ("LoanHouseModel", "heaped", "I", false)
  | 66 => ("LoanHouseModel", "outKind", "[I", true)
  | 67 => ("LoanHouseModel", "outNumber", "[J", true)
  | 68 => ("LoanHouseModel", "outs", "I", false)
  | 69 => ("LoanHouseModel", "toldMade", "I", false)
  | 70 => ("LoanHouseModel", "toldDropped", "I", false)
  | 71 => ("LoanHouseModel", "boxes", "I", false)
  | 72 => ("LoanHouseModel", "rows", "I", false)
  | 73 => ("LoanHouseModel", "mostBoxes", "I", false)
  | 74 => ("LoanHouseModel", "mostRows", "I", false)
  | 75 => ("LoanHouseModel", "renamed", "[I", false)
  | 76 => ("LoanHouseModel", "gave", "[J", true)
  | 77 => ("LoanHouseModel", "gaves", "I", false)
  | 78 => ("LoanHouseModel", "wasRun", "Z", false)
  | 79 => ("LoanHouseModel", "ended", "I", false)
  | 80 => ("LoanHouseModel", "failPlace", "I", false)
  | 81 => ("LoanHouseModel", "failWhy", "I", false)
  | 82 => ("LoanHouseModel", "steps", "I", false)
  | 83 => ("LoanHouseModel", "reads", "I", false)
  | 84 => ("LoanHouseModel", "stack", "[I", false)
  | 85 => ("LoanHouseModel", "high", "I", false)
  | 86 => ("LoanHouseModel", "calls", "I", false)
  | 87 => ("LoanHouseModel", "callFn", "[LLoanHouseModel$Fn;", true)
  | 88 => ("LoanHouseModel", "callBack", "[LLoanHouseModel$Node;", true)
  | 89 => ("LoanHouseModel", "callBase", "[I", true)
  | 90 => ("LoanHouseModel", "actives", "[I", true)
  | 91 => ("LoanHouseModel", "variable", "[I", true)
  | 92 => ("LoanHouseModel", "active", "[I", true)
  | 93 => ("LoanHouseModel", "doer", "I", false)
  | _ => ("LoanHouseModel", "keptParts", "[I", true)
def tyX30 : Nat → FieldType := fun k => match k with
  | 0 => .array .byte
  | 1 => .int
  | 2 => .int
  | 3 => .int
  | 4 => .int
  | 5 => .array .int
  | 6 => .array .int
  | 7 => .array .int
  | 8 => .array (.object "java/lang/String")
  | 9 => .int
  | 10 => .int
  | 11 => .int
  | 12 => .array (.object "java/lang/String")
  | 13 => .object "java/lang/StringBuilder"
  | 14 => .array (.object "java/lang/String")
  | 15 => .object "LoanHouseModel$Program"
  | 16 => .object "LoanHouseModel$Fn"
  | 17 => .object "java/util/ArrayList"
  | 18 => .object "java/util/ArrayList"
  | 19 => .int
  | 20 => .object "LoanHouseModel$Type"
  | 21 => .object "LoanHouseModel$Type"
  | 22 => .object "java/util/ArrayList"
  | 23 => .int
  | 24 => .object "java/util/ArrayList"
  | 25 => .object "LoanHouseModel$Node"
  | 26 => .object "java/util/ArrayList"
  | 27 => .object "LoanHouseModel$Node"
  | 28 => .object "LoanHouseModel$Node"
  | 29 => .int
  | 30 => .object "java/util/ArrayList"
  | 31 => .object "java/util/ArrayList"
  | 32 => .int
  | 33 => .array .long
  | 34 => .array .long
  | 35 => .array .long
  | 36 => .array .long
  | 37 => .int
  | 38 => .array .int
  | 39 => .array .boolean
  | 40 => .array .long
  | 41 => .array .long
  | 42 => .object "LoanHouseModel$Program"
  | 43 => .object "java/util/ArrayList"
  | 44 => .int
  | 45 => .int
  | 46 => .int
  | 47 => .object "java/util/ArrayList"
  | 48 => .array .long
  | 49 => .array (.object "LoanHouseModel$Type")
  | 50 => .array .long
  | 51 => .array .long
  | 52 => .array .long
  | 53 => .array .long
  | 54 => .array .long
  | 55 => .int
  | 56 => .int
  | 57 => .long
  | 58 => .array .int
  | 59 => .int
  | 60 => .int
  | 61 => .int
  | 62 => .int
  | 63 => .int
  | 64 => .array .int
  | 65 => .int
  | 66 => .array .int
  | 67 => .array .long
  | 68 => .int
  | 69 => .int
  | 70 => .int
  | 71 => .int
  | 72 => .int
  | 73 => .int
  | 74 => .int
  | 75 => .array .int
  | 76 => .array .long
  | 77 => .int
  | 78 => .boolean
  | 79 => .int
  | 80 => .int
  | 81 => .int
  | 82 => .int
  | 83 => .int
  | 84 => .array .int
  | 85 => .int
  | 86 => .int
  | 87 => .array (.object "LoanHouseModel$Fn")
  | 88 => .array (.object "LoanHouseModel$Node")
  | 89 => .array .int
  | 90 => .array .int
  | 91 => .array .int
  | 92 => .array .int
  | 93 => .int
  | _ => .array .int
abbrev wsX300 : List Cond := u_ws "LoanHouseModel" TX30 95
theorem nmX30 : ∀ a, a < 95 → ∀ b, b < 95 → a ≠ b → (TX30 a).2.1 ≠ (TX30 b).2.1 := by decide +kernel
theorem tyX30_ok : ∀ k, k < 95 → parseFieldDescriptor (TX30 k).2.2.1 = some (tyX30 k) := by decide +kernel
def TX26 : u_T := fun k => match k with
  | 0 => ("LoanHouseModel$Type", "kind", "I", true)
  | 1 => ("LoanHouseModel$Type", "item", "LLoanHouseModel$Item;", false)
  | _ => ("LoanHouseModel$Type", "of", "LLoanHouseModel$Type;", false)
def tyX26 : Nat → FieldType := fun k => match k with
  | 0 => .int
  | 1 => .object "LoanHouseModel$Item"
  | _ => .object "LoanHouseModel$Type"
abbrev wsX260 : List Cond := u_ws "LoanHouseModel$Type" TX26 3
theorem nmX26 : ∀ a, a < 3 → ∀ b, b < 3 → a ≠ b → (TX26 a).2.1 ≠ (TX26 b).2.1 := by decide +kernel
theorem tyX26_ok : ∀ k, k < 3 → parseFieldDescriptor (TX26 k).2.2.1 = some (tyX26 k) := by decide +kernel
def TX23 : u_T := fun k => match k with
  | 0 => ("LoanHouseModel$Program", "items", "Ljava/util/ArrayList;", true)
  | 1 => ("LoanHouseModel$Program", "fns", "Ljava/util/ArrayList;", true)
  | 2 => ("LoanHouseModel$Program", "places", "Ljava/util/ArrayList;", true)
  | _ => ("LoanHouseModel$Program", "loans", "Ljava/util/ArrayList;", true)
def tyX23 : Nat → FieldType := fun k => match k with
  | 0 => .object "java/util/ArrayList"
  | 1 => .object "java/util/ArrayList"
  | 2 => .object "java/util/ArrayList"
  | _ => .object "java/util/ArrayList"
abbrev wsX230 : List Cond := u_ws "LoanHouseModel$Program" TX23 4
theorem nmX23 : ∀ a, a < 4 → ∀ b, b < 4 → a ≠ b → (TX23 a).2.1 ≠ (TX23 b).2.1 := by decide +kernel
theorem tyX23_ok : ∀ k, k < 4 → parseFieldDescriptor (TX23 k).2.2.1 = some (tyX23 k) := by decide +kernel
def TJ4 : u_T := fun k => match k with
  | 0 => ("java/lang/AbstractStringBuilder", "value", "[B", false)
  | 1 => ("java/lang/AbstractStringBuilder", "coder", "B", false)
  | 2 => ("java/lang/AbstractStringBuilder", "maybeLatin1", "Z", false)
  | _ => ("java/lang/AbstractStringBuilder", "count", "I", false)
def tyJ4 : Nat → FieldType := fun k => match k with
  | 0 => .array .byte
  | 1 => .byte
  | 2 => .boolean
  | _ => .int
abbrev wsJ40 : List Cond := u_ws "java/lang/StringBuilder" TJ4 4
theorem nmJ4 : ∀ a, a < 4 → ∀ b, b < 4 → a ≠ b → (TJ4 a).2.1 ≠ (TJ4 b).2.1 := by decide +kernel
theorem tyJ4_ok : ∀ k, k < 4 → parseFieldDescriptor (TJ4 k).2.2.1 = some (tyJ4 k) := by decide +kernel
def TJ0 : u_T := fun k => match k with
  | 0 => ("java/lang/String", "value", "[B", true)
  | 1 => ("java/lang/String", "coder", "B", true)
  | 2 => ("java/lang/String", "hash", "I", false)
  | _ => ("java/lang/String", "hashIsZero", "Z", false)
def tyJ0 : Nat → FieldType := fun k => match k with
  | 0 => .array .byte
  | 1 => .byte
  | 2 => .int
  | _ => .boolean
abbrev wsJ00 : List Cond := u_ws "java/lang/String" TJ0 4
theorem nmJ0 : ∀ a, a < 4 → ∀ b, b < 4 → a ≠ b → (TJ0 a).2.1 ≠ (TJ0 b).2.1 := by decide +kernel
theorem tyJ0_ok : ∀ k, k < 4 → parseFieldDescriptor (TJ0 k).2.2.1 = some (tyJ0 k) := by decide +kernel
def TJx4a65c : u_T := fun k => match k with
  | 0 => ("java/util/AbstractList", "modCount", "I", false)
  | 1 => ("java/util/ArrayList", "elementData", "[Ljava/lang/Object;", false)
  | _ => ("java/util/ArrayList", "size", "I", false)
def tyJx4a65c : Nat → FieldType := fun k => match k with
  | 0 => .int
  | 1 => .array (.object "java/lang/Object")
  | _ => .int
abbrev wsJx4a65c0 : List Cond := u_ws "java/util/ArrayList" TJx4a65c 3
theorem nmJx4a65c : ∀ a, a < 3 → ∀ b, b < 3 → a ≠ b → (TJx4a65c a).2.1 ≠ (TJx4a65c b).2.1 := by decide +kernel
theorem tyJx4a65c_ok : ∀ k, k < 3 → parseFieldDescriptor (TJx4a65c k).2.2.1 = some (tyJx4a65c k) := by decide +kernel
abbrev cX12_init : ByteArray := prog_1_method_1_code
def yX12_init : MethodName := ⟨"LoanHouse", "<init>", "()V"⟩
abbrev cX12_feed : ByteArray := prog_1_method_2_code
def yX12_feed : MethodName := ⟨"LoanHouse", "feed", "(IIIII)I"⟩
abbrev cX12_feedNumber : ByteArray := prog_1_method_3_code
def yX12_feedNumber : MethodName := ⟨"LoanHouse", "feedNumber", "(I)V"⟩
abbrev cX12_judge : ByteArray := prog_1_method_4_code
def yX12_judge : MethodName := ⟨"LoanHouse", "judge", "(I)I"⟩
abbrev cX12_judgeTree : ByteArray := prog_1_method_6_code
def yX12_judgeTree : MethodName := ⟨"LoanHouse", "judgeTree", "(I)I"⟩
abbrev cX12_fault : ByteArray := prog_1_method_7_code
def yX12_fault : MethodName := ⟨"LoanHouse", "fault", "(I)I"⟩
abbrev cX12_give : ByteArray := prog_1_method_8_code
def yX12_give : MethodName := ⟨"LoanHouse", "give", "(J)I"⟩
abbrev cX12_run : ByteArray := prog_1_method_9_code
def yX12_run : MethodName := ⟨"LoanHouse", "run", "(I)I"⟩
abbrev cX12_about : ByteArray := prog_1_method_10_code
def yX12_about : MethodName := ⟨"LoanHouse", "about", "(I)I"⟩
abbrev cX12_out : ByteArray := prog_1_method_11_code
def yX12_out : MethodName := ⟨"LoanHouse", "out", "(II)J"⟩
abbrev cX12_count : ByteArray := prog_1_method_12_code
def yX12_count : MethodName := ⟨"LoanHouse", "count", "(I)I"⟩
abbrev cX12_place : ByteArray := prog_1_method_13_code
def yX12_place : MethodName := ⟨"LoanHouse", "place", "(II)I"⟩
abbrev cX12_loan : ByteArray := prog_1_method_14_code
def yX12_loan : MethodName := ⟨"LoanHouse", "loan", "(II)I"⟩
abbrev cX12_force : ByteArray := prog_1_method_15_code
def yX12_force : MethodName := ⟨"LoanHouse", "force", "(II)I"⟩
abbrev cX12_function : ByteArray := prog_1_method_16_code
def yX12_function : MethodName := ⟨"LoanHouse", "function", "(II)I"⟩
abbrev cX12_size : ByteArray := prog_1_method_17_code
def yX12_size : MethodName := ⟨"LoanHouse", "size", "(I)I"⟩
abbrev cX12_strays : ByteArray := prog_1_method_18_code
def yX12_strays : MethodName := ⟨"LoanHouse", "strays", "()I"⟩
abbrev cX12_twices : ByteArray := prog_1_method_19_code
def yX12_twices : MethodName := ⟨"LoanHouse", "twices", "()I"⟩
abbrev cX12_lefts : ByteArray := prog_1_method_20_code
def yX12_lefts : MethodName := ⟨"LoanHouse", "lefts", "()I"⟩
abbrev cX12_clashes : ByteArray := prog_1_method_21_code
def yX12_clashes : MethodName := ⟨"LoanHouse", "clashes", "()I"⟩
abbrev cX8_init : ByteArray := prog_10_method_1_code
def yX8_init : MethodName := ⟨"LoanHouse$Tree", "<init>", "()V"⟩
abbrev cX8_clear : ByteArray := prog_10_method_2_code
def yX8_clear : MethodName := ⟨"LoanHouse$Tree", "clear", "()V"⟩
abbrev cX8_add : ByteArray := prog_10_method_3_code
def yX8_add : MethodName := ⟨"LoanHouse$Tree", "add", "(II)I"⟩
abbrev cX6_init : ByteArray := prog_8_method_1_code
def yX6_init : MethodName := ⟨"LoanHouse$Reader", "<init>", "(LLoanHouse$Tree;)V"⟩
abbrev cX6_read : ByteArray := prog_8_method_2_code
def yX6_read : MethodName := ⟨"LoanHouse$Reader", "read", "([BI)I"⟩
abbrev cX6_takeWords : ByteArray := prog_8_method_3_code
def yX6_takeWords : MethodName := ⟨"LoanHouse$Reader", "takeWords", "()V"⟩
abbrev cX6_nameOf : ByteArray := prog_8_method_4_code
def yX6_nameOf : MethodName := ⟨"LoanHouse$Reader", "nameOf", "(II)I"⟩
abbrev cX6_alike : ByteArray := prog_8_method_5_code
def yX6_alike : MethodName := ⟨"LoanHouse$Reader", "alike", "(III)Z"⟩
abbrev cX6_takeTokens : ByteArray := prog_8_method_6_code
def yX6_takeTokens : MethodName := ⟨"LoanHouse$Reader", "takeTokens", "()V"⟩
abbrev cX6_skipBlanks : ByteArray := prog_8_method_7_code
def yX6_skipBlanks : MethodName := ⟨"LoanHouse$Reader", "skipBlanks", "()V"⟩
abbrev cX6_advance : ByteArray := prog_8_method_14_code
def yX6_advance : MethodName := ⟨"LoanHouse$Reader", "advance", "()V"⟩
abbrev cX0_init : ByteArray := prog_2_method_1_code
def yX0_init : MethodName := ⟨"LoanHouse$Checker", "<init>", "(LLoanHouse$Tree;)V"⟩
abbrev cX0_check : ByteArray := prog_2_method_2_code
def yX0_check : MethodName := ⟨"LoanHouse$Checker", "check", "(LLoanHouse$Program;I)I"⟩
abbrev cX0_declareAll : ByteArray := prog_2_method_4_code
def yX0_declareAll : MethodName := ⟨"LoanHouse$Checker", "declareAll", "(I)V"⟩
abbrev cX0_measures : ByteArray := prog_2_method_10_code
def yX0_measures : MethodName := ⟨"LoanHouse$Checker", "measures", "(I)V"⟩
abbrev cX0_mainFunction : ByteArray := prog_2_method_15_code
def yX0_mainFunction : MethodName := ⟨"LoanHouse$Checker", "mainFunction", "(I)V"⟩
abbrev cX0_broken : ByteArray := prog_2_method_3_code
def yX0_broken : MethodName := ⟨"LoanHouse$Checker", "broken", "(I)V"⟩
abbrev cX1_init : ByteArray := prog_3_method_1_code
def yX1_init : MethodName := ⟨"LoanHouse$Emitter", "<init>", "(LLoanHouse$Tree;)V"⟩
abbrev cX11_init : ByteArray := prog_13_method_1_code
def yX11_init : MethodName := ⟨"LoanHouse$Ways", "<init>", "()V"⟩
abbrev cX3_init : ByteArray := prog_5_method_1_code
def yX3_init : MethodName := ⟨"LoanHouse$Machine", "<init>", "()V"⟩
abbrev cX7_init : ByteArray := prog_9_method_1_code
def yX7_init : MethodName := ⟨"LoanHouse$Store", "<init>", "()V"⟩
abbrev cX5_init : ByteArray := prog_7_method_1_code
def yX5_init : MethodName := ⟨"LoanHouse$Program", "<init>", "()V"⟩
abbrev cX5_clear : ByteArray := prog_7_method_2_code
def yX5_clear : MethodName := ⟨"LoanHouse$Program", "clear", "()V"⟩
abbrev cX9_init : ByteArray := prog_11_method_1_code
def yX9_init : MethodName := ⟨"LoanHouse$Types", "<init>", "()V"⟩
abbrev cX9_clear : ByteArray := prog_11_method_2_code
def yX9_clear : MethodName := ⟨"LoanHouse$Types", "clear", "()V"⟩
abbrev cX9_measure : ByteArray := prog_11_method_19_code
def yX9_measure : MethodName := ⟨"LoanHouse$Types", "measure", "()V"⟩
abbrev cX2_init : ByteArray := prog_4_method_1_code
def yX2_init : MethodName := ⟨"LoanHouse$Functions", "<init>", "()V"⟩
abbrev cX2_clear : ByteArray := prog_4_method_2_code
def yX2_clear : MethodName := ⟨"LoanHouse$Functions", "clear", "()V"⟩
abbrev cX10_init : ByteArray := prog_12_method_1_code
def yX10_init : MethodName := ⟨"LoanHouse$Variables", "<init>", "()V"⟩
abbrev cX10_clear : ByteArray := prog_12_method_2_code
def yX10_clear : MethodName := ⟨"LoanHouse$Variables", "clear", "()V"⟩
abbrev cX4_init : ByteArray := prog_6_method_1_code
def yX4_init : MethodName := ⟨"LoanHouse$Places", "<init>", "()V"⟩
abbrev cX4_clear : ByteArray := prog_6_method_2_code
def yX4_clear : MethodName := ⟨"LoanHouse$Places", "clear", "()V"⟩
abbrev cX30_init : ByteArray := prog_15_method_1_code
def yX30_init : MethodName := ⟨"LoanHouseModel", "<init>", "()V"⟩
abbrev cX30_feed : ByteArray := prog_15_method_130_code
def yX30_feed : MethodName := ⟨"LoanHouseModel", "feed", "(IIIII)I"⟩
abbrev cX30_judge : ByteArray := prog_15_method_131_code
def yX30_judge : MethodName := ⟨"LoanHouseModel", "judge", "(I)I"⟩
abbrev cX30_split : ByteArray := prog_15_method_13_code
def yX30_split : MethodName := ⟨"LoanHouseModel", "split", "(I)V"⟩
abbrev cX30_token : ByteArray := prog_15_method_6_code
def yX30_token : MethodName := ⟨"LoanHouseModel", "token", "(III)V"⟩
abbrev cX30_known : ByteArray := prog_15_method_7_code
def yX30_known : MethodName := ⟨"LoanHouseModel", "known", "(II)Ljava/lang/String;"⟩
abbrev cX30_isLate : ByteArray := prog_15_method_8_code
def yX30_isLate : MethodName := ⟨"LoanHouseModel", "isLate", "(Ljava/lang/String;II)Z"⟩
abbrev cX30_word : ByteArray := prog_15_method_10_code
def yX30_word : MethodName := ⟨"LoanHouseModel", "word", "(II)Ljava/lang/String;"⟩
abbrev cX30_readText : ByteArray := prog_15_method_27_code
def yX30_readText : MethodName := ⟨"LoanHouseModel", "readText", "()V"⟩
abbrev cX30_isOver : ByteArray := prog_15_method_19_code
def yX30_isOver : MethodName := ⟨"LoanHouseModel", "isOver", "()Z"⟩
abbrev cX30_ruleItems : ByteArray := prog_15_method_53_code
def yX30_ruleItems : MethodName := ⟨"LoanHouseModel", "ruleItems", "()V"⟩
abbrev cX30_ruleFns : ByteArray := prog_15_method_60_code
def yX30_ruleFns : MethodName := ⟨"LoanHouseModel", "ruleFns", "()V"⟩
abbrev cX30_fnOf : ByteArray := prog_15_method_51_code
def yX30_fnOf : MethodName := ⟨"LoanHouseModel", "fnOf", "(Ljava/lang/String;)LLoanHouseModel$Fn;"⟩
abbrev cX30_wrong : ByteArray := prog_15_method_49_code
def yX30_wrong : MethodName := ⟨"LoanHouseModel", "wrong", "(I)V"⟩
abbrev cX30_breaks : ByteArray := prog_15_method_18_code
def yX30_breaks : MethodName := ⟨"LoanHouseModel", "breaks", "(III)V"⟩
abbrev cX30_fault : ByteArray := prog_15_method_133_code
def yX30_fault : MethodName := ⟨"LoanHouseModel", "fault", "(I)I"⟩
abbrev cX30_give : ByteArray := prog_15_method_120_code
def yX30_give : MethodName := ⟨"LoanHouseModel", "give", "(LLoanHouseModel$Fn;LLoanHouseModel$Var;J)V"⟩
abbrev cX30_run : ByteArray := prog_15_method_198_code
def yX30_run : MethodName := ⟨"LoanHouseModel", "run", "(I)I"⟩
abbrev cX30_about : ByteArray := prog_15_method_200_code
def yX30_about : MethodName := ⟨"LoanHouseModel", "about", "(I)I"⟩
abbrev cX30_out : ByteArray := prog_15_method_163_code
def yX30_out : MethodName := ⟨"LoanHouseModel", "out", "(IJ)V"⟩
abbrev cX30_count : ByteArray := prog_15_method_202_code
def yX30_count : MethodName := ⟨"LoanHouseModel", "count", "(I)I"⟩
abbrev cX30_place : ByteArray := prog_15_method_70_code
def yX30_place : MethodName := ⟨"LoanHouseModel", "place", "(LLoanHouseModel$Place;I)V"⟩
abbrev cX30_loan : ByteArray := prog_15_method_205_code
def yX30_loan : MethodName := ⟨"LoanHouseModel", "loan", "(II)I"⟩
abbrev cX30_force : ByteArray := prog_15_method_206_code
def yX30_force : MethodName := ⟨"LoanHouseModel", "force", "(II)I"⟩
abbrev cX30_function : ByteArray := prog_15_method_207_code
def yX30_function : MethodName := ⟨"LoanHouseModel", "function", "(II)I"⟩
abbrev cX30_size : ByteArray := prog_15_method_208_code
def yX30_size : MethodName := ⟨"LoanHouseModel", "size", "(I)I"⟩
abbrev cX30_strays : ByteArray := prog_15_method_209_code
def yX30_strays : MethodName := ⟨"LoanHouseModel", "strays", "()I"⟩
abbrev cX30_twices : ByteArray := prog_15_method_210_code
def yX30_twices : MethodName := ⟨"LoanHouseModel", "twices", "()I"⟩
abbrev cX30_lefts : ByteArray := prog_15_method_211_code
def yX30_lefts : MethodName := ⟨"LoanHouseModel", "lefts", "()I"⟩
abbrev cX30_clashes : ByteArray := prog_15_method_126_code
def yX30_clashes : MethodName := ⟨"LoanHouseModel", "clashes", "(LLoanHouseModel$Loan;LLoanHouseModel$Place;)Z"⟩
abbrev cX26_init : ByteArray := prog_29_method_1_code
def yX26_init : MethodName := ⟨"LoanHouseModel$Type", "<init>", "(ILLoanHouseModel$Item;LLoanHouseModel$Type;)V"⟩
abbrev cX23_init : ByteArray := prog_26_method_1_code
def yX23_init : MethodName := ⟨"LoanHouseModel$Program", "<init>", "()V"⟩
abbrev cJ5_init_d00df : ByteArray := prog_34_method_2_code
def yJ5_init_d00df : MethodName := ⟨"java/lang/AbstractStringBuilder", "<init>", "(I)V"⟩
abbrev cJ5_length_8abf5 : ByteArray := prog_34_method_6_code
def yJ5_length_8abf5 : MethodName := ⟨"java/lang/AbstractStringBuilder", "length", "()I"⟩
abbrev cJ5_ensureCapacityInternal_d00df : ByteArray := prog_34_method_9_code
def yJ5_ensureCapacityInternal_d00df : MethodName := ⟨"java/lang/AbstractStringBuilder", "ensureCapacityInternal", "(I)V"⟩
abbrev cJ5_setLength_d00df : ByteArray := prog_34_method_13_code
def yJ5_setLength_d00df : MethodName := ⟨"java/lang/AbstractStringBuilder", "setLength", "(I)V"⟩
abbrev cJ5_getValue_6d5f1 : ByteArray := prog_34_method_64_code
def yJ5_getValue_6d5f1 : MethodName := ⟨"java/lang/AbstractStringBuilder", "getValue", "()[B"⟩
abbrev cJ5_isLatin1_aae02 : ByteArray := prog_34_method_68_code
def yJ5_isLatin1_aae02 : MethodName := ⟨"java/lang/AbstractStringBuilder", "isLatin1", "()Z"⟩
abbrev cJ4_init_d00df : ByteArray := prog_47_method_2_code
def yJ4_init_d00df : MethodName := ⟨"java/lang/StringBuilder", "<init>", "(I)V"⟩
abbrev cJ4_toString_0e30d : ByteArray := prog_47_method_42_code
def yJ4_toString_0e30d : MethodName := ⟨"java/lang/StringBuilder", "toString", "()Ljava/lang/String;"⟩
abbrev cJ4_setLength_d00df : ByteArray := prog_47_method_89_code
def yJ4_setLength_d00df : MethodName := ⟨"java/lang/StringBuilder", "setLength", "(I)V"⟩
abbrev cJ4_length_8abf5 : ByteArray := prog_47_method_93_code
def yJ4_length_8abf5 : MethodName := ⟨"java/lang/StringBuilder", "length", "()I"⟩
abbrev cJ0_init_81219 : ByteArray := prog_46_method_53_code
def yJ0_init_81219 : MethodName := ⟨"java/lang/String", "<init>", "(Ljava/lang/StringBuilder;)V"⟩
abbrev cJ0_init_db425 : ByteArray := prog_46_method_150_code
def yJ0_init_db425 : MethodName := ⟨"java/lang/String", "<init>", "(Ljava/lang/AbstractStringBuilder;Ljava/lang/Void;)V"⟩
abbrev cJ0_length_8abf5 : ByteArray := prog_46_method_54_code
def yJ0_length_8abf5 : MethodName := ⟨"java/lang/String", "length", "()I"⟩
abbrev cJ0_charAt_5068e : ByteArray := prog_46_method_56_code
def yJ0_charAt_5068e : MethodName := ⟨"java/lang/String", "charAt", "(I)C"⟩
abbrev cJ0_coder_7d493 : ByteArray := prog_46_method_152_code
def yJ0_coder_7d493 : MethodName := ⟨"java/lang/String", "coder", "()B"⟩
abbrev cJ0_isLatin1_aae02 : ByteArray := prog_46_method_154_code
def yJ0_isLatin1_aae02 : MethodName := ⟨"java/lang/String", "isLatin1", "()Z"⟩
abbrev cJ0_checkIndex_df160 : ByteArray := prog_46_method_155_code
def yJ0_checkIndex_df160 : MethodName := ⟨"java/lang/String", "checkIndex", "(II)V"⟩
abbrev cJ1_charAt_3b067 : ByteArray := prog_48_method_2_code
def yJ1_charAt_3b067 : MethodName := ⟨"java/lang/StringLatin1", "charAt", "([BI)C"⟩
abbrev cJ3_checkIndex_8e157 : ByteArray := prog_65_method_11_code
def yJ3_checkIndex_8e157 : MethodName := ⟨"jdk/internal/util/Preconditions", "checkIndex", "(IILjava/util/function/BiFunction;)I"⟩
abbrev cJ7_copyOfRange_39247 : ByteArray := prog_57_method_132_code
def yJ7_copyOfRange_39247 : MethodName := ⟨"java/util/Arrays", "copyOfRange", "([BII)[B"⟩
abbrev cJ7_copyOfRangeByte_39247 : ByteArray := prog_57_method_133_code
def yJ7_copyOfRangeByte_39247 : MethodName := ⟨"java/util/Arrays", "copyOfRangeByte", "([BII)[B"⟩
abbrev cJxa1e45_init_da8c8 : ByteArray := prog_54_method_1_code
def yJxa1e45_init_da8c8 : MethodName := ⟨"java/util/AbstractCollection", "<init>", "()V"⟩
abbrev cJxc12de_init_da8c8 : ByteArray := prog_55_method_1_code
def yJxc12de_init_da8c8 : MethodName := ⟨"java/util/AbstractList", "<init>", "()V"⟩
abbrev cJx4a65c_init_da8c8 : ByteArray := prog_56_method_2_code
def yJx4a65c_init_da8c8 : MethodName := ⟨"java/util/ArrayList", "<init>", "()V"⟩
abbrev cJx4a65c_size_8abf5 : ByteArray := prog_56_method_8_code
def yJx4a65c_size_8abf5 : MethodName := ⟨"java/util/ArrayList", "size", "()I"⟩
theorem dX12_init_0 : decode cX12_init 0 = .ok (.aload_n 0, 1) := by decide +kernel
theorem dX12_init_1 : decode cX12_init 1 = .ok (.invokespecial 3, 3) := by decide +kernel
theorem dX12_init_4 : decode cX12_init 4 = .ok (.aload_n 0, 1) := by decide +kernel
theorem dX12_init_5 : decode cX12_init 5 = .ok (.sipush 3000, 3) := by decide +kernel
theorem dX12_init_8 : decode cX12_init 8 = .ok (.newarray .byte, 2) := by decide +kernel
theorem dX12_init_10 : decode cX12_init 10 = .ok (.putfield 9, 3) := by decide +kernel
theorem dX12_init_13 : decode cX12_init 13 = .ok (.aload_n 0, 1) := by decide +kernel
theorem dX12_init_14 : decode cX12_init 14 = .ok (.sipush 200, 3) := by decide +kernel
theorem dX12_init_17 : decode cX12_init 17 = .ok (.newarray .long, 2) := by decide +kernel
theorem dX12_init_19 : decode cX12_init 19 = .ok (.putfield 13, 3) := by decide +kernel
theorem dX12_init_22 : decode cX12_init 22 = .ok (.aload_n 0, 1) := by decide +kernel
theorem dX12_init_23 : decode cX12_init 23 = .ok (.new 17, 3) := by decide +kernel
theorem dX12_init_26 : decode cX12_init 26 = .ok (.dup, 1) := by decide +kernel
theorem dX12_init_27 : decode cX12_init 27 = .ok (.invokespecial 19, 3) := by decide +kernel
theorem dX12_init_30 : decode cX12_init 30 = .ok (.putfield 20, 3) := by decide +kernel
theorem dX12_init_33 : decode cX12_init 33 = .ok (.aload_n 0, 1) := by decide +kernel
theorem dX12_init_34 : decode cX12_init 34 = .ok (.new 24, 3) := by decide +kernel
theorem dX12_init_37 : decode cX12_init 37 = .ok (.dup, 1) := by decide +kernel
theorem dX12_init_38 : decode cX12_init 38 = .ok (.aload_n 0, 1) := by decide +kernel
theorem dX12_init_39 : decode cX12_init 39 = .ok (.getfield 20, 3) := by decide +kernel
theorem dX12_init_42 : decode cX12_init 42 = .ok (.invokespecial 26, 3) := by decide +kernel
theorem dX12_init_45 : decode cX12_init 45 = .ok (.putfield 29, 3) := by decide +kernel
theorem dX12_init_48 : decode cX12_init 48 = .ok (.aload_n 0, 1) := by decide +kernel
theorem dX12_init_49 : decode cX12_init 49 = .ok (.new 33, 3) := by decide +kernel
theorem dX12_init_52 : decode cX12_init 52 = .ok (.dup, 1) := by decide +kernel
theorem dX12_init_53 : decode cX12_init 53 = .ok (.aload_n 0, 1) := by decide +kernel
theorem dX12_init_54 : decode cX12_init 54 = .ok (.getfield 20, 3) := by decide +kernel
theorem dX12_init_57 : decode cX12_init 57 = .ok (.invokespecial 35, 3) := by decide +kernel
theorem dX12_init_60 : decode cX12_init 60 = .ok (.putfield 36, 3) := by decide +kernel
theorem dX12_init_63 : decode cX12_init 63 = .ok (.aload_n 0, 1) := by decide +kernel
theorem dX12_init_64 : decode cX12_init 64 = .ok (.new 40, 3) := by decide +kernel
theorem dX12_init_67 : decode cX12_init 67 = .ok (.dup, 1) := by decide +kernel
theorem dX12_init_68 : decode cX12_init 68 = .ok (.aload_n 0, 1) := by decide +kernel
theorem dX12_init_69 : decode cX12_init 69 = .ok (.getfield 20, 3) := by decide +kernel
theorem dX12_init_72 : decode cX12_init 72 = .ok (.invokespecial 42, 3) := by decide +kernel
theorem dX12_init_75 : decode cX12_init 75 = .ok (.putfield 43, 3) := by decide +kernel
theorem dX12_init_78 : decode cX12_init 78 = .ok (.aload_n 0, 1) := by decide +kernel
theorem dX12_init_79 : decode cX12_init 79 = .ok (.new 47, 3) := by decide +kernel
theorem dX12_init_82 : decode cX12_init 82 = .ok (.dup, 1) := by decide +kernel
theorem dX12_init_83 : decode cX12_init 83 = .ok (.invokespecial 49, 3) := by decide +kernel
theorem dX12_init_86 : decode cX12_init 86 = .ok (.putfield 50, 3) := by decide +kernel
theorem dX12_init_89 : decode cX12_init 89 = .ok (.aload_n 0, 1) := by decide +kernel
theorem dX12_init_90 : decode cX12_init 90 = .ok (.new 54, 3) := by decide +kernel
theorem dX12_init_93 : decode cX12_init 93 = .ok (.dup, 1) := by decide +kernel
theorem dX12_init_94 : decode cX12_init 94 = .ok (.invokespecial 56, 3) := by decide +kernel
theorem dX12_init_97 : decode cX12_init 97 = .ok (.putfield 57, 3) := by decide +kernel
theorem dX12_init_100 : decode cX12_init 100 = .ok (.aload_n 0, 1) := by decide +kernel
theorem dX12_init_101 : decode cX12_init 101 = .ok (.new 61, 3) := by decide +kernel
theorem dX12_init_104 : decode cX12_init 104 = .ok (.dup, 1) := by decide +kernel
theorem dX12_init_105 : decode cX12_init 105 = .ok (.invokespecial 63, 3) := by decide +kernel
theorem dX12_init_108 : decode cX12_init 108 = .ok (.putfield 64, 3) := by decide +kernel
theorem dX12_init_111 : decode cX12_init 111 = .ok (.aload_n 0, 1) := by decide +kernel
theorem dX12_init_112 : decode cX12_init 112 = .ok (.iconst (-1), 1) := by decide +kernel
theorem dX12_init_113 : decode cX12_init 113 = .ok (.putfield 68, 3) := by decide +kernel
theorem dX12_init_116 : decode cX12_init 116 = .ok (.aload_n 0, 1) := by decide +kernel
theorem dX12_init_117 : decode cX12_init 117 = .ok (.iconst (-1), 1) := by decide +kernel
theorem dX12_init_118 : decode cX12_init 118 = .ok (.putfield 72, 3) := by decide +kernel
theorem dX12_init_121 : decode cX12_init 121 = .ok (.aload_n 0, 1) := by decide +kernel
theorem dX12_init_122 : decode cX12_init 122 = .ok (.iconst (-1), 1) := by decide +kernel
theorem dX12_init_123 : decode cX12_init 123 = .ok (.putfield 75, 3) := by decide +kernel
theorem dX12_init_126 : decode cX12_init 126 = .ok (.return_, 1) := by decide +kernel
theorem dX12_feed_0 : decode cX12_feed 0 = .ok (.aload_n 0, 1) := by decide +kernel
theorem dX12_feed_1 : decode cX12_feed 1 = .ok (.getfield 78, 3) := by decide +kernel
theorem dX12_feed_4 : decode cX12_feed 4 = .ok (.bipush 20, 2) := by decide +kernel
theorem dX12_feed_6 : decode cX12_feed 6 = .ok (.iadd, 1) := by decide +kernel
theorem dX12_feed_7 : decode cX12_feed 7 = .ok (.sipush 3000, 3) := by decide +kernel
theorem dX12_feed_10 : decode cX12_feed 10 = .ok (.if_icmp .le 5, 3) := by decide +kernel
theorem dX12_feed_13 : decode cX12_feed 13 = .ok (.iconst (-1), 1) := by decide +kernel
theorem dX12_feed_14 : decode cX12_feed 14 = .ok (.ireturn, 1) := by decide +kernel
theorem dX12_feed_15 : decode cX12_feed 15 = .ok (.aload_n 0, 1) := by decide +kernel
theorem dX12_feed_16 : decode cX12_feed 16 = .ok (.iload_n 1, 1) := by decide +kernel
theorem dX12_feed_17 : decode cX12_feed 17 = .ok (.invokevirtual 81, 3) := by decide +kernel
theorem dX12_feed_20 : decode cX12_feed 20 = .ok (.aload_n 0, 1) := by decide +kernel
theorem dX12_feed_21 : decode cX12_feed 21 = .ok (.iload_n 2, 1) := by decide +kernel
theorem dX12_feed_22 : decode cX12_feed 22 = .ok (.invokevirtual 81, 3) := by decide +kernel
theorem dX12_feed_25 : decode cX12_feed 25 = .ok (.aload_n 0, 1) := by decide +kernel
theorem dX12_feed_26 : decode cX12_feed 26 = .ok (.iload_n 3, 1) := by decide +kernel
theorem dX12_feed_27 : decode cX12_feed 27 = .ok (.invokevirtual 81, 3) := by decide +kernel
theorem dX12_feed_30 : decode cX12_feed 30 = .ok (.aload_n 0, 1) := by decide +kernel
theorem dX12_feed_31 : decode cX12_feed 31 = .ok (.iload 4, 2) := by decide +kernel
theorem dX12_feed_33 : decode cX12_feed 33 = .ok (.invokevirtual 81, 3) := by decide +kernel
theorem dX12_feed_36 : decode cX12_feed 36 = .ok (.aload_n 0, 1) := by decide +kernel
theorem dX12_feed_37 : decode cX12_feed 37 = .ok (.iload 5, 2) := by decide +kernel
theorem dX12_feed_39 : decode cX12_feed 39 = .ok (.invokevirtual 81, 3) := by decide +kernel
theorem dX12_feed_42 : decode cX12_feed 42 = .ok (.aload_n 0, 1) := by decide +kernel
theorem dX12_feed_43 : decode cX12_feed 43 = .ok (.getfield 78, 3) := by decide +kernel
theorem dX12_feed_46 : decode cX12_feed 46 = .ok (.ireturn, 1) := by decide +kernel
theorem dX12_feedNumber_0 : decode cX12_feedNumber 0 = .ok (.bipush 24, 2) := by decide +kernel
theorem dX12_feedNumber_2 : decode cX12_feedNumber 2 = .ok (.istore_n 2, 1) := by decide +kernel
theorem dX12_feedNumber_3 : decode cX12_feedNumber 3 = .ok (.iload_n 2, 1) := by decide +kernel
theorem dX12_feedNumber_4 : decode cX12_feedNumber 4 = .ok (.ifCond .lt 32, 3) := by decide +kernel
theorem dX12_feedNumber_7 : decode cX12_feedNumber 7 = .ok (.aload_n 0, 1) := by decide +kernel
theorem dX12_feedNumber_8 : decode cX12_feedNumber 8 = .ok (.getfield 9, 3) := by decide +kernel
theorem dX12_feedNumber_11 : decode cX12_feedNumber 11 = .ok (.aload_n 0, 1) := by decide +kernel
theorem dX12_feedNumber_12 : decode cX12_feedNumber 12 = .ok (.getfield 78, 3) := by decide +kernel
theorem dX12_feedNumber_15 : decode cX12_feedNumber 15 = .ok (.iload_n 1, 1) := by decide +kernel
theorem dX12_feedNumber_16 : decode cX12_feedNumber 16 = .ok (.iload_n 2, 1) := by decide +kernel
theorem dX12_feedNumber_17 : decode cX12_feedNumber 17 = .ok (.ishr, 1) := by decide +kernel
theorem dX12_feedNumber_18 : decode cX12_feedNumber 18 = .ok (.i2b, 1) := by decide +kernel
theorem dX12_feedNumber_19 : decode cX12_feedNumber 19 = .ok (.bastore, 1) := by decide +kernel
theorem dX12_feedNumber_20 : decode cX12_feedNumber 20 = .ok (.aload_n 0, 1) := by decide +kernel
theorem dX12_feedNumber_21 : decode cX12_feedNumber 21 = .ok (.dup, 1) := by decide +kernel
theorem dX12_feedNumber_22 : decode cX12_feedNumber 22 = .ok (.getfield 78, 3) := by decide +kernel
theorem dX12_feedNumber_25 : decode cX12_feedNumber 25 = .ok (.iconst 1, 1) := by decide +kernel
theorem dX12_feedNumber_26 : decode cX12_feedNumber 26 = .ok (.iadd, 1) := by decide +kernel
theorem dX12_feedNumber_27 : decode cX12_feedNumber 27 = .ok (.putfield 78, 3) := by decide +kernel
theorem dX12_feedNumber_30 : decode cX12_feedNumber 30 = .ok (.iinc 2 (-8), 3) := by decide +kernel
theorem dX12_feedNumber_33 : decode cX12_feedNumber 33 = .ok (.goto (-30), 3) := by decide +kernel
theorem dX12_feedNumber_36 : decode cX12_feedNumber 36 = .ok (.return_, 1) := by decide +kernel
theorem dX12_judge_0 : decode cX12_judge 0 = .ok (.iload_n 1, 1) := by decide +kernel
theorem dX12_judge_1 : decode cX12_judge 1 = .ok (.ifCond .lt 11, 3) := by decide +kernel
theorem dX12_judge_4 : decode cX12_judge 4 = .ok (.iload_n 1, 1) := by decide +kernel
theorem dX12_judge_5 : decode cX12_judge 5 = .ok (.aload_n 0, 1) := by decide +kernel
theorem dX12_judge_6 : decode cX12_judge 6 = .ok (.getfield 78, 3) := by decide +kernel
theorem dX12_judge_9 : decode cX12_judge 9 = .ok (.if_icmp .le 5, 3) := by decide +kernel
theorem dX12_judge_12 : decode cX12_judge 12 = .ok (.iconst (-1), 1) := by decide +kernel
theorem dX12_judge_13 : decode cX12_judge 13 = .ok (.ireturn, 1) := by decide +kernel
theorem dX12_judge_14 : decode cX12_judge 14 = .ok (.aload_n 0, 1) := by decide +kernel
theorem dX12_judge_15 : decode cX12_judge 15 = .ok (.iconst 0, 1) := by decide +kernel
theorem dX12_judge_16 : decode cX12_judge 16 = .ok (.putfield 78, 3) := by decide +kernel
theorem dX12_judge_19 : decode cX12_judge 19 = .ok (.aload_n 0, 1) := by decide +kernel
theorem dX12_judge_20 : decode cX12_judge 20 = .ok (.iconst (-1), 1) := by decide +kernel
theorem dX12_judge_21 : decode cX12_judge 21 = .ok (.putfield 75, 3) := by decide +kernel
theorem dX12_judge_24 : decode cX12_judge 24 = .ok (.aload_n 0, 1) := by decide +kernel
theorem dX12_judge_25 : decode cX12_judge 25 = .ok (.aload_n 0, 1) := by decide +kernel
theorem dX12_judge_26 : decode cX12_judge 26 = .ok (.getfield 29, 3) := by decide +kernel
theorem dX12_judge_29 : decode cX12_judge 29 = .ok (.aload_n 0, 1) := by decide +kernel
theorem dX12_judge_30 : decode cX12_judge 30 = .ok (.getfield 9, 3) := by decide +kernel
theorem dX12_judge_33 : decode cX12_judge 33 = .ok (.iload_n 1, 1) := by decide +kernel
theorem dX12_judge_34 : decode cX12_judge 34 = .ok (.invokevirtual 85, 3) := by decide +kernel
theorem dX12_judge_37 : decode cX12_judge 37 = .ok (.putfield 72, 3) := by decide +kernel
theorem dX12_judge_40 : decode cX12_judge 40 = .ok (.aload_n 0, 1) := by decide +kernel
theorem dX12_judge_41 : decode cX12_judge 41 = .ok (.aload_n 0, 1) := by decide +kernel
theorem dX12_judge_42 : decode cX12_judge 42 = .ok (.getfield 72, 3) := by decide +kernel
theorem dX12_judge_45 : decode cX12_judge 45 = .ok (.ifCond .lt 7, 3) := by decide +kernel
theorem dX12_judge_48 : decode cX12_judge 48 = .ok (.iconst 1, 1) := by decide +kernel
theorem dX12_judge_49 : decode cX12_judge 49 = .ok (.goto 8, 3) := by decide +kernel
theorem dX12_judge_52 : decode cX12_judge 52 = .ok (.aload_n 0, 1) := by decide +kernel
theorem dX12_judge_53 : decode cX12_judge 53 = .ok (.iload_n 1, 1) := by decide +kernel
theorem dX12_judge_54 : decode cX12_judge 54 = .ok (.invokevirtual 89, 3) := by decide +kernel
theorem dX12_judge_57 : decode cX12_judge 57 = .ok (.putfield 68, 3) := by decide +kernel
theorem dX12_judge_60 : decode cX12_judge 60 = .ok (.aload_n 0, 1) := by decide +kernel
theorem dX12_judge_61 : decode cX12_judge 61 = .ok (.getfield 68, 3) := by decide +kernel
theorem dX12_judge_64 : decode cX12_judge 64 = .ok (.ifCond .ne 12, 3) := by decide +kernel
theorem dX12_judge_67 : decode cX12_judge 67 = .ok (.aload_n 0, 1) := by decide +kernel
theorem dX12_judge_68 : decode cX12_judge 68 = .ok (.iconst (-1), 1) := by decide +kernel
theorem dX12_judge_69 : decode cX12_judge 69 = .ok (.putfield 72, 3) := by decide +kernel
theorem dX12_judge_72 : decode cX12_judge 72 = .ok (.aload_n 0, 1) := by decide +kernel
theorem dX12_judge_73 : decode cX12_judge 73 = .ok (.invokevirtual 93, 3) := by decide +kernel
theorem dX12_judge_76 : decode cX12_judge 76 = .ok (.aload_n 0, 1) := by decide +kernel
theorem dX12_judge_77 : decode cX12_judge 77 = .ok (.getfield 68, 3) := by decide +kernel
theorem dX12_judge_80 : decode cX12_judge 80 = .ok (.ireturn, 1) := by decide +kernel
theorem dX12_judgeTree_0 : decode cX12_judgeTree 0 = .ok (.aload_n 0, 1) := by decide +kernel
theorem dX12_judgeTree_1 : decode cX12_judgeTree 1 = .ok (.getfield 96, 3) := by decide +kernel
theorem dX12_judgeTree_4 : decode cX12_judgeTree 4 = .ok (.ifCond .eq 21, 3) := by decide +kernel
theorem dX12_judgeTree_7 : decode cX12_judgeTree 7 = .ok (.aload_n 0, 1) := by decide +kernel
theorem dX12_judgeTree_8 : decode cX12_judgeTree 8 = .ok (.getfield 100, 3) := by decide +kernel
theorem dX12_judgeTree_11 : decode cX12_judgeTree 11 = .ok (.ifnonnull 14, 3) := by decide +kernel
theorem dX12_judgeTree_14 : decode cX12_judgeTree 14 = .ok (.aload_n 0, 1) := by decide +kernel
theorem dX12_judgeTree_15 : decode cX12_judgeTree 15 = .ok (.new 61, 3) := by decide +kernel
theorem dX12_judgeTree_18 : decode cX12_judgeTree 18 = .ok (.dup, 1) := by decide +kernel
theorem dX12_judgeTree_19 : decode cX12_judgeTree 19 = .ok (.invokespecial 63, 3) := by decide +kernel
theorem dX12_judgeTree_22 : decode cX12_judgeTree 22 = .ok (.putfield 100, 3) := by decide +kernel
theorem dX12_judgeTree_25 : decode cX12_judgeTree 25 = .ok (.aload_n 0, 1) := by decide +kernel
theorem dX12_judgeTree_26 : decode cX12_judgeTree 26 = .ok (.getfield 96, 3) := by decide +kernel
theorem dX12_judgeTree_29 : decode cX12_judgeTree 29 = .ok (.ifCond .eq 10, 3) := by decide +kernel
theorem dX12_judgeTree_32 : decode cX12_judgeTree 32 = .ok (.aload_n 0, 1) := by decide +kernel
theorem dX12_judgeTree_33 : decode cX12_judgeTree 33 = .ok (.getfield 100, 3) := by decide +kernel
theorem dX12_judgeTree_36 : decode cX12_judgeTree 36 = .ok (.goto 7, 3) := by decide +kernel
theorem dX12_judgeTree_39 : decode cX12_judgeTree 39 = .ok (.aload_n 0, 1) := by decide +kernel
theorem dX12_judgeTree_40 : decode cX12_judgeTree 40 = .ok (.getfield 64, 3) := by decide +kernel
theorem dX12_judgeTree_43 : decode cX12_judgeTree 43 = .ok (.astore_n 2, 1) := by decide +kernel
theorem dX12_judgeTree_44 : decode cX12_judgeTree 44 = .ok (.aload_n 2, 1) := by decide +kernel
theorem dX12_judgeTree_45 : decode cX12_judgeTree 45 = .ok (.invokevirtual 106, 3) := by decide +kernel
theorem dX12_judgeTree_48 : decode cX12_judgeTree 48 = .ok (.aload_n 0, 1) := by decide +kernel
theorem dX12_judgeTree_49 : decode cX12_judgeTree 49 = .ok (.aload_n 0, 1) := by decide +kernel
theorem dX12_judgeTree_50 : decode cX12_judgeTree 50 = .ok (.getfield 36, 3) := by decide +kernel
theorem dX12_judgeTree_53 : decode cX12_judgeTree 53 = .ok (.aload_n 2, 1) := by decide +kernel
theorem dX12_judgeTree_54 : decode cX12_judgeTree 54 = .ok (.iload_n 1, 1) := by decide +kernel
theorem dX12_judgeTree_55 : decode cX12_judgeTree 55 = .ok (.invokevirtual 109, 3) := by decide +kernel
theorem dX12_judgeTree_58 : decode cX12_judgeTree 58 = .ok (.putfield 72, 3) := by decide +kernel
theorem dX12_judgeTree_61 : decode cX12_judgeTree 61 = .ok (.aload_n 0, 1) := by decide +kernel
theorem dX12_judgeTree_62 : decode cX12_judgeTree 62 = .ok (.getfield 72, 3) := by decide +kernel
theorem dX12_judgeTree_65 : decode cX12_judgeTree 65 = .ok (.ifCond .lt 5, 3) := by decide +kernel
theorem dX12_judgeTree_68 : decode cX12_judgeTree 68 = .ok (.iconst 2, 1) := by decide +kernel
theorem dX12_judgeTree_69 : decode cX12_judgeTree 69 = .ok (.ireturn, 1) := by decide +kernel
theorem dX12_judgeTree_70 : decode cX12_judgeTree 70 = .ok (.aload_n 0, 1) := by decide +kernel
theorem dX12_judgeTree_71 : decode cX12_judgeTree 71 = .ok (.getfield 43, 3) := by decide +kernel
theorem dX12_judgeTree_74 : decode cX12_judgeTree 74 = .ok (.aload_n 2, 1) := by decide +kernel
theorem dX12_judgeTree_75 : decode cX12_judgeTree 75 = .ok (.invokevirtual 113, 3) := by decide +kernel
theorem dX12_judgeTree_78 : decode cX12_judgeTree 78 = .ok (.aload_n 0, 1) := by decide +kernel
theorem dX12_judgeTree_79 : decode cX12_judgeTree 79 = .ok (.getfield 50, 3) := by decide +kernel
theorem dX12_judgeTree_82 : decode cX12_judgeTree 82 = .ok (.aload_n 2, 1) := by decide +kernel
theorem dX12_judgeTree_83 : decode cX12_judgeTree 83 = .ok (.invokevirtual 117, 3) := by decide +kernel
theorem dX12_judgeTree_86 : decode cX12_judgeTree 86 = .ok (.aload_n 0, 1) := by decide +kernel
theorem dX12_judgeTree_87 : decode cX12_judgeTree 87 = .ok (.getfield 50, 3) := by decide +kernel
theorem dX12_judgeTree_90 : decode cX12_judgeTree 90 = .ok (.invokevirtual 120, 3) := by decide +kernel
theorem dX12_judgeTree_93 : decode cX12_judgeTree 93 = .ok (.ifCond .lt 27, 3) := by decide +kernel
theorem dX12_judgeTree_96 : decode cX12_judgeTree 96 = .ok (.aload_n 0, 1) := by decide +kernel
theorem dX12_judgeTree_97 : decode cX12_judgeTree 97 = .ok (.aload_n 0, 1) := by decide +kernel
theorem dX12_judgeTree_98 : decode cX12_judgeTree 98 = .ok (.getfield 50, 3) := by decide +kernel
theorem dX12_judgeTree_101 : decode cX12_judgeTree 101 = .ok (.invokevirtual 120, 3) := by decide +kernel
theorem dX12_judgeTree_104 : decode cX12_judgeTree 104 = .ok (.putfield 72, 3) := by decide +kernel
theorem dX12_judgeTree_107 : decode cX12_judgeTree 107 = .ok (.aload_n 0, 1) := by decide +kernel
theorem dX12_judgeTree_108 : decode cX12_judgeTree 108 = .ok (.aload_n 0, 1) := by decide +kernel
theorem dX12_judgeTree_109 : decode cX12_judgeTree 109 = .ok (.getfield 50, 3) := by decide +kernel
theorem dX12_judgeTree_112 : decode cX12_judgeTree 112 = .ok (.invokevirtual 124, 3) := by decide +kernel
theorem dX12_judgeTree_115 : decode cX12_judgeTree 115 = .ok (.putfield 75, 3) := by decide +kernel
theorem dX12_judgeTree_118 : decode cX12_judgeTree 118 = .ok (.iconst 3, 1) := by decide +kernel
theorem dX12_judgeTree_119 : decode cX12_judgeTree 119 = .ok (.ireturn, 1) := by decide +kernel
theorem dX12_judgeTree_120 : decode cX12_judgeTree 120 = .ok (.aload_n 0, 1) := by decide +kernel
theorem dX12_judgeTree_121 : decode cX12_judgeTree 121 = .ok (.getfield 50, 3) := by decide +kernel
theorem dX12_judgeTree_124 : decode cX12_judgeTree 124 = .ok (.invokevirtual 127, 3) := by decide +kernel
theorem dX12_judgeTree_127 : decode cX12_judgeTree 127 = .ok (.ifCond .lt 27, 3) := by decide +kernel
theorem dX12_judgeTree_130 : decode cX12_judgeTree 130 = .ok (.aload_n 0, 1) := by decide +kernel
theorem dX12_judgeTree_131 : decode cX12_judgeTree 131 = .ok (.aload_n 0, 1) := by decide +kernel
theorem dX12_judgeTree_132 : decode cX12_judgeTree 132 = .ok (.getfield 50, 3) := by decide +kernel
theorem dX12_judgeTree_135 : decode cX12_judgeTree 135 = .ok (.invokevirtual 127, 3) := by decide +kernel
theorem dX12_judgeTree_138 : decode cX12_judgeTree 138 = .ok (.putfield 72, 3) := by decide +kernel
theorem dX12_judgeTree_141 : decode cX12_judgeTree 141 = .ok (.aload_n 0, 1) := by decide +kernel
theorem dX12_judgeTree_142 : decode cX12_judgeTree 142 = .ok (.aload_n 0, 1) := by decide +kernel
theorem dX12_judgeTree_143 : decode cX12_judgeTree 143 = .ok (.getfield 50, 3) := by decide +kernel
theorem dX12_judgeTree_146 : decode cX12_judgeTree 146 = .ok (.invokevirtual 130, 3) := by decide +kernel
theorem dX12_judgeTree_149 : decode cX12_judgeTree 149 = .ok (.putfield 75, 3) := by decide +kernel
theorem dX12_judgeTree_152 : decode cX12_judgeTree 152 = .ok (.iconst 4, 1) := by decide +kernel
theorem dX12_judgeTree_153 : decode cX12_judgeTree 153 = .ok (.ireturn, 1) := by decide +kernel
theorem dX12_judgeTree_154 : decode cX12_judgeTree 154 = .ok (.iconst 0, 1) := by decide +kernel
theorem dX12_judgeTree_155 : decode cX12_judgeTree 155 = .ok (.ireturn, 1) := by decide +kernel
theorem dX12_fault_0 : decode cX12_fault 0 = .ok (.iload_n 1, 1) := by decide +kernel
theorem dX12_fault_1 : decode cX12_fault 1 = .ok (.tableswitch 42 0 2 #[27, 32, 37], 27) := by decide +kernel
theorem dX12_fault_28 : decode cX12_fault 28 = .ok (.aload_n 0, 1) := by decide +kernel
theorem dX12_fault_29 : decode cX12_fault 29 = .ok (.getfield 68, 3) := by decide +kernel
theorem dX12_fault_32 : decode cX12_fault 32 = .ok (.ireturn, 1) := by decide +kernel
theorem dX12_fault_33 : decode cX12_fault 33 = .ok (.aload_n 0, 1) := by decide +kernel
theorem dX12_fault_34 : decode cX12_fault 34 = .ok (.getfield 72, 3) := by decide +kernel
theorem dX12_fault_37 : decode cX12_fault 37 = .ok (.ireturn, 1) := by decide +kernel
theorem dX12_fault_38 : decode cX12_fault 38 = .ok (.aload_n 0, 1) := by decide +kernel
theorem dX12_fault_39 : decode cX12_fault 39 = .ok (.getfield 75, 3) := by decide +kernel
theorem dX12_fault_42 : decode cX12_fault 42 = .ok (.ireturn, 1) := by decide +kernel
theorem dX12_fault_43 : decode cX12_fault 43 = .ok (.iconst (-1), 1) := by decide +kernel
theorem dX12_fault_44 : decode cX12_fault 44 = .ok (.ireturn, 1) := by decide +kernel
theorem dX12_give_0 : decode cX12_give 0 = .ok (.aload_n 0, 1) := by decide +kernel
theorem dX12_give_1 : decode cX12_give 1 = .ok (.getfield 133, 3) := by decide +kernel
theorem dX12_give_4 : decode cX12_give 4 = .ok (.sipush 200, 3) := by decide +kernel
theorem dX12_give_7 : decode cX12_give 7 = .ok (.if_icmp .lt 5, 3) := by decide +kernel
theorem dX12_give_10 : decode cX12_give 10 = .ok (.iconst (-1), 1) := by decide +kernel
theorem dX12_give_11 : decode cX12_give 11 = .ok (.ireturn, 1) := by decide +kernel
theorem dX12_give_12 : decode cX12_give 12 = .ok (.aload_n 0, 1) := by decide +kernel
theorem dX12_give_13 : decode cX12_give 13 = .ok (.getfield 13, 3) := by decide +kernel
theorem dX12_give_16 : decode cX12_give 16 = .ok (.aload_n 0, 1) := by decide +kernel
theorem dX12_give_17 : decode cX12_give 17 = .ok (.getfield 133, 3) := by decide +kernel
theorem dX12_give_20 : decode cX12_give 20 = .ok (.lload_n 1, 1) := by decide +kernel
theorem dX12_give_21 : decode cX12_give 21 = .ok (.lastore, 1) := by decide +kernel
theorem dX12_give_22 : decode cX12_give 22 = .ok (.aload_n 0, 1) := by decide +kernel
theorem dX12_give_23 : decode cX12_give 23 = .ok (.dup, 1) := by decide +kernel
theorem dX12_give_24 : decode cX12_give 24 = .ok (.getfield 133, 3) := by decide +kernel
theorem dX12_give_27 : decode cX12_give 27 = .ok (.iconst 1, 1) := by decide +kernel
theorem dX12_give_28 : decode cX12_give 28 = .ok (.iadd, 1) := by decide +kernel
theorem dX12_give_29 : decode cX12_give 29 = .ok (.putfield 133, 3) := by decide +kernel
theorem dX12_give_32 : decode cX12_give 32 = .ok (.aload_n 0, 1) := by decide +kernel
theorem dX12_give_33 : decode cX12_give 33 = .ok (.getfield 133, 3) := by decide +kernel
theorem dX12_give_36 : decode cX12_give 36 = .ok (.ireturn, 1) := by decide +kernel
theorem dX12_run_0 : decode cX12_run 0 = .ok (.iload_n 1, 1) := by decide +kernel
theorem dX12_run_1 : decode cX12_run 1 = .ok (.iconst 1, 1) := by decide +kernel
theorem dX12_run_2 : decode cX12_run 2 = .ok (.if_icmp .lt 16, 3) := by decide +kernel
theorem dX12_run_5 : decode cX12_run 5 = .ok (.iload_n 1, 1) := by decide +kernel
theorem dX12_run_6 : decode cX12_run 6 = .ok (.ldc 136, 2) := by decide +kernel
theorem dX12_run_8 : decode cX12_run 8 = .ok (.if_icmp .gt 10, 3) := by decide +kernel
theorem dX12_run_11 : decode cX12_run 11 = .ok (.aload_n 0, 1) := by decide +kernel
theorem dX12_run_12 : decode cX12_run 12 = .ok (.getfield 96, 3) := by decide +kernel
theorem dX12_run_15 : decode cX12_run 15 = .ok (.ifCond .ne 5, 3) := by decide +kernel
theorem dX12_run_18 : decode cX12_run 18 = .ok (.iconst (-1), 1) := by decide +kernel
theorem dX12_run_19 : decode cX12_run 19 = .ok (.ireturn, 1) := by decide +kernel
theorem dX12_run_20 : decode cX12_run 20 = .ok (.aload_n 0, 1) := by decide +kernel
theorem dX12_run_21 : decode cX12_run 21 = .ok (.iconst 1, 1) := by decide +kernel
theorem dX12_run_22 : decode cX12_run 22 = .ok (.putfield 103, 3) := by decide +kernel
theorem dX12_run_25 : decode cX12_run 25 = .ok (.aload_n 0, 1) := by decide +kernel
theorem dX12_run_26 : decode cX12_run 26 = .ok (.getfield 57, 3) := by decide +kernel
theorem dX12_run_29 : decode cX12_run 29 = .ok (.aload_n 0, 1) := by decide +kernel
theorem dX12_run_30 : decode cX12_run 30 = .ok (.getfield 64, 3) := by decide +kernel
theorem dX12_run_33 : decode cX12_run 33 = .ok (.aload_n 0, 1) := by decide +kernel
theorem dX12_run_34 : decode cX12_run 34 = .ok (.getfield 13, 3) := by decide +kernel
theorem dX12_run_37 : decode cX12_run 37 = .ok (.aload_n 0, 1) := by decide +kernel
theorem dX12_run_38 : decode cX12_run 38 = .ok (.getfield 133, 3) := by decide +kernel
theorem dX12_run_41 : decode cX12_run 41 = .ok (.iload_n 1, 1) := by decide +kernel
theorem dX12_run_42 : decode cX12_run 42 = .ok (.invokevirtual 137, 3) := by decide +kernel
theorem dX12_run_45 : decode cX12_run 45 = .ok (.ireturn, 1) := by decide +kernel
theorem dX12_about_0 : decode cX12_about 0 = .ok (.aload_n 0, 1) := by decide +kernel
theorem dX12_about_1 : decode cX12_about 1 = .ok (.getfield 103, 3) := by decide +kernel
theorem dX12_about_4 : decode cX12_about 4 = .ok (.ifCond .eq 14, 3) := by decide +kernel
theorem dX12_about_7 : decode cX12_about 7 = .ok (.aload_n 0, 1) := by decide +kernel
theorem dX12_about_8 : decode cX12_about 8 = .ok (.getfield 57, 3) := by decide +kernel
theorem dX12_about_11 : decode cX12_about 11 = .ok (.iload_n 1, 1) := by decide +kernel
theorem dX12_about_12 : decode cX12_about 12 = .ok (.invokevirtual 141, 3) := by decide +kernel
theorem dX12_about_15 : decode cX12_about 15 = .ok (.goto 4, 3) := by decide +kernel
theorem dX12_about_18 : decode cX12_about 18 = .ok (.iconst (-1), 1) := by decide +kernel
theorem dX12_about_19 : decode cX12_about 19 = .ok (.ireturn, 1) := by decide +kernel
theorem dX12_out_0 : decode cX12_out 0 = .ok (.aload_n 0, 1) := by decide +kernel
theorem dX12_out_1 : decode cX12_out 1 = .ok (.getfield 103, 3) := by decide +kernel
theorem dX12_out_4 : decode cX12_out 4 = .ok (.ifCond .eq 18, 3) := by decide +kernel
theorem dX12_out_7 : decode cX12_out 7 = .ok (.aload_n 0, 1) := by decide +kernel
theorem dX12_out_8 : decode cX12_out 8 = .ok (.getfield 57, 3) := by decide +kernel
theorem dX12_out_11 : decode cX12_out 11 = .ok (.getfield 144, 3) := by decide +kernel
theorem dX12_out_14 : decode cX12_out 14 = .ok (.iload_n 1, 1) := by decide +kernel
theorem dX12_out_15 : decode cX12_out 15 = .ok (.iload_n 2, 1) := by decide +kernel
theorem dX12_out_16 : decode cX12_out 16 = .ok (.invokevirtual 148, 3) := by decide +kernel
theorem dX12_out_19 : decode cX12_out 19 = .ok (.goto 4, 3) := by decide +kernel
theorem dX12_out_22 : decode cX12_out 22 = .ok (.lconst 0, 1) := by decide +kernel
theorem dX12_out_23 : decode cX12_out 23 = .ok (.lreturn, 1) := by decide +kernel
theorem dX12_count_0 : decode cX12_count 0 = .ok (.iload_n 1, 1) := by decide +kernel
theorem dX12_count_1 : decode cX12_count 1 = .ok (.ifCond .lt 8, 3) := by decide +kernel
theorem dX12_count_4 : decode cX12_count 4 = .ok (.iload_n 1, 1) := by decide +kernel
theorem dX12_count_5 : decode cX12_count 5 = .ok (.iconst 3, 1) := by decide +kernel
theorem dX12_count_6 : decode cX12_count 6 = .ok (.if_icmp .le 5, 3) := by decide +kernel
theorem dX12_count_9 : decode cX12_count 9 = .ok (.iconst (-1), 1) := by decide +kernel
theorem dX12_count_10 : decode cX12_count 10 = .ok (.ireturn, 1) := by decide +kernel
theorem dX12_count_11 : decode cX12_count 11 = .ok (.aload_n 0, 1) := by decide +kernel
theorem dX12_count_12 : decode cX12_count 12 = .ok (.getfield 96, 3) := by decide +kernel
theorem dX12_count_15 : decode cX12_count 15 = .ok (.ifCond .ne 5, 3) := by decide +kernel
theorem dX12_count_18 : decode cX12_count 18 = .ok (.iconst 0, 1) := by decide +kernel
theorem dX12_count_19 : decode cX12_count 19 = .ok (.ireturn, 1) := by decide +kernel
theorem dX12_count_20 : decode cX12_count 20 = .ok (.iload_n 1, 1) := by decide +kernel
theorem dX12_count_21 : decode cX12_count 21 = .ok (.tableswitch 60 0 2 #[27, 38, 49], 27) := by decide +kernel
theorem dX12_count_48 : decode cX12_count 48 = .ok (.aload_n 0, 1) := by decide +kernel
theorem dX12_count_49 : decode cX12_count 49 = .ok (.getfield 64, 3) := by decide +kernel
theorem dX12_count_52 : decode cX12_count 52 = .ok (.getfield 154, 3) := by decide +kernel
theorem dX12_count_55 : decode cX12_count 55 = .ok (.getfield 158, 3) := by decide +kernel
theorem dX12_count_58 : decode cX12_count 58 = .ok (.ireturn, 1) := by decide +kernel
theorem dX12_count_59 : decode cX12_count 59 = .ok (.aload_n 0, 1) := by decide +kernel
theorem dX12_count_60 : decode cX12_count 60 = .ok (.getfield 64, 3) := by decide +kernel
theorem dX12_count_63 : decode cX12_count 63 = .ok (.getfield 163, 3) := by decide +kernel
theorem dX12_count_66 : decode cX12_count 66 = .ok (.getfield 167, 3) := by decide +kernel
theorem dX12_count_69 : decode cX12_count 69 = .ok (.ireturn, 1) := by decide +kernel
theorem dX12_count_70 : decode cX12_count 70 = .ok (.aload_n 0, 1) := by decide +kernel
theorem dX12_count_71 : decode cX12_count 71 = .ok (.getfield 64, 3) := by decide +kernel
theorem dX12_count_74 : decode cX12_count 74 = .ok (.getfield 172, 3) := by decide +kernel
theorem dX12_count_77 : decode cX12_count 77 = .ok (.getfield 176, 3) := by decide +kernel
theorem dX12_count_80 : decode cX12_count 80 = .ok (.ireturn, 1) := by decide +kernel
theorem dX12_count_81 : decode cX12_count 81 = .ok (.aload_n 0, 1) := by decide +kernel
theorem dX12_count_82 : decode cX12_count 82 = .ok (.getfield 64, 3) := by decide +kernel
theorem dX12_count_85 : decode cX12_count 85 = .ok (.getfield 172, 3) := by decide +kernel
theorem dX12_count_88 : decode cX12_count 88 = .ok (.getfield 179, 3) := by decide +kernel
theorem dX12_count_91 : decode cX12_count 91 = .ok (.ireturn, 1) := by decide +kernel
theorem dX12_place_0 : decode cX12_place 0 = .ok (.aload_n 0, 1) := by decide +kernel
theorem dX12_place_1 : decode cX12_place 1 = .ok (.getfield 96, 3) := by decide +kernel
theorem dX12_place_4 : decode cX12_place 4 = .ok (.ifCond .eq 18, 3) := by decide +kernel
theorem dX12_place_7 : decode cX12_place 7 = .ok (.aload_n 0, 1) := by decide +kernel
theorem dX12_place_8 : decode cX12_place 8 = .ok (.getfield 64, 3) := by decide +kernel
theorem dX12_place_11 : decode cX12_place 11 = .ok (.getfield 172, 3) := by decide +kernel
theorem dX12_place_14 : decode cX12_place 14 = .ok (.iload_n 1, 1) := by decide +kernel
theorem dX12_place_15 : decode cX12_place 15 = .ok (.iload_n 2, 1) := by decide +kernel
theorem dX12_place_16 : decode cX12_place 16 = .ok (.invokevirtual 182, 3) := by decide +kernel
theorem dX12_place_19 : decode cX12_place 19 = .ok (.goto 4, 3) := by decide +kernel
theorem dX12_place_22 : decode cX12_place 22 = .ok (.iconst (-1), 1) := by decide +kernel
theorem dX12_place_23 : decode cX12_place 23 = .ok (.ireturn, 1) := by decide +kernel
theorem dX12_loan_0 : decode cX12_loan 0 = .ok (.aload_n 0, 1) := by decide +kernel
theorem dX12_loan_1 : decode cX12_loan 1 = .ok (.getfield 96, 3) := by decide +kernel
theorem dX12_loan_4 : decode cX12_loan 4 = .ok (.ifCond .eq 15, 3) := by decide +kernel
theorem dX12_loan_7 : decode cX12_loan 7 = .ok (.aload_n 0, 1) := by decide +kernel
theorem dX12_loan_8 : decode cX12_loan 8 = .ok (.getfield 64, 3) := by decide +kernel
theorem dX12_loan_11 : decode cX12_loan 11 = .ok (.iload_n 1, 1) := by decide +kernel
theorem dX12_loan_12 : decode cX12_loan 12 = .ok (.iload_n 2, 1) := by decide +kernel
theorem dX12_loan_13 : decode cX12_loan 13 = .ok (.invokevirtual 185, 3) := by decide +kernel
theorem dX12_loan_16 : decode cX12_loan 16 = .ok (.goto 4, 3) := by decide +kernel
theorem dX12_loan_19 : decode cX12_loan 19 = .ok (.iconst (-1), 1) := by decide +kernel
theorem dX12_loan_20 : decode cX12_loan 20 = .ok (.ireturn, 1) := by decide +kernel
theorem dX12_force_0 : decode cX12_force 0 = .ok (.aload_n 0, 1) := by decide +kernel
theorem dX12_force_1 : decode cX12_force 1 = .ok (.getfield 96, 3) := by decide +kernel
theorem dX12_force_4 : decode cX12_force 4 = .ok (.ifCond .eq 15, 3) := by decide +kernel
theorem dX12_force_7 : decode cX12_force 7 = .ok (.aload_n 0, 1) := by decide +kernel
theorem dX12_force_8 : decode cX12_force 8 = .ok (.getfield 64, 3) := by decide +kernel
theorem dX12_force_11 : decode cX12_force 11 = .ok (.iload_n 1, 1) := by decide +kernel
theorem dX12_force_12 : decode cX12_force 12 = .ok (.iload_n 2, 1) := by decide +kernel
theorem dX12_force_13 : decode cX12_force 13 = .ok (.invokevirtual 188, 3) := by decide +kernel
theorem dX12_force_16 : decode cX12_force 16 = .ok (.goto 4, 3) := by decide +kernel
theorem dX12_force_19 : decode cX12_force 19 = .ok (.iconst (-1), 1) := by decide +kernel
theorem dX12_force_20 : decode cX12_force 20 = .ok (.ireturn, 1) := by decide +kernel
theorem dX12_function_0 : decode cX12_function 0 = .ok (.aload_n 0, 1) := by decide +kernel
theorem dX12_function_1 : decode cX12_function 1 = .ok (.getfield 96, 3) := by decide +kernel
theorem dX12_function_4 : decode cX12_function 4 = .ok (.ifCond .eq 18, 3) := by decide +kernel
theorem dX12_function_7 : decode cX12_function 7 = .ok (.aload_n 0, 1) := by decide +kernel
theorem dX12_function_8 : decode cX12_function 8 = .ok (.getfield 64, 3) := by decide +kernel
theorem dX12_function_11 : decode cX12_function 11 = .ok (.getfield 163, 3) := by decide +kernel
theorem dX12_function_14 : decode cX12_function 14 = .ok (.iload_n 1, 1) := by decide +kernel
theorem dX12_function_15 : decode cX12_function 15 = .ok (.iload_n 2, 1) := by decide +kernel
theorem dX12_function_16 : decode cX12_function 16 = .ok (.invokevirtual 191, 3) := by decide +kernel
theorem dX12_function_19 : decode cX12_function 19 = .ok (.goto 4, 3) := by decide +kernel
theorem dX12_function_22 : decode cX12_function 22 = .ok (.iconst (-1), 1) := by decide +kernel
theorem dX12_function_23 : decode cX12_function 23 = .ok (.ireturn, 1) := by decide +kernel
theorem dX12_size_0 : decode cX12_size 0 = .ok (.aload_n 0, 1) := by decide +kernel
theorem dX12_size_1 : decode cX12_size 1 = .ok (.getfield 96, 3) := by decide +kernel
theorem dX12_size_4 : decode cX12_size 4 = .ok (.ifCond .eq 21, 3) := by decide +kernel
theorem dX12_size_7 : decode cX12_size 7 = .ok (.iload_n 1, 1) := by decide +kernel
theorem dX12_size_8 : decode cX12_size 8 = .ok (.ifCond .lt 17, 3) := by decide +kernel
theorem dX12_size_11 : decode cX12_size 11 = .ok (.iload_n 1, 1) := by decide +kernel
theorem dX12_size_12 : decode cX12_size 12 = .ok (.aload_n 0, 1) := by decide +kernel
theorem dX12_size_13 : decode cX12_size 13 = .ok (.getfield 64, 3) := by decide +kernel
theorem dX12_size_16 : decode cX12_size 16 = .ok (.getfield 154, 3) := by decide +kernel
theorem dX12_size_19 : decode cX12_size 19 = .ok (.getfield 158, 3) := by decide +kernel
theorem dX12_size_22 : decode cX12_size 22 = .ok (.if_icmp .lt 5, 3) := by decide +kernel
theorem dX12_size_25 : decode cX12_size 25 = .ok (.iconst (-1), 1) := by decide +kernel
theorem dX12_size_26 : decode cX12_size 26 = .ok (.ireturn, 1) := by decide +kernel
theorem dX12_size_27 : decode cX12_size 27 = .ok (.aload_n 0, 1) := by decide +kernel
theorem dX12_size_28 : decode cX12_size 28 = .ok (.getfield 64, 3) := by decide +kernel
theorem dX12_size_31 : decode cX12_size 31 = .ok (.getfield 154, 3) := by decide +kernel
theorem dX12_size_34 : decode cX12_size 34 = .ok (.getfield 192, 3) := by decide +kernel
theorem dX12_size_37 : decode cX12_size 37 = .ok (.iload_n 1, 1) := by decide +kernel
theorem dX12_size_38 : decode cX12_size 38 = .ok (.iaload, 1) := by decide +kernel
theorem dX12_size_39 : decode cX12_size 39 = .ok (.ireturn, 1) := by decide +kernel
theorem dX12_strays_0 : decode cX12_strays 0 = .ok (.aload_n 0, 1) := by decide +kernel
theorem dX12_strays_1 : decode cX12_strays 1 = .ok (.getfield 103, 3) := by decide +kernel
theorem dX12_strays_4 : decode cX12_strays 4 = .ok (.ifCond .eq 16, 3) := by decide +kernel
theorem dX12_strays_7 : decode cX12_strays 7 = .ok (.aload_n 0, 1) := by decide +kernel
theorem dX12_strays_8 : decode cX12_strays 8 = .ok (.getfield 57, 3) := by decide +kernel
theorem dX12_strays_11 : decode cX12_strays 11 = .ok (.getfield 144, 3) := by decide +kernel
theorem dX12_strays_14 : decode cX12_strays 14 = .ok (.getfield 196, 3) := by decide +kernel
theorem dX12_strays_17 : decode cX12_strays 17 = .ok (.goto 4, 3) := by decide +kernel
theorem dX12_strays_20 : decode cX12_strays 20 = .ok (.iconst 0, 1) := by decide +kernel
theorem dX12_strays_21 : decode cX12_strays 21 = .ok (.ireturn, 1) := by decide +kernel
theorem dX12_twices_0 : decode cX12_twices 0 = .ok (.aload_n 0, 1) := by decide +kernel
theorem dX12_twices_1 : decode cX12_twices 1 = .ok (.getfield 103, 3) := by decide +kernel
theorem dX12_twices_4 : decode cX12_twices 4 = .ok (.ifCond .eq 16, 3) := by decide +kernel
theorem dX12_twices_7 : decode cX12_twices 7 = .ok (.aload_n 0, 1) := by decide +kernel
theorem dX12_twices_8 : decode cX12_twices 8 = .ok (.getfield 57, 3) := by decide +kernel
theorem dX12_twices_11 : decode cX12_twices 11 = .ok (.getfield 144, 3) := by decide +kernel
theorem dX12_twices_14 : decode cX12_twices 14 = .ok (.getfield 199, 3) := by decide +kernel
theorem dX12_twices_17 : decode cX12_twices 17 = .ok (.goto 4, 3) := by decide +kernel
theorem dX12_twices_20 : decode cX12_twices 20 = .ok (.iconst 0, 1) := by decide +kernel
theorem dX12_twices_21 : decode cX12_twices 21 = .ok (.ireturn, 1) := by decide +kernel
theorem dX12_lefts_0 : decode cX12_lefts 0 = .ok (.aload_n 0, 1) := by decide +kernel
theorem dX12_lefts_1 : decode cX12_lefts 1 = .ok (.getfield 103, 3) := by decide +kernel
theorem dX12_lefts_4 : decode cX12_lefts 4 = .ok (.ifCond .eq 13, 3) := by decide +kernel
theorem dX12_lefts_7 : decode cX12_lefts 7 = .ok (.aload_n 0, 1) := by decide +kernel
theorem dX12_lefts_8 : decode cX12_lefts 8 = .ok (.getfield 57, 3) := by decide +kernel
theorem dX12_lefts_11 : decode cX12_lefts 11 = .ok (.invokevirtual 202, 3) := by decide +kernel
theorem dX12_lefts_14 : decode cX12_lefts 14 = .ok (.goto 4, 3) := by decide +kernel
theorem dX12_lefts_17 : decode cX12_lefts 17 = .ok (.iconst 0, 1) := by decide +kernel
theorem dX12_lefts_18 : decode cX12_lefts 18 = .ok (.ireturn, 1) := by decide +kernel
theorem dX12_clashes_0 : decode cX12_clashes 0 = .ok (.iconst 0, 1) := by decide +kernel
theorem dX12_clashes_1 : decode cX12_clashes 1 = .ok (.ireturn, 1) := by decide +kernel
theorem dX8_init_0 : decode cX8_init 0 = .ok (.aload_n 0, 1) := by decide +kernel
theorem dX8_init_1 : decode cX8_init 1 = .ok (.invokespecial 3, 3) := by decide +kernel
theorem dX8_init_4 : decode cX8_init 4 = .ok (.aload_n 0, 1) := by decide +kernel
theorem dX8_init_5 : decode cX8_init 5 = .ok (.sipush 3016, 3) := by decide +kernel
theorem dX8_init_8 : decode cX8_init 8 = .ok (.newarray .int, 2) := by decide +kernel
theorem dX8_init_10 : decode cX8_init 10 = .ok (.putfield 9, 3) := by decide +kernel
theorem dX8_init_13 : decode cX8_init 13 = .ok (.aload_n 0, 1) := by decide +kernel
theorem dX8_init_14 : decode cX8_init 14 = .ok (.sipush 3016, 3) := by decide +kernel
theorem dX8_init_17 : decode cX8_init 17 = .ok (.newarray .int, 2) := by decide +kernel
theorem dX8_init_19 : decode cX8_init 19 = .ok (.putfield 15, 3) := by decide +kernel
theorem dX8_init_22 : decode cX8_init 22 = .ok (.aload_n 0, 1) := by decide +kernel
theorem dX8_init_23 : decode cX8_init 23 = .ok (.sipush 3016, 3) := by decide +kernel
theorem dX8_init_26 : decode cX8_init 26 = .ok (.newarray .int, 2) := by decide +kernel
theorem dX8_init_28 : decode cX8_init 28 = .ok (.putfield 18, 3) := by decide +kernel
theorem dX8_init_31 : decode cX8_init 31 = .ok (.aload_n 0, 1) := by decide +kernel
theorem dX8_init_32 : decode cX8_init 32 = .ok (.sipush 3016, 3) := by decide +kernel
theorem dX8_init_35 : decode cX8_init 35 = .ok (.newarray .int, 2) := by decide +kernel
theorem dX8_init_37 : decode cX8_init 37 = .ok (.putfield 21, 3) := by decide +kernel
theorem dX8_init_40 : decode cX8_init 40 = .ok (.aload_n 0, 1) := by decide +kernel
theorem dX8_init_41 : decode cX8_init 41 = .ok (.sipush 3016, 3) := by decide +kernel
theorem dX8_init_44 : decode cX8_init 44 = .ok (.newarray .int, 2) := by decide +kernel
theorem dX8_init_46 : decode cX8_init 46 = .ok (.putfield 24, 3) := by decide +kernel
theorem dX8_init_49 : decode cX8_init 49 = .ok (.aload_n 0, 1) := by decide +kernel
theorem dX8_init_50 : decode cX8_init 50 = .ok (.sipush 3016, 3) := by decide +kernel
theorem dX8_init_53 : decode cX8_init 53 = .ok (.newarray .int, 2) := by decide +kernel
theorem dX8_init_55 : decode cX8_init 55 = .ok (.putfield 27, 3) := by decide +kernel
theorem dX8_init_58 : decode cX8_init 58 = .ok (.aload_n 0, 1) := by decide +kernel
theorem dX8_init_59 : decode cX8_init 59 = .ok (.sipush 3016, 3) := by decide +kernel
theorem dX8_init_62 : decode cX8_init 62 = .ok (.newarray .int, 2) := by decide +kernel
theorem dX8_init_64 : decode cX8_init 64 = .ok (.putfield 30, 3) := by decide +kernel
theorem dX8_init_67 : decode cX8_init 67 = .ok (.aload_n 0, 1) := by decide +kernel
theorem dX8_init_68 : decode cX8_init 68 = .ok (.sipush 3016, 3) := by decide +kernel
theorem dX8_init_71 : decode cX8_init 71 = .ok (.newarray .int, 2) := by decide +kernel
theorem dX8_init_73 : decode cX8_init 73 = .ok (.putfield 33, 3) := by decide +kernel
theorem dX8_init_76 : decode cX8_init 76 = .ok (.aload_n 0, 1) := by decide +kernel
theorem dX8_init_77 : decode cX8_init 77 = .ok (.sipush 3016, 3) := by decide +kernel
theorem dX8_init_80 : decode cX8_init 80 = .ok (.newarray .long, 2) := by decide +kernel
theorem dX8_init_82 : decode cX8_init 82 = .ok (.putfield 36, 3) := by decide +kernel
theorem dX8_init_85 : decode cX8_init 85 = .ok (.aload_n 0, 1) := by decide +kernel
theorem dX8_init_86 : decode cX8_init 86 = .ok (.sipush 3016, 3) := by decide +kernel
theorem dX8_init_89 : decode cX8_init 89 = .ok (.newarray .int, 2) := by decide +kernel
theorem dX8_init_91 : decode cX8_init 91 = .ok (.putfield 40, 3) := by decide +kernel
theorem dX8_init_94 : decode cX8_init 94 = .ok (.aload_n 0, 1) := by decide +kernel
theorem dX8_init_95 : decode cX8_init 95 = .ok (.sipush 3016, 3) := by decide +kernel
theorem dX8_init_98 : decode cX8_init 98 = .ok (.newarray .int, 2) := by decide +kernel
theorem dX8_init_100 : decode cX8_init 100 = .ok (.putfield 43, 3) := by decide +kernel
theorem dX8_init_103 : decode cX8_init 103 = .ok (.aload_n 0, 1) := by decide +kernel
theorem dX8_init_104 : decode cX8_init 104 = .ok (.iconst 1, 1) := by decide +kernel
theorem dX8_init_105 : decode cX8_init 105 = .ok (.putfield 46, 3) := by decide +kernel
theorem dX8_init_108 : decode cX8_init 108 = .ok (.return_, 1) := by decide +kernel
theorem dX8_clear_0 : decode cX8_clear 0 = .ok (.aload_n 0, 1) := by decide +kernel
theorem dX8_clear_1 : decode cX8_clear 1 = .ok (.iconst 1, 1) := by decide +kernel
theorem dX8_clear_2 : decode cX8_clear 2 = .ok (.putfield 46, 3) := by decide +kernel
theorem dX8_clear_5 : decode cX8_clear 5 = .ok (.return_, 1) := by decide +kernel
theorem dX8_add_0 : decode cX8_add 0 = .ok (.aload_n 0, 1) := by decide +kernel
theorem dX8_add_1 : decode cX8_add 1 = .ok (.getfield 46, 3) := by decide +kernel
theorem dX8_add_4 : decode cX8_add 4 = .ok (.sipush 3016, 3) := by decide +kernel
theorem dX8_add_7 : decode cX8_add 7 = .ok (.if_icmp .lt 5, 3) := by decide +kernel
theorem dX8_add_10 : decode cX8_add 10 = .ok (.iconst 0, 1) := by decide +kernel
theorem dX8_add_11 : decode cX8_add 11 = .ok (.ireturn, 1) := by decide +kernel
theorem dX8_add_12 : decode cX8_add 12 = .ok (.aload_n 0, 1) := by decide +kernel
theorem dX8_add_13 : decode cX8_add 13 = .ok (.getfield 46, 3) := by decide +kernel
theorem dX8_add_16 : decode cX8_add 16 = .ok (.istore_n 3, 1) := by decide +kernel
theorem dX8_add_17 : decode cX8_add 17 = .ok (.aload_n 0, 1) := by decide +kernel
theorem dX8_add_18 : decode cX8_add 18 = .ok (.dup, 1) := by decide +kernel
theorem dX8_add_19 : decode cX8_add 19 = .ok (.getfield 46, 3) := by decide +kernel
theorem dX8_add_22 : decode cX8_add 22 = .ok (.iconst 1, 1) := by decide +kernel
theorem dX8_add_23 : decode cX8_add 23 = .ok (.iadd, 1) := by decide +kernel
theorem dX8_add_24 : decode cX8_add 24 = .ok (.putfield 46, 3) := by decide +kernel
theorem dX8_add_27 : decode cX8_add 27 = .ok (.aload_n 0, 1) := by decide +kernel
theorem dX8_add_28 : decode cX8_add 28 = .ok (.getfield 9, 3) := by decide +kernel
theorem dX8_add_31 : decode cX8_add 31 = .ok (.iload_n 3, 1) := by decide +kernel
theorem dX8_add_32 : decode cX8_add 32 = .ok (.iload_n 1, 1) := by decide +kernel
theorem dX8_add_33 : decode cX8_add 33 = .ok (.iastore, 1) := by decide +kernel
theorem dX8_add_34 : decode cX8_add 34 = .ok (.aload_n 0, 1) := by decide +kernel
theorem dX8_add_35 : decode cX8_add 35 = .ok (.getfield 15, 3) := by decide +kernel
theorem dX8_add_38 : decode cX8_add 38 = .ok (.iload_n 3, 1) := by decide +kernel
theorem dX8_add_39 : decode cX8_add 39 = .ok (.iload_n 2, 1) := by decide +kernel
theorem dX8_add_40 : decode cX8_add 40 = .ok (.iastore, 1) := by decide +kernel
theorem dX8_add_41 : decode cX8_add 41 = .ok (.aload_n 0, 1) := by decide +kernel
theorem dX8_add_42 : decode cX8_add 42 = .ok (.getfield 18, 3) := by decide +kernel
theorem dX8_add_45 : decode cX8_add 45 = .ok (.iload_n 3, 1) := by decide +kernel
theorem dX8_add_46 : decode cX8_add 46 = .ok (.iload_n 2, 1) := by decide +kernel
theorem dX8_add_47 : decode cX8_add 47 = .ok (.iastore, 1) := by decide +kernel
theorem dX8_add_48 : decode cX8_add 48 = .ok (.aload_n 0, 1) := by decide +kernel
theorem dX8_add_49 : decode cX8_add 49 = .ok (.getfield 21, 3) := by decide +kernel
theorem dX8_add_52 : decode cX8_add 52 = .ok (.iload_n 3, 1) := by decide +kernel
theorem dX8_add_53 : decode cX8_add 53 = .ok (.iconst 0, 1) := by decide +kernel
theorem dX8_add_54 : decode cX8_add 54 = .ok (.iastore, 1) := by decide +kernel
theorem dX8_add_55 : decode cX8_add 55 = .ok (.aload_n 0, 1) := by decide +kernel
theorem dX8_add_56 : decode cX8_add 56 = .ok (.getfield 24, 3) := by decide +kernel
theorem dX8_add_59 : decode cX8_add 59 = .ok (.iload_n 3, 1) := by decide +kernel
theorem dX8_add_60 : decode cX8_add 60 = .ok (.iconst 0, 1) := by decide +kernel
theorem dX8_add_61 : decode cX8_add 61 = .ok (.iastore, 1) := by decide +kernel
theorem dX8_add_62 : decode cX8_add 62 = .ok (.aload_n 0, 1) := by decide +kernel
theorem dX8_add_63 : decode cX8_add 63 = .ok (.getfield 27, 3) := by decide +kernel
theorem dX8_add_66 : decode cX8_add 66 = .ok (.iload_n 3, 1) := by decide +kernel
theorem dX8_add_67 : decode cX8_add 67 = .ok (.iconst 0, 1) := by decide +kernel
theorem dX8_add_68 : decode cX8_add 68 = .ok (.iastore, 1) := by decide +kernel
theorem dX8_add_69 : decode cX8_add 69 = .ok (.aload_n 0, 1) := by decide +kernel
theorem dX8_add_70 : decode cX8_add 70 = .ok (.getfield 30, 3) := by decide +kernel
theorem dX8_add_73 : decode cX8_add 73 = .ok (.iload_n 3, 1) := by decide +kernel
theorem dX8_add_74 : decode cX8_add 74 = .ok (.iconst 0, 1) := by decide +kernel
theorem dX8_add_75 : decode cX8_add 75 = .ok (.iastore, 1) := by decide +kernel
theorem dX8_add_76 : decode cX8_add 76 = .ok (.aload_n 0, 1) := by decide +kernel
theorem dX8_add_77 : decode cX8_add 77 = .ok (.getfield 33, 3) := by decide +kernel
theorem dX8_add_80 : decode cX8_add 80 = .ok (.iload_n 3, 1) := by decide +kernel
theorem dX8_add_81 : decode cX8_add 81 = .ok (.iconst 0, 1) := by decide +kernel
theorem dX8_add_82 : decode cX8_add 82 = .ok (.iastore, 1) := by decide +kernel
theorem dX8_add_83 : decode cX8_add 83 = .ok (.aload_n 0, 1) := by decide +kernel
theorem dX8_add_84 : decode cX8_add 84 = .ok (.getfield 36, 3) := by decide +kernel
theorem dX8_add_87 : decode cX8_add 87 = .ok (.iload_n 3, 1) := by decide +kernel
theorem dX8_add_88 : decode cX8_add 88 = .ok (.lconst 0, 1) := by decide +kernel
theorem dX8_add_89 : decode cX8_add 89 = .ok (.lastore, 1) := by decide +kernel
theorem dX8_add_90 : decode cX8_add 90 = .ok (.aload_n 0, 1) := by decide +kernel
theorem dX8_add_91 : decode cX8_add 91 = .ok (.getfield 40, 3) := by decide +kernel
theorem dX8_add_94 : decode cX8_add 94 = .ok (.iload_n 3, 1) := by decide +kernel
theorem dX8_add_95 : decode cX8_add 95 = .ok (.iconst 0, 1) := by decide +kernel
theorem dX8_add_96 : decode cX8_add 96 = .ok (.iastore, 1) := by decide +kernel
theorem dX8_add_97 : decode cX8_add 97 = .ok (.aload_n 0, 1) := by decide +kernel
theorem dX8_add_98 : decode cX8_add 98 = .ok (.getfield 43, 3) := by decide +kernel
theorem dX8_add_101 : decode cX8_add 101 = .ok (.iload_n 3, 1) := by decide +kernel
theorem dX8_add_102 : decode cX8_add 102 = .ok (.iconst 0, 1) := by decide +kernel
theorem dX8_add_103 : decode cX8_add 103 = .ok (.iastore, 1) := by decide +kernel
theorem dX8_add_104 : decode cX8_add 104 = .ok (.iload_n 3, 1) := by decide +kernel
theorem dX8_add_105 : decode cX8_add 105 = .ok (.ireturn, 1) := by decide +kernel
theorem dX6_init_0 : decode cX6_init 0 = .ok (.aload_n 0, 1) := by decide +kernel
theorem dX6_init_1 : decode cX6_init 1 = .ok (.invokespecial 3, 3) := by decide +kernel
theorem dX6_init_4 : decode cX6_init 4 = .ok (.aload_n 0, 1) := by decide +kernel
theorem dX6_init_5 : decode cX6_init 5 = .ok (.ldc 9, 2) := by decide +kernel
theorem dX6_init_7 : decode cX6_init 7 = .ok (.invokevirtual 11, 3) := by decide +kernel
theorem dX6_init_10 : decode cX6_init 10 = .ok (.sipush 3000, 3) := by decide +kernel
theorem dX6_init_13 : decode cX6_init 13 = .ok (.iadd, 1) := by decide +kernel
theorem dX6_init_14 : decode cX6_init 14 = .ok (.newarray .byte, 2) := by decide +kernel
theorem dX6_init_16 : decode cX6_init 16 = .ok (.putfield 17, 3) := by decide +kernel
theorem dX6_init_19 : decode cX6_init 19 = .ok (.aload_n 0, 1) := by decide +kernel
theorem dX6_init_20 : decode cX6_init 20 = .ok (.sipush 1544, 3) := by decide +kernel
theorem dX6_init_23 : decode cX6_init 23 = .ok (.newarray .int, 2) := by decide +kernel
theorem dX6_init_25 : decode cX6_init 25 = .ok (.putfield 23, 3) := by decide +kernel
theorem dX6_init_28 : decode cX6_init 28 = .ok (.aload_n 0, 1) := by decide +kernel
theorem dX6_init_29 : decode cX6_init 29 = .ok (.sipush 1544, 3) := by decide +kernel
theorem dX6_init_32 : decode cX6_init 32 = .ok (.newarray .int, 2) := by decide +kernel
theorem dX6_init_34 : decode cX6_init 34 = .ok (.putfield 27, 3) := by decide +kernel
theorem dX6_init_37 : decode cX6_init 37 = .ok (.aload_n 0, 1) := by decide +kernel
theorem dX6_init_38 : decode cX6_init 38 = .ok (.sipush 1544, 3) := by decide +kernel
theorem dX6_init_41 : decode cX6_init 41 = .ok (.newarray .int, 2) := by decide +kernel
theorem dX6_init_43 : decode cX6_init 43 = .ok (.putfield 30, 3) := by decide +kernel
theorem dX6_init_46 : decode cX6_init 46 = .ok (.aload_n 0, 1) := by decide +kernel
theorem dX6_init_47 : decode cX6_init 47 = .ok (.sipush 256, 3) := by decide +kernel
theorem dX6_init_50 : decode cX6_init 50 = .ok (.newarray .int, 2) := by decide +kernel
theorem dX6_init_52 : decode cX6_init 52 = .ok (.putfield 33, 3) := by decide +kernel
theorem dX6_init_55 : decode cX6_init 55 = .ok (.aload_n 0, 1) := by decide +kernel
theorem dX6_init_56 : decode cX6_init 56 = .ok (.sipush 3001, 3) := by decide +kernel
theorem dX6_init_59 : decode cX6_init 59 = .ok (.newarray .int, 2) := by decide +kernel
theorem dX6_init_61 : decode cX6_init 61 = .ok (.putfield 36, 3) := by decide +kernel
theorem dX6_init_64 : decode cX6_init 64 = .ok (.aload_n 0, 1) := by decide +kernel
theorem dX6_init_65 : decode cX6_init 65 = .ok (.sipush 3001, 3) := by decide +kernel
theorem dX6_init_68 : decode cX6_init 68 = .ok (.newarray .int, 2) := by decide +kernel
theorem dX6_init_70 : decode cX6_init 70 = .ok (.putfield 39, 3) := by decide +kernel
theorem dX6_init_73 : decode cX6_init 73 = .ok (.aload_n 0, 1) := by decide +kernel
theorem dX6_init_74 : decode cX6_init 74 = .ok (.sipush 3001, 3) := by decide +kernel
theorem dX6_init_77 : decode cX6_init 77 = .ok (.newarray .long, 2) := by decide +kernel
theorem dX6_init_79 : decode cX6_init 79 = .ok (.putfield 42, 3) := by decide +kernel
theorem dX6_init_82 : decode cX6_init 82 = .ok (.aload_n 0, 1) := by decide +kernel
theorem dX6_init_83 : decode cX6_init 83 = .ok (.aload_n 1, 1) := by decide +kernel
theorem dX6_init_84 : decode cX6_init 84 = .ok (.putfield 46, 3) := by decide +kernel
theorem dX6_init_87 : decode cX6_init 87 = .ok (.iconst 0, 1) := by decide +kernel
theorem dX6_init_88 : decode cX6_init 88 = .ok (.istore_n 2, 1) := by decide +kernel
theorem dX6_init_89 : decode cX6_init 89 = .ok (.iload_n 2, 1) := by decide +kernel
theorem dX6_init_90 : decode cX6_init 90 = .ok (.ldc 9, 2) := by decide +kernel
theorem dX6_init_92 : decode cX6_init 92 = .ok (.invokevirtual 11, 3) := by decide +kernel
theorem dX6_init_95 : decode cX6_init 95 = .ok (.if_icmp .ge 22, 3) := by decide +kernel
theorem dX6_init_98 : decode cX6_init 98 = .ok (.aload_n 0, 1) := by decide +kernel
theorem dX6_init_99 : decode cX6_init 99 = .ok (.getfield 17, 3) := by decide +kernel
theorem dX6_init_102 : decode cX6_init 102 = .ok (.iload_n 2, 1) := by decide +kernel
theorem dX6_init_103 : decode cX6_init 103 = .ok (.ldc 9, 2) := by decide +kernel
theorem dX6_init_105 : decode cX6_init 105 = .ok (.iload_n 2, 1) := by decide +kernel
theorem dX6_init_106 : decode cX6_init 106 = .ok (.invokevirtual 50, 3) := by decide +kernel
theorem dX6_init_109 : decode cX6_init 109 = .ok (.i2b, 1) := by decide +kernel
theorem dX6_init_110 : decode cX6_init 110 = .ok (.bastore, 1) := by decide +kernel
theorem dX6_init_111 : decode cX6_init 111 = .ok (.iinc 2 1, 3) := by decide +kernel
theorem dX6_init_114 : decode cX6_init 114 = .ok (.goto (-25), 3) := by decide +kernel
theorem dX6_init_117 : decode cX6_init 117 = .ok (.return_, 1) := by decide +kernel
theorem dX6_read_0 : decode cX6_read 0 = .ok (.aload_n 1, 1) := by decide +kernel
theorem dX6_read_1 : decode cX6_read 1 = .ok (.iconst 0, 1) := by decide +kernel
theorem dX6_read_2 : decode cX6_read 2 = .ok (.aload_n 0, 1) := by decide +kernel
theorem dX6_read_3 : decode cX6_read 3 = .ok (.getfield 17, 3) := by decide +kernel
theorem dX6_read_6 : decode cX6_read 6 = .ok (.ldc 9, 2) := by decide +kernel
theorem dX6_read_8 : decode cX6_read 8 = .ok (.invokevirtual 11, 3) := by decide +kernel
theorem dX6_read_11 : decode cX6_read 11 = .ok (.iload_n 2, 1) := by decide +kernel
theorem dX6_read_12 : decode cX6_read 12 = .ok (.invokestatic 54, 3) := by decide +kernel
theorem dX6_read_15 : decode cX6_read 15 = .ok (.aload_n 0, 1) := by decide +kernel
theorem dX6_read_16 : decode cX6_read 16 = .ok (.ldc 9, 2) := by decide +kernel
theorem dX6_read_18 : decode cX6_read 18 = .ok (.invokevirtual 11, 3) := by decide +kernel
theorem dX6_read_21 : decode cX6_read 21 = .ok (.putfield 60, 3) := by decide +kernel
theorem dX6_read_24 : decode cX6_read 24 = .ok (.aload_n 0, 1) := by decide +kernel
theorem dX6_read_25 : decode cX6_read 25 = .ok (.aload_n 0, 1) := by decide +kernel
theorem dX6_read_26 : decode cX6_read 26 = .ok (.getfield 60, 3) := by decide +kernel
theorem dX6_read_29 : decode cX6_read 29 = .ok (.iload_n 2, 1) := by decide +kernel
theorem dX6_read_30 : decode cX6_read 30 = .ok (.iadd, 1) := by decide +kernel
theorem dX6_read_31 : decode cX6_read 31 = .ok (.putfield 64, 3) := by decide +kernel
theorem dX6_read_34 : decode cX6_read 34 = .ok (.aload_n 0, 1) := by decide +kernel
theorem dX6_read_35 : decode cX6_read 35 = .ok (.iconst 0, 1) := by decide +kernel
theorem dX6_read_36 : decode cX6_read 36 = .ok (.putfield 67, 3) := by decide +kernel
theorem dX6_read_39 : decode cX6_read 39 = .ok (.aload_n 0, 1) := by decide +kernel
theorem dX6_read_40 : decode cX6_read 40 = .ok (.iconst (-1), 1) := by decide +kernel
theorem dX6_read_41 : decode cX6_read 41 = .ok (.putfield 70, 3) := by decide +kernel
theorem dX6_read_44 : decode cX6_read 44 = .ok (.aload_n 0, 1) := by decide +kernel
theorem dX6_read_45 : decode cX6_read 45 = .ok (.invokevirtual 73, 3) := by decide +kernel
theorem dX6_read_48 : decode cX6_read 48 = .ok (.aload_n 0, 1) := by decide +kernel
theorem dX6_read_49 : decode cX6_read 49 = .ok (.invokevirtual 76, 3) := by decide +kernel
theorem dX6_read_52 : decode cX6_read 52 = .ok (.aload_n 0, 1) := by decide +kernel
theorem dX6_read_53 : decode cX6_read 53 = .ok (.getfield 46, 3) := by decide +kernel
theorem dX6_read_56 : decode cX6_read 56 = .ok (.invokevirtual 79, 3) := by decide +kernel
theorem dX6_read_59 : decode cX6_read 59 = .ok (.aload_n 0, 1) := by decide +kernel
theorem dX6_read_60 : decode cX6_read 60 = .ok (.iconst (-1), 1) := by decide +kernel
theorem dX6_read_61 : decode cX6_read 61 = .ok (.putfield 84, 3) := by decide +kernel
theorem dX6_read_64 : decode cX6_read 64 = .ok (.aload_n 0, 1) := by decide +kernel
theorem dX6_read_65 : decode cX6_read 65 = .ok (.invokevirtual 87, 3) := by decide +kernel
theorem dX6_read_68 : decode cX6_read 68 = .ok (.aload_n 0, 1) := by decide +kernel
theorem dX6_read_69 : decode cX6_read 69 = .ok (.getfield 46, 3) := by decide +kernel
theorem dX6_read_72 : decode cX6_read 72 = .ok (.sipush 300, 3) := by decide +kernel
theorem dX6_read_75 : decode cX6_read 75 = .ok (.iconst 0, 1) := by decide +kernel
theorem dX6_read_76 : decode cX6_read 76 = .ok (.invokevirtual 90, 3) := by decide +kernel
theorem dX6_read_79 : decode cX6_read 79 = .ok (.istore_n 3, 1) := by decide +kernel
theorem dX6_read_80 : decode cX6_read 80 = .ok (.iconst 0, 1) := by decide +kernel
theorem dX6_read_81 : decode cX6_read 81 = .ok (.istore 4, 2) := by decide +kernel
theorem dX6_read_83 : decode cX6_read 83 = .ok (.iconst 0, 1) := by decide +kernel
theorem dX6_read_84 : decode cX6_read 84 = .ok (.istore 5, 2) := by decide +kernel
theorem dX6_read_86 : decode cX6_read 86 = .ok (.iload 5, 2) := by decide +kernel
theorem dX6_read_88 : decode cX6_read 88 = .ok (.sipush 3000, 3) := by decide +kernel
theorem dX6_read_91 : decode cX6_read 91 = .ok (.if_icmp .gt 119, 3) := by decide +kernel
theorem dX6_read_94 : decode cX6_read 94 = .ok (.aload_n 0, 1) := by decide +kernel
theorem dX6_read_95 : decode cX6_read 95 = .ok (.getfield 94, 3) := by decide +kernel
theorem dX6_read_98 : decode cX6_read 98 = .ok (.ifCond .eq 112, 3) := by decide +kernel
theorem dX6_read_101 : decode cX6_read 101 = .ok (.aload_n 0, 1) := by decide +kernel
theorem dX6_read_102 : decode cX6_read 102 = .ok (.getfield 70, 3) := by decide +kernel
theorem dX6_read_105 : decode cX6_read 105 = .ok (.ifCond .ge 105, 3) := by decide +kernel
theorem dX6_read_108 : decode cX6_read 108 = .ok (.aload_n 0, 1) := by decide +kernel
theorem dX6_read_109 : decode cX6_read 109 = .ok (.getfield 97, 3) := by decide +kernel
theorem dX6_read_112 : decode cX6_read 112 = .ok (.istore 6, 2) := by decide +kernel
theorem dX6_read_114 : decode cX6_read 114 = .ok (.iconst 0, 1) := by decide +kernel
theorem dX6_read_115 : decode cX6_read 115 = .ok (.istore 7, 2) := by decide +kernel
theorem dX6_read_117 : decode cX6_read 117 = .ok (.aload_n 0, 1) := by decide +kernel
theorem dX6_read_118 : decode cX6_read 118 = .ok (.getfield 94, 3) := by decide +kernel
theorem dX6_read_121 : decode cX6_read 121 = .ok (.sipush 200, 3) := by decide +kernel
theorem dX6_read_124 : decode cX6_read 124 = .ok (.if_icmp .ne 12, 3) := by decide +kernel
theorem dX6_read_127 : decode cX6_read 127 = .ok (.aload_n 0, 1) := by decide +kernel
theorem dX6_read_128 : decode cX6_read 128 = .ok (.invokevirtual 100, 3) := by decide +kernel
theorem dX6_read_131 : decode cX6_read 131 = .ok (.istore 7, 2) := by decide +kernel
theorem dX6_read_133 : decode cX6_read 133 = .ok (.goto 45, 3) := by decide +kernel
theorem dX6_read_136 : decode cX6_read 136 = .ok (.aload_n 0, 1) := by decide +kernel
theorem dX6_read_137 : decode cX6_read 137 = .ok (.getfield 94, 3) := by decide +kernel
theorem dX6_read_140 : decode cX6_read 140 = .ok (.sipush 201, 3) := by decide +kernel
theorem dX6_read_143 : decode cX6_read 143 = .ok (.if_icmp .ne 12, 3) := by decide +kernel
theorem dX6_read_146 : decode cX6_read 146 = .ok (.aload_n 0, 1) := by decide +kernel
theorem dX6_read_147 : decode cX6_read 147 = .ok (.invokevirtual 103, 3) := by decide +kernel
theorem dX6_read_150 : decode cX6_read 150 = .ok (.istore 7, 2) := by decide +kernel
theorem dX6_read_152 : decode cX6_read 152 = .ok (.goto 26, 3) := by decide +kernel
theorem dX6_read_155 : decode cX6_read 155 = .ok (.aload_n 0, 1) := by decide +kernel
theorem dX6_read_156 : decode cX6_read 156 = .ok (.getfield 94, 3) := by decide +kernel
theorem dX6_read_159 : decode cX6_read 159 = .ok (.sipush 203, 3) := by decide +kernel
theorem dX6_read_162 : decode cX6_read 162 = .ok (.if_icmp .ne 12, 3) := by decide +kernel
theorem dX6_read_165 : decode cX6_read 165 = .ok (.aload_n 0, 1) := by decide +kernel
theorem dX6_read_166 : decode cX6_read 166 = .ok (.invokevirtual 106, 3) := by decide +kernel
theorem dX6_read_169 : decode cX6_read 169 = .ok (.istore 7, 2) := by decide +kernel
theorem dX6_read_171 : decode cX6_read 171 = .ok (.goto 7, 3) := by decide +kernel
theorem dX6_read_174 : decode cX6_read 174 = .ok (.aload_n 0, 1) := by decide +kernel
theorem dX6_read_175 : decode cX6_read 175 = .ok (.invokevirtual 109, 3) := by decide +kernel
theorem dX6_read_178 : decode cX6_read 178 = .ok (.aload_n 0, 1) := by decide +kernel
theorem dX6_read_179 : decode cX6_read 179 = .ok (.getfield 46, 3) := by decide +kernel
theorem dX6_read_182 : decode cX6_read 182 = .ok (.getfield 112, 3) := by decide +kernel
theorem dX6_read_185 : decode cX6_read 185 = .ok (.iload 7, 2) := by decide +kernel
theorem dX6_read_187 : decode cX6_read 187 = .ok (.iload 6, 2) := by decide +kernel
theorem dX6_read_189 : decode cX6_read 189 = .ok (.iastore, 1) := by decide +kernel
theorem dX6_read_190 : decode cX6_read 190 = .ok (.aload_n 0, 1) := by decide +kernel
theorem dX6_read_191 : decode cX6_read 191 = .ok (.getfield 46, 3) := by decide +kernel
theorem dX6_read_194 : decode cX6_read 194 = .ok (.iload_n 3, 1) := by decide +kernel
theorem dX6_read_195 : decode cX6_read 195 = .ok (.iload 4, 2) := by decide +kernel
theorem dX6_read_197 : decode cX6_read 197 = .ok (.iload 7, 2) := by decide +kernel
theorem dX6_read_199 : decode cX6_read 199 = .ok (.invokevirtual 115, 3) := by decide +kernel
theorem dX6_read_202 : decode cX6_read 202 = .ok (.istore 4, 2) := by decide +kernel
theorem dX6_read_204 : decode cX6_read 204 = .ok (.iinc 5 1, 3) := by decide +kernel
theorem dX6_read_207 : decode cX6_read 207 = .ok (.goto (-121), 3) := by decide +kernel
theorem dX6_read_210 : decode cX6_read 210 = .ok (.aload_n 0, 1) := by decide +kernel
theorem dX6_read_211 : decode cX6_read 211 = .ok (.getfield 70, 3) := by decide +kernel
theorem dX6_read_214 : decode cX6_read 214 = .ok (.ireturn, 1) := by decide +kernel
theorem dX6_takeWords_0 : decode cX6_takeWords 0 = .ok (.aload_n 0, 1) := by decide +kernel
theorem dX6_takeWords_1 : decode cX6_takeWords 1 = .ok (.iconst 0, 1) := by decide +kernel
theorem dX6_takeWords_2 : decode cX6_takeWords 2 = .ok (.putfield 119, 3) := by decide +kernel
theorem dX6_takeWords_5 : decode cX6_takeWords 5 = .ok (.iconst 0, 1) := by decide +kernel
theorem dX6_takeWords_6 : decode cX6_takeWords 6 = .ok (.istore_n 1, 1) := by decide +kernel
theorem dX6_takeWords_7 : decode cX6_takeWords 7 = .ok (.iload_n 1, 1) := by decide +kernel
theorem dX6_takeWords_8 : decode cX6_takeWords 8 = .ok (.aload_n 0, 1) := by decide +kernel
theorem dX6_takeWords_9 : decode cX6_takeWords 9 = .ok (.getfield 33, 3) := by decide +kernel
theorem dX6_takeWords_12 : decode cX6_takeWords 12 = .ok (.arraylength, 1) := by decide +kernel
theorem dX6_takeWords_13 : decode cX6_takeWords 13 = .ok (.if_icmp .ge 16, 3) := by decide +kernel
theorem dX6_takeWords_16 : decode cX6_takeWords 16 = .ok (.aload_n 0, 1) := by decide +kernel
theorem dX6_takeWords_17 : decode cX6_takeWords 17 = .ok (.getfield 33, 3) := by decide +kernel
theorem dX6_takeWords_20 : decode cX6_takeWords 20 = .ok (.iload_n 1, 1) := by decide +kernel
theorem dX6_takeWords_21 : decode cX6_takeWords 21 = .ok (.iconst (-1), 1) := by decide +kernel
theorem dX6_takeWords_22 : decode cX6_takeWords 22 = .ok (.iastore, 1) := by decide +kernel
theorem dX6_takeWords_23 : decode cX6_takeWords 23 = .ok (.iinc 1 1, 3) := by decide +kernel
theorem dX6_takeWords_26 : decode cX6_takeWords 26 = .ok (.goto (-19), 3) := by decide +kernel
theorem dX6_takeWords_29 : decode cX6_takeWords 29 = .ok (.iconst 0, 1) := by decide +kernel
theorem dX6_takeWords_30 : decode cX6_takeWords 30 = .ok (.istore_n 1, 1) := by decide +kernel
theorem dX6_takeWords_31 : decode cX6_takeWords 31 = .ok (.iconst 0, 1) := by decide +kernel
theorem dX6_takeWords_32 : decode cX6_takeWords 32 = .ok (.istore_n 2, 1) := by decide +kernel
theorem dX6_takeWords_33 : decode cX6_takeWords 33 = .ok (.iload_n 2, 1) := by decide +kernel
theorem dX6_takeWords_34 : decode cX6_takeWords 34 = .ok (.ldc 9, 2) := by decide +kernel
theorem dX6_takeWords_36 : decode cX6_takeWords 36 = .ok (.invokevirtual 11, 3) := by decide +kernel
theorem dX6_takeWords_39 : decode cX6_takeWords 39 = .ok (.if_icmp .gt 42, 3) := by decide +kernel
theorem dX6_takeWords_42 : decode cX6_takeWords 42 = .ok (.iload_n 2, 1) := by decide +kernel
theorem dX6_takeWords_43 : decode cX6_takeWords 43 = .ok (.ldc 9, 2) := by decide +kernel
theorem dX6_takeWords_45 : decode cX6_takeWords 45 = .ok (.invokevirtual 11, 3) := by decide +kernel
theorem dX6_takeWords_48 : decode cX6_takeWords 48 = .ok (.if_icmp .eq 14, 3) := by decide +kernel
theorem dX6_takeWords_51 : decode cX6_takeWords 51 = .ok (.ldc 9, 2) := by decide +kernel
theorem dX6_takeWords_53 : decode cX6_takeWords 53 = .ok (.iload_n 2, 1) := by decide +kernel
theorem dX6_takeWords_54 : decode cX6_takeWords 54 = .ok (.invokevirtual 50, 3) := by decide +kernel
theorem dX6_takeWords_57 : decode cX6_takeWords 57 = .ok (.bipush 32, 2) := by decide +kernel
theorem dX6_takeWords_59 : decode cX6_takeWords 59 = .ok (.if_icmp .ne 16, 3) := by decide +kernel
theorem dX6_takeWords_62 : decode cX6_takeWords 62 = .ok (.aload_n 0, 1) := by decide +kernel
theorem dX6_takeWords_63 : decode cX6_takeWords 63 = .ok (.iload_n 1, 1) := by decide +kernel
theorem dX6_takeWords_64 : decode cX6_takeWords 64 = .ok (.iload_n 2, 1) := by decide +kernel
theorem dX6_takeWords_65 : decode cX6_takeWords 65 = .ok (.iload_n 1, 1) := by decide +kernel
theorem dX6_takeWords_66 : decode cX6_takeWords 66 = .ok (.isub, 1) := by decide +kernel
theorem dX6_takeWords_67 : decode cX6_takeWords 67 = .ok (.invokevirtual 122, 3) := by decide +kernel
theorem dX6_takeWords_70 : decode cX6_takeWords 70 = .ok (.pop, 1) := by decide +kernel
theorem dX6_takeWords_71 : decode cX6_takeWords 71 = .ok (.iload_n 2, 1) := by decide +kernel
theorem dX6_takeWords_72 : decode cX6_takeWords 72 = .ok (.iconst 1, 1) := by decide +kernel
theorem dX6_takeWords_73 : decode cX6_takeWords 73 = .ok (.iadd, 1) := by decide +kernel
theorem dX6_takeWords_74 : decode cX6_takeWords 74 = .ok (.istore_n 1, 1) := by decide +kernel
theorem dX6_takeWords_75 : decode cX6_takeWords 75 = .ok (.iinc 2 1, 3) := by decide +kernel
theorem dX6_takeWords_78 : decode cX6_takeWords 78 = .ok (.goto (-45), 3) := by decide +kernel
theorem dX6_takeWords_81 : decode cX6_takeWords 81 = .ok (.return_, 1) := by decide +kernel
theorem dX6_nameOf_0 : decode cX6_nameOf 0 = .ok (.iconst 0, 1) := by decide +kernel
theorem dX6_nameOf_1 : decode cX6_nameOf 1 = .ok (.istore_n 3, 1) := by decide +kernel
theorem dX6_nameOf_2 : decode cX6_nameOf 2 = .ok (.iconst 0, 1) := by decide +kernel
theorem dX6_nameOf_3 : decode cX6_nameOf 3 = .ok (.istore 4, 2) := by decide +kernel
theorem dX6_nameOf_5 : decode cX6_nameOf 5 = .ok (.iload 4, 2) := by decide +kernel
theorem dX6_nameOf_7 : decode cX6_nameOf 7 = .ok (.iload_n 2, 1) := by decide +kernel
theorem dX6_nameOf_8 : decode cX6_nameOf 8 = .ok (.if_icmp .ge 24, 3) := by decide +kernel
theorem dX6_nameOf_11 : decode cX6_nameOf 11 = .ok (.iload_n 3, 1) := by decide +kernel
theorem dX6_nameOf_12 : decode cX6_nameOf 12 = .ok (.bipush 31, 2) := by decide +kernel
theorem dX6_nameOf_14 : decode cX6_nameOf 14 = .ok (.imul, 1) := by decide +kernel
theorem dX6_nameOf_15 : decode cX6_nameOf 15 = .ok (.aload_n 0, 1) := by decide +kernel
theorem dX6_nameOf_16 : decode cX6_nameOf 16 = .ok (.getfield 17, 3) := by decide +kernel
theorem dX6_nameOf_19 : decode cX6_nameOf 19 = .ok (.iload_n 1, 1) := by decide +kernel
theorem dX6_nameOf_20 : decode cX6_nameOf 20 = .ok (.iload 4, 2) := by decide +kernel
theorem dX6_nameOf_22 : decode cX6_nameOf 22 = .ok (.iadd, 1) := by decide +kernel
theorem dX6_nameOf_23 : decode cX6_nameOf 23 = .ok (.baload, 1) := by decide +kernel
theorem dX6_nameOf_24 : decode cX6_nameOf 24 = .ok (.iadd, 1) := by decide +kernel
theorem dX6_nameOf_25 : decode cX6_nameOf 25 = .ok (.istore_n 3, 1) := by decide +kernel
theorem dX6_nameOf_26 : decode cX6_nameOf 26 = .ok (.iinc 4 1, 3) := by decide +kernel
theorem dX6_nameOf_29 : decode cX6_nameOf 29 = .ok (.goto (-24), 3) := by decide +kernel
theorem dX6_nameOf_32 : decode cX6_nameOf 32 = .ok (.iload_n 3, 1) := by decide +kernel
theorem dX6_nameOf_33 : decode cX6_nameOf 33 = .ok (.sipush 255, 3) := by decide +kernel
theorem dX6_nameOf_36 : decode cX6_nameOf 36 = .ok (.iand, 1) := by decide +kernel
theorem dX6_nameOf_37 : decode cX6_nameOf 37 = .ok (.istore 4, 2) := by decide +kernel
theorem dX6_nameOf_39 : decode cX6_nameOf 39 = .ok (.aload_n 0, 1) := by decide +kernel
theorem dX6_nameOf_40 : decode cX6_nameOf 40 = .ok (.getfield 33, 3) := by decide +kernel
theorem dX6_nameOf_43 : decode cX6_nameOf 43 = .ok (.iload 4, 2) := by decide +kernel
theorem dX6_nameOf_45 : decode cX6_nameOf 45 = .ok (.iaload, 1) := by decide +kernel
theorem dX6_nameOf_46 : decode cX6_nameOf 46 = .ok (.istore 5, 2) := by decide +kernel
theorem dX6_nameOf_48 : decode cX6_nameOf 48 = .ok (.iload 5, 2) := by decide +kernel
theorem dX6_nameOf_50 : decode cX6_nameOf 50 = .ok (.ifCond .lt 45, 3) := by decide +kernel
theorem dX6_nameOf_53 : decode cX6_nameOf 53 = .ok (.aload_n 0, 1) := by decide +kernel
theorem dX6_nameOf_54 : decode cX6_nameOf 54 = .ok (.getfield 27, 3) := by decide +kernel
theorem dX6_nameOf_57 : decode cX6_nameOf 57 = .ok (.iload 5, 2) := by decide +kernel
theorem dX6_nameOf_59 : decode cX6_nameOf 59 = .ok (.iaload, 1) := by decide +kernel
theorem dX6_nameOf_60 : decode cX6_nameOf 60 = .ok (.iload_n 2, 1) := by decide +kernel
theorem dX6_nameOf_61 : decode cX6_nameOf 61 = .ok (.if_icmp .ne 22, 3) := by decide +kernel
theorem dX6_nameOf_64 : decode cX6_nameOf 64 = .ok (.aload_n 0, 1) := by decide +kernel
theorem dX6_nameOf_65 : decode cX6_nameOf 65 = .ok (.aload_n 0, 1) := by decide +kernel
theorem dX6_nameOf_66 : decode cX6_nameOf 66 = .ok (.getfield 23, 3) := by decide +kernel
theorem dX6_nameOf_69 : decode cX6_nameOf 69 = .ok (.iload 5, 2) := by decide +kernel
theorem dX6_nameOf_71 : decode cX6_nameOf 71 = .ok (.iaload, 1) := by decide +kernel
theorem dX6_nameOf_72 : decode cX6_nameOf 72 = .ok (.iload_n 1, 1) := by decide +kernel
theorem dX6_nameOf_73 : decode cX6_nameOf 73 = .ok (.iload_n 2, 1) := by decide +kernel
theorem dX6_nameOf_74 : decode cX6_nameOf 74 = .ok (.invokevirtual 125, 3) := by decide +kernel
theorem dX6_nameOf_77 : decode cX6_nameOf 77 = .ok (.ifCond .eq 6, 3) := by decide +kernel
theorem dX6_nameOf_80 : decode cX6_nameOf 80 = .ok (.iload 5, 2) := by decide +kernel
theorem dX6_nameOf_82 : decode cX6_nameOf 82 = .ok (.ireturn, 1) := by decide +kernel
theorem dX6_nameOf_83 : decode cX6_nameOf 83 = .ok (.aload_n 0, 1) := by decide +kernel
theorem dX6_nameOf_84 : decode cX6_nameOf 84 = .ok (.getfield 30, 3) := by decide +kernel
theorem dX6_nameOf_87 : decode cX6_nameOf 87 = .ok (.iload 5, 2) := by decide +kernel
theorem dX6_nameOf_89 : decode cX6_nameOf 89 = .ok (.iaload, 1) := by decide +kernel
theorem dX6_nameOf_90 : decode cX6_nameOf 90 = .ok (.istore 5, 2) := by decide +kernel
theorem dX6_nameOf_92 : decode cX6_nameOf 92 = .ok (.goto (-44), 3) := by decide +kernel
theorem dX6_nameOf_95 : decode cX6_nameOf 95 = .ok (.aload_n 0, 1) := by decide +kernel
theorem dX6_nameOf_96 : decode cX6_nameOf 96 = .ok (.getfield 119, 3) := by decide +kernel
theorem dX6_nameOf_99 : decode cX6_nameOf 99 = .ok (.sipush 1544, 3) := by decide +kernel
theorem dX6_nameOf_102 : decode cX6_nameOf 102 = .ok (.if_icmp .lt 5, 3) := by decide +kernel
theorem dX6_nameOf_105 : decode cX6_nameOf 105 = .ok (.iconst 0, 1) := by decide +kernel
theorem dX6_nameOf_106 : decode cX6_nameOf 106 = .ok (.ireturn, 1) := by decide +kernel
theorem dX6_nameOf_107 : decode cX6_nameOf 107 = .ok (.aload_n 0, 1) := by decide +kernel
theorem dX6_nameOf_108 : decode cX6_nameOf 108 = .ok (.getfield 23, 3) := by decide +kernel
theorem dX6_nameOf_111 : decode cX6_nameOf 111 = .ok (.aload_n 0, 1) := by decide +kernel
theorem dX6_nameOf_112 : decode cX6_nameOf 112 = .ok (.getfield 119, 3) := by decide +kernel
theorem dX6_nameOf_115 : decode cX6_nameOf 115 = .ok (.iload_n 1, 1) := by decide +kernel
theorem dX6_nameOf_116 : decode cX6_nameOf 116 = .ok (.iastore, 1) := by decide +kernel
theorem dX6_nameOf_117 : decode cX6_nameOf 117 = .ok (.aload_n 0, 1) := by decide +kernel
theorem dX6_nameOf_118 : decode cX6_nameOf 118 = .ok (.getfield 27, 3) := by decide +kernel
theorem dX6_nameOf_121 : decode cX6_nameOf 121 = .ok (.aload_n 0, 1) := by decide +kernel
theorem dX6_nameOf_122 : decode cX6_nameOf 122 = .ok (.getfield 119, 3) := by decide +kernel
theorem dX6_nameOf_125 : decode cX6_nameOf 125 = .ok (.iload_n 2, 1) := by decide +kernel
theorem dX6_nameOf_126 : decode cX6_nameOf 126 = .ok (.iastore, 1) := by decide +kernel
theorem dX6_nameOf_127 : decode cX6_nameOf 127 = .ok (.aload_n 0, 1) := by decide +kernel
theorem dX6_nameOf_128 : decode cX6_nameOf 128 = .ok (.getfield 30, 3) := by decide +kernel
theorem dX6_nameOf_131 : decode cX6_nameOf 131 = .ok (.aload_n 0, 1) := by decide +kernel
theorem dX6_nameOf_132 : decode cX6_nameOf 132 = .ok (.getfield 119, 3) := by decide +kernel
theorem dX6_nameOf_135 : decode cX6_nameOf 135 = .ok (.aload_n 0, 1) := by decide +kernel
theorem dX6_nameOf_136 : decode cX6_nameOf 136 = .ok (.getfield 33, 3) := by decide +kernel
theorem dX6_nameOf_139 : decode cX6_nameOf 139 = .ok (.iload 4, 2) := by decide +kernel
theorem dX6_nameOf_141 : decode cX6_nameOf 141 = .ok (.iaload, 1) := by decide +kernel
theorem dX6_nameOf_142 : decode cX6_nameOf 142 = .ok (.iastore, 1) := by decide +kernel
theorem dX6_nameOf_143 : decode cX6_nameOf 143 = .ok (.aload_n 0, 1) := by decide +kernel
theorem dX6_nameOf_144 : decode cX6_nameOf 144 = .ok (.getfield 33, 3) := by decide +kernel
theorem dX6_nameOf_147 : decode cX6_nameOf 147 = .ok (.iload 4, 2) := by decide +kernel
theorem dX6_nameOf_149 : decode cX6_nameOf 149 = .ok (.aload_n 0, 1) := by decide +kernel
theorem dX6_nameOf_150 : decode cX6_nameOf 150 = .ok (.getfield 119, 3) := by decide +kernel
theorem dX6_nameOf_153 : decode cX6_nameOf 153 = .ok (.iastore, 1) := by decide +kernel
theorem dX6_nameOf_154 : decode cX6_nameOf 154 = .ok (.aload_n 0, 1) := by decide +kernel
theorem dX6_nameOf_155 : decode cX6_nameOf 155 = .ok (.dup, 1) := by decide +kernel
theorem dX6_nameOf_156 : decode cX6_nameOf 156 = .ok (.getfield 119, 3) := by decide +kernel
theorem dX6_nameOf_159 : decode cX6_nameOf 159 = .ok (.iconst 1, 1) := by decide +kernel
theorem dX6_nameOf_160 : decode cX6_nameOf 160 = .ok (.iadd, 1) := by decide +kernel
theorem dX6_nameOf_161 : decode cX6_nameOf 161 = .ok (.putfield 119, 3) := by decide +kernel
theorem dX6_nameOf_164 : decode cX6_nameOf 164 = .ok (.aload_n 0, 1) := by decide +kernel
theorem dX6_nameOf_165 : decode cX6_nameOf 165 = .ok (.getfield 119, 3) := by decide +kernel
theorem dX6_nameOf_168 : decode cX6_nameOf 168 = .ok (.iconst 1, 1) := by decide +kernel
theorem dX6_nameOf_169 : decode cX6_nameOf 169 = .ok (.isub, 1) := by decide +kernel
theorem dX6_nameOf_170 : decode cX6_nameOf 170 = .ok (.ireturn, 1) := by decide +kernel
theorem dX6_alike_0 : decode cX6_alike 0 = .ok (.iconst 0, 1) := by decide +kernel
theorem dX6_alike_1 : decode cX6_alike 1 = .ok (.istore 4, 2) := by decide +kernel
theorem dX6_alike_3 : decode cX6_alike 3 = .ok (.iload 4, 2) := by decide +kernel
theorem dX6_alike_5 : decode cX6_alike 5 = .ok (.iload_n 3, 1) := by decide +kernel
theorem dX6_alike_6 : decode cX6_alike 6 = .ok (.if_icmp .ge 32, 3) := by decide +kernel
theorem dX6_alike_9 : decode cX6_alike 9 = .ok (.aload_n 0, 1) := by decide +kernel
theorem dX6_alike_10 : decode cX6_alike 10 = .ok (.getfield 17, 3) := by decide +kernel
theorem dX6_alike_13 : decode cX6_alike 13 = .ok (.iload_n 1, 1) := by decide +kernel
theorem dX6_alike_14 : decode cX6_alike 14 = .ok (.iload 4, 2) := by decide +kernel
theorem dX6_alike_16 : decode cX6_alike 16 = .ok (.iadd, 1) := by decide +kernel
theorem dX6_alike_17 : decode cX6_alike 17 = .ok (.baload, 1) := by decide +kernel
theorem dX6_alike_18 : decode cX6_alike 18 = .ok (.aload_n 0, 1) := by decide +kernel
theorem dX6_alike_19 : decode cX6_alike 19 = .ok (.getfield 17, 3) := by decide +kernel
theorem dX6_alike_22 : decode cX6_alike 22 = .ok (.iload_n 2, 1) := by decide +kernel
theorem dX6_alike_23 : decode cX6_alike 23 = .ok (.iload 4, 2) := by decide +kernel
theorem dX6_alike_25 : decode cX6_alike 25 = .ok (.iadd, 1) := by decide +kernel
theorem dX6_alike_26 : decode cX6_alike 26 = .ok (.baload, 1) := by decide +kernel
theorem dX6_alike_27 : decode cX6_alike 27 = .ok (.if_icmp .eq 5, 3) := by decide +kernel
theorem dX6_alike_30 : decode cX6_alike 30 = .ok (.iconst 0, 1) := by decide +kernel
theorem dX6_alike_31 : decode cX6_alike 31 = .ok (.ireturn, 1) := by decide +kernel
theorem dX6_alike_32 : decode cX6_alike 32 = .ok (.iinc 4 1, 3) := by decide +kernel
theorem dX6_alike_35 : decode cX6_alike 35 = .ok (.goto (-32), 3) := by decide +kernel
theorem dX6_alike_38 : decode cX6_alike 38 = .ok (.iconst 1, 1) := by decide +kernel
theorem dX6_alike_39 : decode cX6_alike 39 = .ok (.ireturn, 1) := by decide +kernel
theorem dX6_takeTokens_0 : decode cX6_takeTokens 0 = .ok (.aload_n 0, 1) := by decide +kernel
theorem dX6_takeTokens_1 : decode cX6_takeTokens 1 = .ok (.iconst 0, 1) := by decide +kernel
theorem dX6_takeTokens_2 : decode cX6_takeTokens 2 = .ok (.putfield 129, 3) := by decide +kernel
theorem dX6_takeTokens_5 : decode cX6_takeTokens 5 = .ok (.iconst 1, 1) := by decide +kernel
theorem dX6_takeTokens_6 : decode cX6_takeTokens 6 = .ok (.istore_n 1, 1) := by decide +kernel
theorem dX6_takeTokens_7 : decode cX6_takeTokens 7 = .ok (.iconst 0, 1) := by decide +kernel
theorem dX6_takeTokens_8 : decode cX6_takeTokens 8 = .ok (.istore_n 2, 1) := by decide +kernel
theorem dX6_takeTokens_9 : decode cX6_takeTokens 9 = .ok (.iload_n 2, 1) := by decide +kernel
theorem dX6_takeTokens_10 : decode cX6_takeTokens 10 = .ok (.sipush 3000, 3) := by decide +kernel
theorem dX6_takeTokens_13 : decode cX6_takeTokens 13 = .ok (.if_icmp .gt 127, 3) := by decide +kernel
theorem dX6_takeTokens_16 : decode cX6_takeTokens 16 = .ok (.iload_n 1, 1) := by decide +kernel
theorem dX6_takeTokens_17 : decode cX6_takeTokens 17 = .ok (.ifCond .eq 123, 3) := by decide +kernel
theorem dX6_takeTokens_20 : decode cX6_takeTokens 20 = .ok (.iload_n 1, 1) := by decide +kernel
theorem dX6_takeTokens_21 : decode cX6_takeTokens 21 = .ok (.iconst 3, 1) := by decide +kernel
theorem dX6_takeTokens_22 : decode cX6_takeTokens 22 = .ok (.if_icmp .eq 118, 3) := by decide +kernel
theorem dX6_takeTokens_25 : decode cX6_takeTokens 25 = .ok (.aload_n 0, 1) := by decide +kernel
theorem dX6_takeTokens_26 : decode cX6_takeTokens 26 = .ok (.invokevirtual 132, 3) := by decide +kernel
theorem dX6_takeTokens_29 : decode cX6_takeTokens 29 = .ok (.aload_n 0, 1) := by decide +kernel
theorem dX6_takeTokens_30 : decode cX6_takeTokens 30 = .ok (.getfield 39, 3) := by decide +kernel
theorem dX6_takeTokens_33 : decode cX6_takeTokens 33 = .ok (.aload_n 0, 1) := by decide +kernel
theorem dX6_takeTokens_34 : decode cX6_takeTokens 34 = .ok (.getfield 129, 3) := by decide +kernel
theorem dX6_takeTokens_37 : decode cX6_takeTokens 37 = .ok (.aload_n 0, 1) := by decide +kernel
theorem dX6_takeTokens_38 : decode cX6_takeTokens 38 = .ok (.getfield 60, 3) := by decide +kernel
theorem dX6_takeTokens_41 : decode cX6_takeTokens 41 = .ok (.ldc 9, 2) := by decide +kernel
theorem dX6_takeTokens_43 : decode cX6_takeTokens 43 = .ok (.invokevirtual 11, 3) := by decide +kernel
theorem dX6_takeTokens_46 : decode cX6_takeTokens 46 = .ok (.isub, 1) := by decide +kernel
theorem dX6_takeTokens_47 : decode cX6_takeTokens 47 = .ok (.iastore, 1) := by decide +kernel
theorem dX6_takeTokens_48 : decode cX6_takeTokens 48 = .ok (.aload_n 0, 1) := by decide +kernel
theorem dX6_takeTokens_49 : decode cX6_takeTokens 49 = .ok (.getfield 60, 3) := by decide +kernel
theorem dX6_takeTokens_52 : decode cX6_takeTokens 52 = .ok (.aload_n 0, 1) := by decide +kernel
theorem dX6_takeTokens_53 : decode cX6_takeTokens 53 = .ok (.getfield 64, 3) := by decide +kernel
theorem dX6_takeTokens_56 : decode cX6_takeTokens 56 = .ok (.if_icmp .lt 8, 3) := by decide +kernel
theorem dX6_takeTokens_59 : decode cX6_takeTokens 59 = .ok (.iconst 0, 1) := by decide +kernel
theorem dX6_takeTokens_60 : decode cX6_takeTokens 60 = .ok (.istore_n 1, 1) := by decide +kernel
theorem dX6_takeTokens_61 : decode cX6_takeTokens 61 = .ok (.goto 53, 3) := by decide +kernel
theorem dX6_takeTokens_64 : decode cX6_takeTokens 64 = .ok (.aload_n 0, 1) := by decide +kernel
theorem dX6_takeTokens_65 : decode cX6_takeTokens 65 = .ok (.getfield 17, 3) := by decide +kernel
theorem dX6_takeTokens_68 : decode cX6_takeTokens 68 = .ok (.aload_n 0, 1) := by decide +kernel
theorem dX6_takeTokens_69 : decode cX6_takeTokens 69 = .ok (.getfield 60, 3) := by decide +kernel
theorem dX6_takeTokens_72 : decode cX6_takeTokens 72 = .ok (.baload, 1) := by decide +kernel
theorem dX6_takeTokens_73 : decode cX6_takeTokens 73 = .ok (.invokestatic 135, 3) := by decide +kernel
theorem dX6_takeTokens_76 : decode cX6_takeTokens 76 = .ok (.ifCond .eq 11, 3) := by decide +kernel
theorem dX6_takeTokens_79 : decode cX6_takeTokens 79 = .ok (.aload_n 0, 1) := by decide +kernel
theorem dX6_takeTokens_80 : decode cX6_takeTokens 80 = .ok (.invokevirtual 139, 3) := by decide +kernel
theorem dX6_takeTokens_83 : decode cX6_takeTokens 83 = .ok (.istore_n 1, 1) := by decide +kernel
theorem dX6_takeTokens_84 : decode cX6_takeTokens 84 = .ok (.goto 30, 3) := by decide +kernel
theorem dX6_takeTokens_87 : decode cX6_takeTokens 87 = .ok (.aload_n 0, 1) := by decide +kernel
theorem dX6_takeTokens_88 : decode cX6_takeTokens 88 = .ok (.getfield 17, 3) := by decide +kernel
theorem dX6_takeTokens_91 : decode cX6_takeTokens 91 = .ok (.aload_n 0, 1) := by decide +kernel
theorem dX6_takeTokens_92 : decode cX6_takeTokens 92 = .ok (.getfield 60, 3) := by decide +kernel
theorem dX6_takeTokens_95 : decode cX6_takeTokens 95 = .ok (.baload, 1) := by decide +kernel
theorem dX6_takeTokens_96 : decode cX6_takeTokens 96 = .ok (.invokestatic 142, 3) := by decide +kernel
theorem dX6_takeTokens_99 : decode cX6_takeTokens 99 = .ok (.ifCond .eq 10, 3) := by decide +kernel
theorem dX6_takeTokens_102 : decode cX6_takeTokens 102 = .ok (.aload_n 0, 1) := by decide +kernel
theorem dX6_takeTokens_103 : decode cX6_takeTokens 103 = .ok (.invokevirtual 145, 3) := by decide +kernel
theorem dX6_takeTokens_106 : decode cX6_takeTokens 106 = .ok (.goto 7, 3) := by decide +kernel
theorem dX6_takeTokens_109 : decode cX6_takeTokens 109 = .ok (.aload_n 0, 1) := by decide +kernel
theorem dX6_takeTokens_110 : decode cX6_takeTokens 110 = .ok (.invokevirtual 148, 3) := by decide +kernel
theorem dX6_takeTokens_113 : decode cX6_takeTokens 113 = .ok (.istore_n 1, 1) := by decide +kernel
theorem dX6_takeTokens_114 : decode cX6_takeTokens 114 = .ok (.aload_n 0, 1) := by decide +kernel
theorem dX6_takeTokens_115 : decode cX6_takeTokens 115 = .ok (.getfield 36, 3) := by decide +kernel
theorem dX6_takeTokens_118 : decode cX6_takeTokens 118 = .ok (.aload_n 0, 1) := by decide +kernel
theorem dX6_takeTokens_119 : decode cX6_takeTokens 119 = .ok (.getfield 129, 3) := by decide +kernel
theorem dX6_takeTokens_122 : decode cX6_takeTokens 122 = .ok (.iload_n 1, 1) := by decide +kernel
theorem dX6_takeTokens_123 : decode cX6_takeTokens 123 = .ok (.iastore, 1) := by decide +kernel
theorem dX6_takeTokens_124 : decode cX6_takeTokens 124 = .ok (.aload_n 0, 1) := by decide +kernel
theorem dX6_takeTokens_125 : decode cX6_takeTokens 125 = .ok (.dup, 1) := by decide +kernel
theorem dX6_takeTokens_126 : decode cX6_takeTokens 126 = .ok (.getfield 129, 3) := by decide +kernel
theorem dX6_takeTokens_129 : decode cX6_takeTokens 129 = .ok (.iconst 1, 1) := by decide +kernel
theorem dX6_takeTokens_130 : decode cX6_takeTokens 130 = .ok (.iadd, 1) := by decide +kernel
theorem dX6_takeTokens_131 : decode cX6_takeTokens 131 = .ok (.putfield 129, 3) := by decide +kernel
theorem dX6_takeTokens_134 : decode cX6_takeTokens 134 = .ok (.iinc 2 1, 3) := by decide +kernel
theorem dX6_takeTokens_137 : decode cX6_takeTokens 137 = .ok (.goto (-128), 3) := by decide +kernel
theorem dX6_takeTokens_140 : decode cX6_takeTokens 140 = .ok (.return_, 1) := by decide +kernel
theorem dX6_skipBlanks_0 : decode cX6_skipBlanks 0 = .ok (.iconst 0, 1) := by decide +kernel
theorem dX6_skipBlanks_1 : decode cX6_skipBlanks 1 = .ok (.istore_n 1, 1) := by decide +kernel
theorem dX6_skipBlanks_2 : decode cX6_skipBlanks 2 = .ok (.aload_n 0, 1) := by decide +kernel
theorem dX6_skipBlanks_3 : decode cX6_skipBlanks 3 = .ok (.getfield 60, 3) := by decide +kernel
theorem dX6_skipBlanks_6 : decode cX6_skipBlanks 6 = .ok (.aload_n 0, 1) := by decide +kernel
theorem dX6_skipBlanks_7 : decode cX6_skipBlanks 7 = .ok (.getfield 64, 3) := by decide +kernel
theorem dX6_skipBlanks_10 : decode cX6_skipBlanks 10 = .ok (.if_icmp .ge 117, 3) := by decide +kernel
theorem dX6_skipBlanks_13 : decode cX6_skipBlanks 13 = .ok (.aload_n 0, 1) := by decide +kernel
theorem dX6_skipBlanks_14 : decode cX6_skipBlanks 14 = .ok (.getfield 17, 3) := by decide +kernel
theorem dX6_skipBlanks_17 : decode cX6_skipBlanks 17 = .ok (.aload_n 0, 1) := by decide +kernel
theorem dX6_skipBlanks_18 : decode cX6_skipBlanks 18 = .ok (.getfield 60, 3) := by decide +kernel
theorem dX6_skipBlanks_21 : decode cX6_skipBlanks 21 = .ok (.baload, 1) := by decide +kernel
theorem dX6_skipBlanks_22 : decode cX6_skipBlanks 22 = .ok (.istore_n 2, 1) := by decide +kernel
theorem dX6_skipBlanks_23 : decode cX6_skipBlanks 23 = .ok (.iload_n 2, 1) := by decide +kernel
theorem dX6_skipBlanks_24 : decode cX6_skipBlanks 24 = .ok (.bipush 9, 2) := by decide +kernel
theorem dX6_skipBlanks_26 : decode cX6_skipBlanks 26 = .ok (.if_icmp .eq 21, 3) := by decide +kernel
theorem dX6_skipBlanks_29 : decode cX6_skipBlanks 29 = .ok (.iload_n 2, 1) := by decide +kernel
theorem dX6_skipBlanks_30 : decode cX6_skipBlanks 30 = .ok (.bipush 10, 2) := by decide +kernel
theorem dX6_skipBlanks_32 : decode cX6_skipBlanks 32 = .ok (.if_icmp .eq 15, 3) := by decide +kernel
theorem dX6_skipBlanks_35 : decode cX6_skipBlanks 35 = .ok (.iload_n 2, 1) := by decide +kernel
theorem dX6_skipBlanks_36 : decode cX6_skipBlanks 36 = .ok (.bipush 13, 2) := by decide +kernel
theorem dX6_skipBlanks_38 : decode cX6_skipBlanks 38 = .ok (.if_icmp .eq 9, 3) := by decide +kernel
theorem dX6_skipBlanks_41 : decode cX6_skipBlanks 41 = .ok (.iload_n 2, 1) := by decide +kernel
theorem dX6_skipBlanks_42 : decode cX6_skipBlanks 42 = .ok (.bipush 32, 2) := by decide +kernel
theorem dX6_skipBlanks_44 : decode cX6_skipBlanks 44 = .ok (.if_icmp .ne 7, 3) := by decide +kernel
theorem dX6_skipBlanks_47 : decode cX6_skipBlanks 47 = .ok (.iconst 1, 1) := by decide +kernel
theorem dX6_skipBlanks_48 : decode cX6_skipBlanks 48 = .ok (.goto 4, 3) := by decide +kernel
theorem dX6_skipBlanks_51 : decode cX6_skipBlanks 51 = .ok (.iconst 0, 1) := by decide +kernel
theorem dX6_skipBlanks_52 : decode cX6_skipBlanks 52 = .ok (.istore_n 3, 1) := by decide +kernel
theorem dX6_skipBlanks_53 : decode cX6_skipBlanks 53 = .ok (.iload_n 1, 1) := by decide +kernel
theorem dX6_skipBlanks_54 : decode cX6_skipBlanks 54 = .ok (.ifCond .eq 19, 3) := by decide +kernel
theorem dX6_skipBlanks_57 : decode cX6_skipBlanks 57 = .ok (.iload_n 2, 1) := by decide +kernel
theorem dX6_skipBlanks_58 : decode cX6_skipBlanks 58 = .ok (.bipush 32, 2) := by decide +kernel
theorem dX6_skipBlanks_60 : decode cX6_skipBlanks 60 = .ok (.if_icmp .lt 13, 3) := by decide +kernel
theorem dX6_skipBlanks_63 : decode cX6_skipBlanks 63 = .ok (.iload_n 2, 1) := by decide +kernel
theorem dX6_skipBlanks_64 : decode cX6_skipBlanks 64 = .ok (.bipush 126, 2) := by decide +kernel
theorem dX6_skipBlanks_66 : decode cX6_skipBlanks 66 = .ok (.if_icmp .gt 7, 3) := by decide +kernel
theorem dX6_skipBlanks_69 : decode cX6_skipBlanks 69 = .ok (.iconst 1, 1) := by decide +kernel
theorem dX6_skipBlanks_70 : decode cX6_skipBlanks 70 = .ok (.goto 4, 3) := by decide +kernel
theorem dX6_skipBlanks_73 : decode cX6_skipBlanks 73 = .ok (.iconst 0, 1) := by decide +kernel
theorem dX6_skipBlanks_74 : decode cX6_skipBlanks 74 = .ok (.istore 4, 2) := by decide +kernel
theorem dX6_skipBlanks_76 : decode cX6_skipBlanks 76 = .ok (.iload_n 3, 1) := by decide +kernel
theorem dX6_skipBlanks_77 : decode cX6_skipBlanks 77 = .ok (.ifCond .ne 15, 3) := by decide +kernel
theorem dX6_skipBlanks_80 : decode cX6_skipBlanks 80 = .ok (.iload 4, 2) := by decide +kernel
theorem dX6_skipBlanks_82 : decode cX6_skipBlanks 82 = .ok (.ifCond .ne 10, 3) := by decide +kernel
theorem dX6_skipBlanks_85 : decode cX6_skipBlanks 85 = .ok (.iload_n 2, 1) := by decide +kernel
theorem dX6_skipBlanks_86 : decode cX6_skipBlanks 86 = .ok (.bipush 35, 2) := by decide +kernel
theorem dX6_skipBlanks_88 : decode cX6_skipBlanks 88 = .ok (.if_icmp .eq 4, 3) := by decide +kernel
theorem dX6_skipBlanks_91 : decode cX6_skipBlanks 91 = .ok (.return_, 1) := by decide +kernel
theorem dX6_skipBlanks_92 : decode cX6_skipBlanks 92 = .ok (.iload_n 1, 1) := by decide +kernel
theorem dX6_skipBlanks_93 : decode cX6_skipBlanks 93 = .ok (.ifCond .ne 9, 3) := by decide +kernel
theorem dX6_skipBlanks_96 : decode cX6_skipBlanks 96 = .ok (.iload_n 2, 1) := by decide +kernel
theorem dX6_skipBlanks_97 : decode cX6_skipBlanks 97 = .ok (.bipush 35, 2) := by decide +kernel
theorem dX6_skipBlanks_99 : decode cX6_skipBlanks 99 = .ok (.if_icmp .ne 13, 3) := by decide +kernel
theorem dX6_skipBlanks_102 : decode cX6_skipBlanks 102 = .ok (.iload_n 2, 1) := by decide +kernel
theorem dX6_skipBlanks_103 : decode cX6_skipBlanks 103 = .ok (.bipush 10, 2) := by decide +kernel
theorem dX6_skipBlanks_105 : decode cX6_skipBlanks 105 = .ok (.if_icmp .eq 7, 3) := by decide +kernel
theorem dX6_skipBlanks_108 : decode cX6_skipBlanks 108 = .ok (.iconst 1, 1) := by decide +kernel
theorem dX6_skipBlanks_109 : decode cX6_skipBlanks 109 = .ok (.goto 4, 3) := by decide +kernel
theorem dX6_skipBlanks_112 : decode cX6_skipBlanks 112 = .ok (.iconst 0, 1) := by decide +kernel
theorem dX6_skipBlanks_113 : decode cX6_skipBlanks 113 = .ok (.istore_n 1, 1) := by decide +kernel
theorem dX6_skipBlanks_114 : decode cX6_skipBlanks 114 = .ok (.aload_n 0, 1) := by decide +kernel
theorem dX6_skipBlanks_115 : decode cX6_skipBlanks 115 = .ok (.dup, 1) := by decide +kernel
theorem dX6_skipBlanks_116 : decode cX6_skipBlanks 116 = .ok (.getfield 60, 3) := by decide +kernel
theorem dX6_skipBlanks_119 : decode cX6_skipBlanks 119 = .ok (.iconst 1, 1) := by decide +kernel
theorem dX6_skipBlanks_120 : decode cX6_skipBlanks 120 = .ok (.iadd, 1) := by decide +kernel
theorem dX6_skipBlanks_121 : decode cX6_skipBlanks 121 = .ok (.putfield 60, 3) := by decide +kernel
theorem dX6_skipBlanks_124 : decode cX6_skipBlanks 124 = .ok (.goto (-122), 3) := by decide +kernel
theorem dX6_skipBlanks_127 : decode cX6_skipBlanks 127 = .ok (.return_, 1) := by decide +kernel
theorem dX6_advance_0 : decode cX6_advance 0 = .ok (.aload_n 0, 1) := by decide +kernel
theorem dX6_advance_1 : decode cX6_advance 1 = .ok (.getfield 70, 3) := by decide +kernel
theorem dX6_advance_4 : decode cX6_advance 4 = .ok (.ifCond .ge 52, 3) := by decide +kernel
theorem dX6_advance_7 : decode cX6_advance 7 = .ok (.aload_n 0, 1) := by decide +kernel
theorem dX6_advance_8 : decode cX6_advance 8 = .ok (.getfield 84, 3) := by decide +kernel
theorem dX6_advance_11 : decode cX6_advance 11 = .ok (.iconst 1, 1) := by decide +kernel
theorem dX6_advance_12 : decode cX6_advance 12 = .ok (.iadd, 1) := by decide +kernel
theorem dX6_advance_13 : decode cX6_advance 13 = .ok (.aload_n 0, 1) := by decide +kernel
theorem dX6_advance_14 : decode cX6_advance 14 = .ok (.getfield 129, 3) := by decide +kernel
theorem dX6_advance_17 : decode cX6_advance 17 = .ok (.if_icmp .ge 39, 3) := by decide +kernel
theorem dX6_advance_20 : decode cX6_advance 20 = .ok (.aload_n 0, 1) := by decide +kernel
theorem dX6_advance_21 : decode cX6_advance 21 = .ok (.dup, 1) := by decide +kernel
theorem dX6_advance_22 : decode cX6_advance 22 = .ok (.getfield 84, 3) := by decide +kernel
theorem dX6_advance_25 : decode cX6_advance 25 = .ok (.iconst 1, 1) := by decide +kernel
theorem dX6_advance_26 : decode cX6_advance 26 = .ok (.iadd, 1) := by decide +kernel
theorem dX6_advance_27 : decode cX6_advance 27 = .ok (.putfield 84, 3) := by decide +kernel
theorem dX6_advance_30 : decode cX6_advance 30 = .ok (.aload_n 0, 1) := by decide +kernel
theorem dX6_advance_31 : decode cX6_advance 31 = .ok (.aload_n 0, 1) := by decide +kernel
theorem dX6_advance_32 : decode cX6_advance 32 = .ok (.getfield 36, 3) := by decide +kernel
theorem dX6_advance_35 : decode cX6_advance 35 = .ok (.aload_n 0, 1) := by decide +kernel
theorem dX6_advance_36 : decode cX6_advance 36 = .ok (.getfield 84, 3) := by decide +kernel
theorem dX6_advance_39 : decode cX6_advance 39 = .ok (.iaload, 1) := by decide +kernel
theorem dX6_advance_40 : decode cX6_advance 40 = .ok (.putfield 94, 3) := by decide +kernel
theorem dX6_advance_43 : decode cX6_advance 43 = .ok (.aload_n 0, 1) := by decide +kernel
theorem dX6_advance_44 : decode cX6_advance 44 = .ok (.aload_n 0, 1) := by decide +kernel
theorem dX6_advance_45 : decode cX6_advance 45 = .ok (.getfield 39, 3) := by decide +kernel
theorem dX6_advance_48 : decode cX6_advance 48 = .ok (.aload_n 0, 1) := by decide +kernel
theorem dX6_advance_49 : decode cX6_advance 49 = .ok (.getfield 84, 3) := by decide +kernel
theorem dX6_advance_52 : decode cX6_advance 52 = .ok (.iaload, 1) := by decide +kernel
theorem dX6_advance_53 : decode cX6_advance 53 = .ok (.putfield 97, 3) := by decide +kernel
theorem dX6_advance_56 : decode cX6_advance 56 = .ok (.return_, 1) := by decide +kernel
theorem dX0_init_0 : decode cX0_init 0 = .ok (.aload_n 0, 1) := by decide +kernel
theorem dX0_init_1 : decode cX0_init 1 = .ok (.invokespecial 3, 3) := by decide +kernel
theorem dX0_init_4 : decode cX0_init 4 = .ok (.aload_n 0, 1) := by decide +kernel
theorem dX0_init_5 : decode cX0_init 5 = .ok (.aload_n 1, 1) := by decide +kernel
theorem dX0_init_6 : decode cX0_init 6 = .ok (.putfield 9, 3) := by decide +kernel
theorem dX0_init_9 : decode cX0_init 9 = .ok (.return_, 1) := by decide +kernel
theorem dX0_check_0 : decode cX0_check 0 = .ok (.aload_n 0, 1) := by decide +kernel
theorem dX0_check_1 : decode cX0_check 1 = .ok (.aload_n 1, 1) := by decide +kernel
theorem dX0_check_2 : decode cX0_check 2 = .ok (.getfield 15, 3) := by decide +kernel
theorem dX0_check_5 : decode cX0_check 5 = .ok (.putfield 21, 3) := by decide +kernel
theorem dX0_check_8 : decode cX0_check 8 = .ok (.aload_n 0, 1) := by decide +kernel
theorem dX0_check_9 : decode cX0_check 9 = .ok (.aload_n 1, 1) := by decide +kernel
theorem dX0_check_10 : decode cX0_check 10 = .ok (.getfield 22, 3) := by decide +kernel
theorem dX0_check_13 : decode cX0_check 13 = .ok (.putfield 26, 3) := by decide +kernel
theorem dX0_check_16 : decode cX0_check 16 = .ok (.aload_n 0, 1) := by decide +kernel
theorem dX0_check_17 : decode cX0_check 17 = .ok (.aload_n 1, 1) := by decide +kernel
theorem dX0_check_18 : decode cX0_check 18 = .ok (.getfield 27, 3) := by decide +kernel
theorem dX0_check_21 : decode cX0_check 21 = .ok (.putfield 31, 3) := by decide +kernel
theorem dX0_check_24 : decode cX0_check 24 = .ok (.aload_n 0, 1) := by decide +kernel
theorem dX0_check_25 : decode cX0_check 25 = .ok (.aload_n 1, 1) := by decide +kernel
theorem dX0_check_26 : decode cX0_check 26 = .ok (.getfield 32, 3) := by decide +kernel
theorem dX0_check_29 : decode cX0_check 29 = .ok (.putfield 36, 3) := by decide +kernel
theorem dX0_check_32 : decode cX0_check 32 = .ok (.aload_n 0, 1) := by decide +kernel
theorem dX0_check_33 : decode cX0_check 33 = .ok (.ldc 37, 2) := by decide +kernel
theorem dX0_check_35 : decode cX0_check 35 = .ok (.putfield 38, 3) := by decide +kernel
theorem dX0_check_38 : decode cX0_check 38 = .ok (.aload_n 0, 1) := by decide +kernel
theorem dX0_check_39 : decode cX0_check 39 = .ok (.getfield 9, 3) := by decide +kernel
theorem dX0_check_42 : decode cX0_check 42 = .ok (.getfield 42, 3) := by decide +kernel
theorem dX0_check_45 : decode cX0_check 45 = .ok (.iconst 1, 1) := by decide +kernel
theorem dX0_check_46 : decode cX0_check 46 = .ok (.iaload, 1) := by decide +kernel
theorem dX0_check_47 : decode cX0_check 47 = .ok (.istore_n 3, 1) := by decide +kernel
theorem dX0_check_48 : decode cX0_check 48 = .ok (.aload_n 0, 1) := by decide +kernel
theorem dX0_check_49 : decode cX0_check 49 = .ok (.iload_n 3, 1) := by decide +kernel
theorem dX0_check_50 : decode cX0_check 50 = .ok (.invokevirtual 48, 3) := by decide +kernel
theorem dX0_check_53 : decode cX0_check 53 = .ok (.iconst 0, 1) := by decide +kernel
theorem dX0_check_54 : decode cX0_check 54 = .ok (.istore 4, 2) := by decide +kernel
theorem dX0_check_56 : decode cX0_check 56 = .ok (.iload_n 3, 1) := by decide +kernel
theorem dX0_check_57 : decode cX0_check 57 = .ok (.istore 5, 2) := by decide +kernel
theorem dX0_check_59 : decode cX0_check 59 = .ok (.iload 5, 2) := by decide +kernel
theorem dX0_check_61 : decode cX0_check 61 = .ok (.ifCond .eq 45, 3) := by decide +kernel
theorem dX0_check_64 : decode cX0_check 64 = .ok (.aload_n 0, 1) := by decide +kernel
theorem dX0_check_65 : decode cX0_check 65 = .ok (.getfield 9, 3) := by decide +kernel
theorem dX0_check_68 : decode cX0_check 68 = .ok (.getfield 52, 3) := by decide +kernel
theorem dX0_check_71 : decode cX0_check 71 = .ok (.iload 5, 2) := by decide +kernel
theorem dX0_check_73 : decode cX0_check 73 = .ok (.iaload, 1) := by decide +kernel
theorem dX0_check_74 : decode cX0_check 74 = .ok (.sipush 203, 3) := by decide +kernel
theorem dX0_check_77 : decode cX0_check 77 = .ok (.if_icmp .eq 14, 3) := by decide +kernel
theorem dX0_check_80 : decode cX0_check 80 = .ok (.aload_n 0, 1) := by decide +kernel
theorem dX0_check_81 : decode cX0_check 81 = .ok (.iload 5, 2) := by decide +kernel
theorem dX0_check_83 : decode cX0_check 83 = .ok (.iload 4, 2) := by decide +kernel
theorem dX0_check_85 : decode cX0_check 85 = .ok (.invokevirtual 55, 3) := by decide +kernel
theorem dX0_check_88 : decode cX0_check 88 = .ok (.iinc 4 1, 3) := by decide +kernel
theorem dX0_check_91 : decode cX0_check 91 = .ok (.aload_n 0, 1) := by decide +kernel
theorem dX0_check_92 : decode cX0_check 92 = .ok (.getfield 9, 3) := by decide +kernel
theorem dX0_check_95 : decode cX0_check 95 = .ok (.getfield 59, 3) := by decide +kernel
theorem dX0_check_98 : decode cX0_check 98 = .ok (.iload 5, 2) := by decide +kernel
theorem dX0_check_100 : decode cX0_check 100 = .ok (.iaload, 1) := by decide +kernel
theorem dX0_check_101 : decode cX0_check 101 = .ok (.istore 5, 2) := by decide +kernel
theorem dX0_check_103 : decode cX0_check 103 = .ok (.goto (-44), 3) := by decide +kernel
theorem dX0_check_106 : decode cX0_check 106 = .ok (.aload_n 0, 1) := by decide +kernel
theorem dX0_check_107 : decode cX0_check 107 = .ok (.getfield 21, 3) := by decide +kernel
theorem dX0_check_110 : decode cX0_check 110 = .ok (.invokevirtual 62, 3) := by decide +kernel
theorem dX0_check_113 : decode cX0_check 113 = .ok (.aload_n 0, 1) := by decide +kernel
theorem dX0_check_114 : decode cX0_check 114 = .ok (.iload_n 3, 1) := by decide +kernel
theorem dX0_check_115 : decode cX0_check 115 = .ok (.invokevirtual 67, 3) := by decide +kernel
theorem dX0_check_118 : decode cX0_check 118 = .ok (.iconst 0, 1) := by decide +kernel
theorem dX0_check_119 : decode cX0_check 119 = .ok (.istore 5, 2) := by decide +kernel
theorem dX0_check_121 : decode cX0_check 121 = .ok (.iload 5, 2) := by decide +kernel
theorem dX0_check_123 : decode cX0_check 123 = .ok (.aload_n 0, 1) := by decide +kernel
theorem dX0_check_124 : decode cX0_check 124 = .ok (.getfield 26, 3) := by decide +kernel
theorem dX0_check_127 : decode cX0_check 127 = .ok (.getfield 70, 3) := by decide +kernel
theorem dX0_check_130 : decode cX0_check 130 = .ok (.if_icmp .ge 15, 3) := by decide +kernel
theorem dX0_check_133 : decode cX0_check 133 = .ok (.aload_n 0, 1) := by decide +kernel
theorem dX0_check_134 : decode cX0_check 134 = .ok (.iload 5, 2) := by decide +kernel
theorem dX0_check_136 : decode cX0_check 136 = .ok (.invokevirtual 75, 3) := by decide +kernel
theorem dX0_check_139 : decode cX0_check 139 = .ok (.iinc 5 1, 3) := by decide +kernel
theorem dX0_check_142 : decode cX0_check 142 = .ok (.goto (-21), 3) := by decide +kernel
theorem dX0_check_145 : decode cX0_check 145 = .ok (.iconst 0, 1) := by decide +kernel
theorem dX0_check_146 : decode cX0_check 146 = .ok (.istore 5, 2) := by decide +kernel
theorem dX0_check_148 : decode cX0_check 148 = .ok (.iload 5, 2) := by decide +kernel
theorem dX0_check_150 : decode cX0_check 150 = .ok (.aload_n 0, 1) := by decide +kernel
theorem dX0_check_151 : decode cX0_check 151 = .ok (.getfield 26, 3) := by decide +kernel
theorem dX0_check_154 : decode cX0_check 154 = .ok (.getfield 70, 3) := by decide +kernel
theorem dX0_check_157 : decode cX0_check 157 = .ok (.if_icmp .ge 15, 3) := by decide +kernel
theorem dX0_check_160 : decode cX0_check 160 = .ok (.aload_n 0, 1) := by decide +kernel
theorem dX0_check_161 : decode cX0_check 161 = .ok (.iload 5, 2) := by decide +kernel
theorem dX0_check_163 : decode cX0_check 163 = .ok (.invokevirtual 78, 3) := by decide +kernel
theorem dX0_check_166 : decode cX0_check 166 = .ok (.iinc 5 1, 3) := by decide +kernel
theorem dX0_check_169 : decode cX0_check 169 = .ok (.goto (-21), 3) := by decide +kernel
theorem dX0_check_172 : decode cX0_check 172 = .ok (.aload_n 0, 1) := by decide +kernel
theorem dX0_check_173 : decode cX0_check 173 = .ok (.iload_n 2, 1) := by decide +kernel
theorem dX0_check_174 : decode cX0_check 174 = .ok (.invokevirtual 81, 3) := by decide +kernel
theorem dX0_check_177 : decode cX0_check 177 = .ok (.aload_n 0, 1) := by decide +kernel
theorem dX0_check_178 : decode cX0_check 178 = .ok (.getfield 38, 3) := by decide +kernel
theorem dX0_check_181 : decode cX0_check 181 = .ok (.ldc 37, 2) := by decide +kernel
theorem dX0_check_183 : decode cX0_check 183 = .ok (.if_icmp .ne 7, 3) := by decide +kernel
theorem dX0_check_186 : decode cX0_check 186 = .ok (.iconst (-1), 1) := by decide +kernel
theorem dX0_check_187 : decode cX0_check 187 = .ok (.goto 7, 3) := by decide +kernel
theorem dX0_check_190 : decode cX0_check 190 = .ok (.aload_n 0, 1) := by decide +kernel
theorem dX0_check_191 : decode cX0_check 191 = .ok (.getfield 38, 3) := by decide +kernel
theorem dX0_check_194 : decode cX0_check 194 = .ok (.ireturn, 1) := by decide +kernel
theorem dX0_declareAll_0 : decode cX0_declareAll 0 = .ok (.iload_n 1, 1) := by decide +kernel
theorem dX0_declareAll_1 : decode cX0_declareAll 1 = .ok (.istore_n 2, 1) := by decide +kernel
theorem dX0_declareAll_2 : decode cX0_declareAll 2 = .ok (.iload_n 2, 1) := by decide +kernel
theorem dX0_declareAll_3 : decode cX0_declareAll 3 = .ok (.ifCond .eq 160, 3) := by decide +kernel
theorem dX0_declareAll_6 : decode cX0_declareAll 6 = .ok (.aload_n 0, 1) := by decide +kernel
theorem dX0_declareAll_7 : decode cX0_declareAll 7 = .ok (.getfield 9, 3) := by decide +kernel
theorem dX0_declareAll_10 : decode cX0_declareAll 10 = .ok (.getfield 90, 3) := by decide +kernel
theorem dX0_declareAll_13 : decode cX0_declareAll 13 = .ok (.iload_n 2, 1) := by decide +kernel
theorem dX0_declareAll_14 : decode cX0_declareAll 14 = .ok (.iaload, 1) := by decide +kernel
theorem dX0_declareAll_15 : decode cX0_declareAll 15 = .ok (.istore_n 3, 1) := by decide +kernel
theorem dX0_declareAll_16 : decode cX0_declareAll 16 = .ok (.aload_n 0, 1) := by decide +kernel
theorem dX0_declareAll_17 : decode cX0_declareAll 17 = .ok (.getfield 9, 3) := by decide +kernel
theorem dX0_declareAll_20 : decode cX0_declareAll 20 = .ok (.getfield 52, 3) := by decide +kernel
theorem dX0_declareAll_23 : decode cX0_declareAll 23 = .ok (.iload_n 2, 1) := by decide +kernel
theorem dX0_declareAll_24 : decode cX0_declareAll 24 = .ok (.iaload, 1) := by decide +kernel
theorem dX0_declareAll_25 : decode cX0_declareAll 25 = .ok (.sipush 203, 3) := by decide +kernel
theorem dX0_declareAll_28 : decode cX0_declareAll 28 = .ok (.if_icmp .ne 60, 3) := by decide +kernel
theorem dX0_declareAll_31 : decode cX0_declareAll 31 = .ok (.aload_n 0, 1) := by decide +kernel
theorem dX0_declareAll_32 : decode cX0_declareAll 32 = .ok (.aload_n 0, 1) := by decide +kernel
theorem dX0_declareAll_33 : decode cX0_declareAll 33 = .ok (.getfield 26, 3) := by decide +kernel
theorem dX0_declareAll_36 : decode cX0_declareAll 36 = .ok (.getfield 70, 3) := by decide +kernel
theorem dX0_declareAll_39 : decode cX0_declareAll 39 = .ok (.bipush 30, 2) := by decide +kernel
theorem dX0_declareAll_41 : decode cX0_declareAll 41 = .ok (.aload_n 0, 1) := by decide +kernel
theorem dX0_declareAll_42 : decode cX0_declareAll 42 = .ok (.getfield 9, 3) := by decide +kernel
theorem dX0_declareAll_45 : decode cX0_declareAll 45 = .ok (.getfield 93, 3) := by decide +kernel
theorem dX0_declareAll_48 : decode cX0_declareAll 48 = .ok (.iload_n 2, 1) := by decide +kernel
theorem dX0_declareAll_49 : decode cX0_declareAll 49 = .ok (.iaload, 1) := by decide +kernel
theorem dX0_declareAll_50 : decode cX0_declareAll 50 = .ok (.invokevirtual 96, 3) := by decide +kernel
theorem dX0_declareAll_53 : decode cX0_declareAll 53 = .ok (.pop, 1) := by decide +kernel
theorem dX0_declareAll_54 : decode cX0_declareAll 54 = .ok (.aload_n 0, 1) := by decide +kernel
theorem dX0_declareAll_55 : decode cX0_declareAll 55 = .ok (.aload_n 0, 1) := by decide +kernel
theorem dX0_declareAll_56 : decode cX0_declareAll 56 = .ok (.getfield 26, 3) := by decide +kernel
theorem dX0_declareAll_59 : decode cX0_declareAll 59 = .ok (.iload_n 3, 1) := by decide +kernel
theorem dX0_declareAll_60 : decode cX0_declareAll 60 = .ok (.invokevirtual 100, 3) := by decide +kernel
theorem dX0_declareAll_63 : decode cX0_declareAll 63 = .ok (.aload_n 0, 1) := by decide +kernel
theorem dX0_declareAll_64 : decode cX0_declareAll 64 = .ok (.getfield 9, 3) := by decide +kernel
theorem dX0_declareAll_67 : decode cX0_declareAll 67 = .ok (.getfield 104, 3) := by decide +kernel
theorem dX0_declareAll_70 : decode cX0_declareAll 70 = .ok (.iload_n 2, 1) := by decide +kernel
theorem dX0_declareAll_71 : decode cX0_declareAll 71 = .ok (.iaload, 1) := by decide +kernel
theorem dX0_declareAll_72 : decode cX0_declareAll 72 = .ok (.invokevirtual 107, 3) := by decide +kernel
theorem dX0_declareAll_75 : decode cX0_declareAll 75 = .ok (.pop, 1) := by decide +kernel
theorem dX0_declareAll_76 : decode cX0_declareAll 76 = .ok (.aload_n 0, 1) := by decide +kernel
theorem dX0_declareAll_77 : decode cX0_declareAll 77 = .ok (.getfield 26, 3) := by decide +kernel
theorem dX0_declareAll_80 : decode cX0_declareAll 80 = .ok (.iload_n 3, 1) := by decide +kernel
theorem dX0_declareAll_81 : decode cX0_declareAll 81 = .ok (.iload_n 2, 1) := by decide +kernel
theorem dX0_declareAll_82 : decode cX0_declareAll 82 = .ok (.invokevirtual 111, 3) := by decide +kernel
theorem dX0_declareAll_85 : decode cX0_declareAll 85 = .ok (.goto 65, 3) := by decide +kernel
theorem dX0_declareAll_88 : decode cX0_declareAll 88 = .ok (.aload_n 0, 1) := by decide +kernel
theorem dX0_declareAll_89 : decode cX0_declareAll 89 = .ok (.aload_n 0, 1) := by decide +kernel
theorem dX0_declareAll_90 : decode cX0_declareAll 90 = .ok (.getfield 21, 3) := by decide +kernel
theorem dX0_declareAll_93 : decode cX0_declareAll 93 = .ok (.getfield 114, 3) := by decide +kernel
theorem dX0_declareAll_96 : decode cX0_declareAll 96 = .ok (.bipush 24, 2) := by decide +kernel
theorem dX0_declareAll_98 : decode cX0_declareAll 98 = .ok (.aload_n 0, 1) := by decide +kernel
theorem dX0_declareAll_99 : decode cX0_declareAll 99 = .ok (.getfield 9, 3) := by decide +kernel
theorem dX0_declareAll_102 : decode cX0_declareAll 102 = .ok (.getfield 93, 3) := by decide +kernel
theorem dX0_declareAll_105 : decode cX0_declareAll 105 = .ok (.iload_n 2, 1) := by decide +kernel
theorem dX0_declareAll_106 : decode cX0_declareAll 106 = .ok (.iaload, 1) := by decide +kernel
theorem dX0_declareAll_107 : decode cX0_declareAll 107 = .ok (.invokevirtual 96, 3) := by decide +kernel
theorem dX0_declareAll_110 : decode cX0_declareAll 110 = .ok (.pop, 1) := by decide +kernel
theorem dX0_declareAll_111 : decode cX0_declareAll 111 = .ok (.aload_n 0, 1) := by decide +kernel
theorem dX0_declareAll_112 : decode cX0_declareAll 112 = .ok (.aload_n 0, 1) := by decide +kernel
theorem dX0_declareAll_113 : decode cX0_declareAll 113 = .ok (.getfield 21, 3) := by decide +kernel
theorem dX0_declareAll_116 : decode cX0_declareAll 116 = .ok (.iload_n 3, 1) := by decide +kernel
theorem dX0_declareAll_117 : decode cX0_declareAll 117 = .ok (.invokevirtual 117, 3) := by decide +kernel
theorem dX0_declareAll_120 : decode cX0_declareAll 120 = .ok (.aload_n 0, 1) := by decide +kernel
theorem dX0_declareAll_121 : decode cX0_declareAll 121 = .ok (.getfield 9, 3) := by decide +kernel
theorem dX0_declareAll_124 : decode cX0_declareAll 124 = .ok (.getfield 104, 3) := by decide +kernel
theorem dX0_declareAll_127 : decode cX0_declareAll 127 = .ok (.iload_n 2, 1) := by decide +kernel
theorem dX0_declareAll_128 : decode cX0_declareAll 128 = .ok (.iaload, 1) := by decide +kernel
theorem dX0_declareAll_129 : decode cX0_declareAll 129 = .ok (.invokevirtual 107, 3) := by decide +kernel
theorem dX0_declareAll_132 : decode cX0_declareAll 132 = .ok (.pop, 1) := by decide +kernel
theorem dX0_declareAll_133 : decode cX0_declareAll 133 = .ok (.aload_n 0, 1) := by decide +kernel
theorem dX0_declareAll_134 : decode cX0_declareAll 134 = .ok (.getfield 21, 3) := by decide +kernel
theorem dX0_declareAll_137 : decode cX0_declareAll 137 = .ok (.iload_n 3, 1) := by decide +kernel
theorem dX0_declareAll_138 : decode cX0_declareAll 138 = .ok (.aload_n 0, 1) := by decide +kernel
theorem dX0_declareAll_139 : decode cX0_declareAll 139 = .ok (.getfield 9, 3) := by decide +kernel
theorem dX0_declareAll_142 : decode cX0_declareAll 142 = .ok (.getfield 120, 3) := by decide +kernel
theorem dX0_declareAll_145 : decode cX0_declareAll 145 = .ok (.iload_n 2, 1) := by decide +kernel
theorem dX0_declareAll_146 : decode cX0_declareAll 146 = .ok (.iaload, 1) := by decide +kernel
theorem dX0_declareAll_147 : decode cX0_declareAll 147 = .ok (.invokevirtual 123, 3) := by decide +kernel
theorem dX0_declareAll_150 : decode cX0_declareAll 150 = .ok (.aload_n 0, 1) := by decide +kernel
theorem dX0_declareAll_151 : decode cX0_declareAll 151 = .ok (.getfield 9, 3) := by decide +kernel
theorem dX0_declareAll_154 : decode cX0_declareAll 154 = .ok (.getfield 59, 3) := by decide +kernel
theorem dX0_declareAll_157 : decode cX0_declareAll 157 = .ok (.iload_n 2, 1) := by decide +kernel
theorem dX0_declareAll_158 : decode cX0_declareAll 158 = .ok (.iaload, 1) := by decide +kernel
theorem dX0_declareAll_159 : decode cX0_declareAll 159 = .ok (.istore_n 2, 1) := by decide +kernel
theorem dX0_declareAll_160 : decode cX0_declareAll 160 = .ok (.goto (-158), 3) := by decide +kernel
theorem dX0_declareAll_163 : decode cX0_declareAll 163 = .ok (.return_, 1) := by decide +kernel
theorem dX0_measures_0 : decode cX0_measures 0 = .ok (.iconst 0, 1) := by decide +kernel
theorem dX0_measures_1 : decode cX0_measures 1 = .ok (.istore_n 2, 1) := by decide +kernel
theorem dX0_measures_2 : decode cX0_measures 2 = .ok (.iload_n 1, 1) := by decide +kernel
theorem dX0_measures_3 : decode cX0_measures 3 = .ok (.istore_n 3, 1) := by decide +kernel
theorem dX0_measures_4 : decode cX0_measures 4 = .ok (.iload_n 3, 1) := by decide +kernel
theorem dX0_measures_5 : decode cX0_measures 5 = .ok (.ifCond .eq 98, 3) := by decide +kernel
theorem dX0_measures_8 : decode cX0_measures 8 = .ok (.aload_n 0, 1) := by decide +kernel
theorem dX0_measures_9 : decode cX0_measures 9 = .ok (.getfield 9, 3) := by decide +kernel
theorem dX0_measures_12 : decode cX0_measures 12 = .ok (.getfield 52, 3) := by decide +kernel
theorem dX0_measures_15 : decode cX0_measures 15 = .ok (.iload_n 3, 1) := by decide +kernel
theorem dX0_measures_16 : decode cX0_measures 16 = .ok (.iaload, 1) := by decide +kernel
theorem dX0_measures_17 : decode cX0_measures 17 = .ok (.sipush 203, 3) := by decide +kernel
theorem dX0_measures_20 : decode cX0_measures 20 = .ok (.if_icmp .eq 70, 3) := by decide +kernel
theorem dX0_measures_23 : decode cX0_measures 23 = .ok (.iload_n 2, 1) := by decide +kernel
theorem dX0_measures_24 : decode cX0_measures 24 = .ok (.aload_n 0, 1) := by decide +kernel
theorem dX0_measures_25 : decode cX0_measures 25 = .ok (.getfield 21, 3) := by decide +kernel
theorem dX0_measures_28 : decode cX0_measures 28 = .ok (.getfield 114, 3) := by decide +kernel
theorem dX0_measures_31 : decode cX0_measures 31 = .ok (.if_icmp .lt 6, 3) := by decide +kernel
theorem dX0_measures_34 : decode cX0_measures 34 = .ok (.goto 56, 3) := by decide +kernel
theorem dX0_measures_37 : decode cX0_measures 37 = .ok (.aload_n 0, 1) := by decide +kernel
theorem dX0_measures_38 : decode cX0_measures 38 = .ok (.getfield 21, 3) := by decide +kernel
theorem dX0_measures_41 : decode cX0_measures 41 = .ok (.getfield 174, 3) := by decide +kernel
theorem dX0_measures_44 : decode cX0_measures 44 = .ok (.iload_n 2, 1) := by decide +kernel
theorem dX0_measures_45 : decode cX0_measures 45 = .ok (.iaload, 1) := by decide +kernel
theorem dX0_measures_46 : decode cX0_measures 46 = .ok (.istore 4, 2) := by decide +kernel
theorem dX0_measures_48 : decode cX0_measures 48 = .ok (.iload 4, 2) := by decide +kernel
theorem dX0_measures_50 : decode cX0_measures 50 = .ok (.ifCond .lt 24, 3) := by decide +kernel
theorem dX0_measures_53 : decode cX0_measures 53 = .ok (.iload 4, 2) := by decide +kernel
theorem dX0_measures_55 : decode cX0_measures 55 = .ok (.bipush 8, 2) := by decide +kernel
theorem dX0_measures_57 : decode cX0_measures 57 = .ok (.if_icmp .gt 17, 3) := by decide +kernel
theorem dX0_measures_60 : decode cX0_measures 60 = .ok (.aload_n 0, 1) := by decide +kernel
theorem dX0_measures_61 : decode cX0_measures 61 = .ok (.getfield 21, 3) := by decide +kernel
theorem dX0_measures_64 : decode cX0_measures 64 = .ok (.getfield 177, 3) := by decide +kernel
theorem dX0_measures_67 : decode cX0_measures 67 = .ok (.iload_n 2, 1) := by decide +kernel
theorem dX0_measures_68 : decode cX0_measures 68 = .ok (.iaload, 1) := by decide +kernel
theorem dX0_measures_69 : decode cX0_measures 69 = .ok (.bipush 16, 2) := by decide +kernel
theorem dX0_measures_71 : decode cX0_measures 71 = .ok (.if_icmp .le 16, 3) := by decide +kernel
theorem dX0_measures_74 : decode cX0_measures 74 = .ok (.aload_n 0, 1) := by decide +kernel
theorem dX0_measures_75 : decode cX0_measures 75 = .ok (.aload_n 0, 1) := by decide +kernel
theorem dX0_measures_76 : decode cX0_measures 76 = .ok (.getfield 9, 3) := by decide +kernel
theorem dX0_measures_79 : decode cX0_measures 79 = .ok (.getfield 104, 3) := by decide +kernel
theorem dX0_measures_82 : decode cX0_measures 82 = .ok (.iload_n 3, 1) := by decide +kernel
theorem dX0_measures_83 : decode cX0_measures 83 = .ok (.iaload, 1) := by decide +kernel
theorem dX0_measures_84 : decode cX0_measures 84 = .ok (.invokevirtual 126, 3) := by decide +kernel
theorem dX0_measures_87 : decode cX0_measures 87 = .ok (.iinc 2 1, 3) := by decide +kernel
theorem dX0_measures_90 : decode cX0_measures 90 = .ok (.aload_n 0, 1) := by decide +kernel
theorem dX0_measures_91 : decode cX0_measures 91 = .ok (.getfield 9, 3) := by decide +kernel
theorem dX0_measures_94 : decode cX0_measures 94 = .ok (.getfield 59, 3) := by decide +kernel
theorem dX0_measures_97 : decode cX0_measures 97 = .ok (.iload_n 3, 1) := by decide +kernel
theorem dX0_measures_98 : decode cX0_measures 98 = .ok (.iaload, 1) := by decide +kernel
theorem dX0_measures_99 : decode cX0_measures 99 = .ok (.istore_n 3, 1) := by decide +kernel
theorem dX0_measures_100 : decode cX0_measures 100 = .ok (.goto (-96), 3) := by decide +kernel
theorem dX0_measures_103 : decode cX0_measures 103 = .ok (.return_, 1) := by decide +kernel
theorem dX0_mainFunction_0 : decode cX0_mainFunction 0 = .ok (.iconst 0, 1) := by decide +kernel
theorem dX0_mainFunction_1 : decode cX0_mainFunction 1 = .ok (.istore_n 2, 1) := by decide +kernel
theorem dX0_mainFunction_2 : decode cX0_mainFunction 2 = .ok (.iload_n 2, 1) := by decide +kernel
theorem dX0_mainFunction_3 : decode cX0_mainFunction 3 = .ok (.aload_n 0, 1) := by decide +kernel
theorem dX0_mainFunction_4 : decode cX0_mainFunction 4 = .ok (.getfield 26, 3) := by decide +kernel
theorem dX0_mainFunction_7 : decode cX0_mainFunction 7 = .ok (.getfield 70, 3) := by decide +kernel
theorem dX0_mainFunction_10 : decode cX0_mainFunction 10 = .ok (.if_icmp .ge 66, 3) := by decide +kernel
theorem dX0_mainFunction_13 : decode cX0_mainFunction 13 = .ok (.aload_n 0, 1) := by decide +kernel
theorem dX0_mainFunction_14 : decode cX0_mainFunction 14 = .ok (.getfield 26, 3) := by decide +kernel
theorem dX0_mainFunction_17 : decode cX0_mainFunction 17 = .ok (.getfield 180, 3) := by decide +kernel
theorem dX0_mainFunction_20 : decode cX0_mainFunction 20 = .ok (.iload_n 2, 1) := by decide +kernel
theorem dX0_mainFunction_21 : decode cX0_mainFunction 21 = .ok (.iaload, 1) := by decide +kernel
theorem dX0_mainFunction_22 : decode cX0_mainFunction 22 = .ok (.istore_n 3, 1) := by decide +kernel
theorem dX0_mainFunction_23 : decode cX0_mainFunction 23 = .ok (.aload_n 0, 1) := by decide +kernel
theorem dX0_mainFunction_24 : decode cX0_mainFunction 24 = .ok (.getfield 9, 3) := by decide +kernel
theorem dX0_mainFunction_27 : decode cX0_mainFunction 27 = .ok (.getfield 90, 3) := by decide +kernel
theorem dX0_mainFunction_30 : decode cX0_mainFunction 30 = .ok (.iload_n 3, 1) := by decide +kernel
theorem dX0_mainFunction_31 : decode cX0_mainFunction 31 = .ok (.iaload, 1) := by decide +kernel
theorem dX0_mainFunction_32 : decode cX0_mainFunction 32 = .ok (.bipush 31, 2) := by decide +kernel
theorem dX0_mainFunction_34 : decode cX0_mainFunction 34 = .ok (.if_icmp .ne 36, 3) := by decide +kernel
theorem dX0_mainFunction_37 : decode cX0_mainFunction 37 = .ok (.aload_n 0, 1) := by decide +kernel
theorem dX0_mainFunction_38 : decode cX0_mainFunction 38 = .ok (.getfield 9, 3) := by decide +kernel
theorem dX0_mainFunction_41 : decode cX0_mainFunction 41 = .ok (.getfield 42, 3) := by decide +kernel
theorem dX0_mainFunction_44 : decode cX0_mainFunction 44 = .ok (.iload_n 3, 1) := by decide +kernel
theorem dX0_mainFunction_45 : decode cX0_mainFunction 45 = .ok (.iaload, 1) := by decide +kernel
theorem dX0_mainFunction_46 : decode cX0_mainFunction 46 = .ok (.ifCond .ne 24, 3) := by decide +kernel
theorem dX0_mainFunction_49 : decode cX0_mainFunction 49 = .ok (.aload_n 0, 1) := by decide +kernel
theorem dX0_mainFunction_50 : decode cX0_mainFunction 50 = .ok (.getfield 9, 3) := by decide +kernel
theorem dX0_mainFunction_53 : decode cX0_mainFunction 53 = .ok (.getfield 201, 3) := by decide +kernel
theorem dX0_mainFunction_56 : decode cX0_mainFunction 56 = .ok (.iload_n 3, 1) := by decide +kernel
theorem dX0_mainFunction_57 : decode cX0_mainFunction 57 = .ok (.iaload, 1) := by decide +kernel
theorem dX0_mainFunction_58 : decode cX0_mainFunction 58 = .ok (.ifCond .ne 12, 3) := by decide +kernel
theorem dX0_mainFunction_61 : decode cX0_mainFunction 61 = .ok (.aload_n 0, 1) := by decide +kernel
theorem dX0_mainFunction_62 : decode cX0_mainFunction 62 = .ok (.getfield 26, 3) := by decide +kernel
theorem dX0_mainFunction_65 : decode cX0_mainFunction 65 = .ok (.iload_n 2, 1) := by decide +kernel
theorem dX0_mainFunction_66 : decode cX0_mainFunction 66 = .ok (.putfield 224, 3) := by decide +kernel
theorem dX0_mainFunction_69 : decode cX0_mainFunction 69 = .ok (.return_, 1) := by decide +kernel
theorem dX0_mainFunction_70 : decode cX0_mainFunction 70 = .ok (.iinc 2 1, 3) := by decide +kernel
theorem dX0_mainFunction_73 : decode cX0_mainFunction 73 = .ok (.goto (-71), 3) := by decide +kernel
theorem dX0_mainFunction_76 : decode cX0_mainFunction 76 = .ok (.aload_n 0, 1) := by decide +kernel
theorem dX0_mainFunction_77 : decode cX0_mainFunction 77 = .ok (.iload_n 1, 1) := by decide +kernel
theorem dX0_mainFunction_78 : decode cX0_mainFunction 78 = .ok (.invokevirtual 126, 3) := by decide +kernel
theorem dX0_mainFunction_81 : decode cX0_mainFunction 81 = .ok (.return_, 1) := by decide +kernel
theorem dX0_broken_0 : decode cX0_broken 0 = .ok (.aload_n 0, 1) := by decide +kernel
theorem dX0_broken_1 : decode cX0_broken 1 = .ok (.aload_n 0, 1) := by decide +kernel
theorem dX0_broken_2 : decode cX0_broken 2 = .ok (.getfield 38, 3) := by decide +kernel
theorem dX0_broken_5 : decode cX0_broken 5 = .ok (.iload_n 1, 1) := by decide +kernel
theorem dX0_broken_6 : decode cX0_broken 6 = .ok (.invokestatic 84, 3) := by decide +kernel
theorem dX0_broken_9 : decode cX0_broken 9 = .ok (.putfield 38, 3) := by decide +kernel
theorem dX0_broken_12 : decode cX0_broken 12 = .ok (.return_, 1) := by decide +kernel
theorem dX1_init_0 : decode cX1_init 0 = .ok (.aload_n 0, 1) := by decide +kernel
theorem dX1_init_1 : decode cX1_init 1 = .ok (.invokespecial 3, 3) := by decide +kernel
theorem dX1_init_4 : decode cX1_init 4 = .ok (.aload_n 0, 1) := by decide +kernel
theorem dX1_init_5 : decode cX1_init 5 = .ok (.aload_n 1, 1) := by decide +kernel
theorem dX1_init_6 : decode cX1_init 6 = .ok (.putfield 9, 3) := by decide +kernel
theorem dX1_init_9 : decode cX1_init 9 = .ok (.return_, 1) := by decide +kernel
theorem dX11_init_0 : decode cX11_init 0 = .ok (.aload_n 0, 1) := by decide +kernel
theorem dX11_init_1 : decode cX11_init 1 = .ok (.invokespecial 5, 3) := by decide +kernel
theorem dX11_init_4 : decode cX11_init 4 = .ok (.aload_n 0, 1) := by decide +kernel
theorem dX11_init_5 : decode cX11_init 5 = .ok (.bipush 42, 2) := by decide +kernel
theorem dX11_init_7 : decode cX11_init 7 = .ok (.newarray .long, 2) := by decide +kernel
theorem dX11_init_9 : decode cX11_init 9 = .ok (.putfield 11, 3) := by decide +kernel
theorem dX11_init_12 : decode cX11_init 12 = .ok (.aload_n 0, 1) := by decide +kernel
theorem dX11_init_13 : decode cX11_init 13 = .ok (.sipush 2016, 3) := by decide +kernel
theorem dX11_init_16 : decode cX11_init 16 = .ok (.newarray .long, 2) := by decide +kernel
theorem dX11_init_18 : decode cX11_init 18 = .ok (.putfield 15, 3) := by decide +kernel
theorem dX11_init_21 : decode cX11_init 21 = .ok (.aload_n 0, 1) := by decide +kernel
theorem dX11_init_22 : decode cX11_init 22 = .ok (.bipush 48, 2) := by decide +kernel
theorem dX11_init_24 : decode cX11_init 24 = .ok (.newarray .boolean, 2) := by decide +kernel
theorem dX11_init_26 : decode cX11_init 26 = .ok (.putfield 18, 3) := by decide +kernel
theorem dX11_init_29 : decode cX11_init 29 = .ok (.aload_n 0, 1) := by decide +kernel
theorem dX11_init_30 : decode cX11_init 30 = .ok (.sipush 1504, 3) := by decide +kernel
theorem dX11_init_33 : decode cX11_init 33 = .ok (.newarray .long, 2) := by decide +kernel
theorem dX11_init_35 : decode cX11_init 35 = .ok (.putfield 22, 3) := by decide +kernel
theorem dX11_init_38 : decode cX11_init 38 = .ok (.aload_n 0, 1) := by decide +kernel
theorem dX11_init_39 : decode cX11_init 39 = .ok (.sipush 400, 3) := by decide +kernel
theorem dX11_init_42 : decode cX11_init 42 = .ok (.newarray .long, 2) := by decide +kernel
theorem dX11_init_44 : decode cX11_init 44 = .ok (.putfield 25, 3) := by decide +kernel
theorem dX11_init_47 : decode cX11_init 47 = .ok (.aload_n 0, 1) := by decide +kernel
theorem dX11_init_48 : decode cX11_init 48 = .ok (.sipush 3072, 3) := by decide +kernel
theorem dX11_init_51 : decode cX11_init 51 = .ok (.newarray .long, 2) := by decide +kernel
theorem dX11_init_53 : decode cX11_init 53 = .ok (.putfield 28, 3) := by decide +kernel
theorem dX11_init_56 : decode cX11_init 56 = .ok (.aload_n 0, 1) := by decide +kernel
theorem dX11_init_57 : decode cX11_init 57 = .ok (.sipush 3072, 3) := by decide +kernel
theorem dX11_init_60 : decode cX11_init 60 = .ok (.newarray .boolean, 2) := by decide +kernel
theorem dX11_init_62 : decode cX11_init 62 = .ok (.putfield 31, 3) := by decide +kernel
theorem dX11_init_65 : decode cX11_init 65 = .ok (.return_, 1) := by decide +kernel
theorem dX3_init_0 : decode cX3_init 0 = .ok (.aload_n 0, 1) := by decide +kernel
theorem dX3_init_1 : decode cX3_init 1 = .ok (.invokespecial 3, 3) := by decide +kernel
theorem dX3_init_4 : decode cX3_init 4 = .ok (.aload_n 0, 1) := by decide +kernel
theorem dX3_init_5 : decode cX3_init 5 = .ok (.new 9, 3) := by decide +kernel
theorem dX3_init_8 : decode cX3_init 8 = .ok (.dup, 1) := by decide +kernel
theorem dX3_init_9 : decode cX3_init 9 = .ok (.invokespecial 11, 3) := by decide +kernel
theorem dX3_init_12 : decode cX3_init 12 = .ok (.putfield 12, 3) := by decide +kernel
theorem dX3_init_15 : decode cX3_init 15 = .ok (.aload_n 0, 1) := by decide +kernel
theorem dX3_init_16 : decode cX3_init 16 = .ok (.bipush 40, 2) := by decide +kernel
theorem dX3_init_18 : decode cX3_init 18 = .ok (.iconst 4, 1) := by decide +kernel
theorem dX3_init_19 : decode cX3_init 19 = .ok (.multianewarray 18 2, 4) := by decide +kernel
theorem dX3_init_23 : decode cX3_init 23 = .ok (.putfield 20, 3) := by decide +kernel
theorem dX3_init_26 : decode cX3_init 26 = .ok (.aload_n 0, 1) := by decide +kernel
theorem dX3_init_27 : decode cX3_init 27 = .ok (.bipush 8, 2) := by decide +kernel
theorem dX3_init_29 : decode cX3_init 29 = .ok (.newarray .long, 2) := by decide +kernel
theorem dX3_init_31 : decode cX3_init 31 = .ok (.putfield 23, 3) := by decide +kernel
theorem dX3_init_34 : decode cX3_init 34 = .ok (.return_, 1) := by decide +kernel
theorem dX7_init_0 : decode cX7_init 0 = .ok (.aload_n 0, 1) := by decide +kernel
theorem dX7_init_1 : decode cX7_init 1 = .ok (.invokespecial 3, 3) := by decide +kernel
theorem dX7_init_4 : decode cX7_init 4 = .ok (.aload_n 0, 1) := by decide +kernel
theorem dX7_init_5 : decode cX7_init 5 = .ok (.sipush 19456, 3) := by decide +kernel
theorem dX7_init_8 : decode cX7_init 8 = .ok (.newarray .long, 2) := by decide +kernel
theorem dX7_init_10 : decode cX7_init 10 = .ok (.putfield 9, 3) := by decide +kernel
theorem dX7_init_13 : decode cX7_init 13 = .ok (.aload_n 0, 1) := by decide +kernel
theorem dX7_init_14 : decode cX7_init 14 = .ok (.sipush 200, 3) := by decide +kernel
theorem dX7_init_17 : decode cX7_init 17 = .ok (.newarray .boolean, 2) := by decide +kernel
theorem dX7_init_19 : decode cX7_init 19 = .ok (.putfield 15, 3) := by decide +kernel
theorem dX7_init_22 : decode cX7_init 22 = .ok (.aload_n 0, 1) := by decide +kernel
theorem dX7_init_23 : decode cX7_init 23 = .ok (.bipush 60, 2) := by decide +kernel
theorem dX7_init_25 : decode cX7_init 25 = .ok (.newarray .boolean, 2) := by decide +kernel
theorem dX7_init_27 : decode cX7_init 27 = .ok (.putfield 19, 3) := by decide +kernel
theorem dX7_init_30 : decode cX7_init 30 = .ok (.aload_n 0, 1) := by decide +kernel
theorem dX7_init_31 : decode cX7_init 31 = .ok (.bipush 60, 2) := by decide +kernel
theorem dX7_init_33 : decode cX7_init 33 = .ok (.newarray .int, 2) := by decide +kernel
theorem dX7_init_35 : decode cX7_init 35 = .ok (.putfield 22, 3) := by decide +kernel
theorem dX7_init_38 : decode cX7_init 38 = .ok (.aload_n 0, 1) := by decide +kernel
theorem dX7_init_39 : decode cX7_init 39 = .ok (.sipush 1000, 3) := by decide +kernel
theorem dX7_init_42 : decode cX7_init 42 = .ok (.newarray .int, 2) := by decide +kernel
theorem dX7_init_44 : decode cX7_init 44 = .ok (.putfield 26, 3) := by decide +kernel
theorem dX7_init_47 : decode cX7_init 47 = .ok (.aload_n 0, 1) := by decide +kernel
theorem dX7_init_48 : decode cX7_init 48 = .ok (.sipush 1000, 3) := by decide +kernel
theorem dX7_init_51 : decode cX7_init 51 = .ok (.newarray .long, 2) := by decide +kernel
theorem dX7_init_53 : decode cX7_init 53 = .ok (.putfield 29, 3) := by decide +kernel
theorem dX7_init_56 : decode cX7_init 56 = .ok (.aload_n 0, 1) := by decide +kernel
theorem dX7_init_57 : decode cX7_init 57 = .ok (.sipush 4608, 3) := by decide +kernel
theorem dX7_init_60 : decode cX7_init 60 = .ok (.newarray .int, 2) := by decide +kernel
theorem dX7_init_62 : decode cX7_init 62 = .ok (.putfield 32, 3) := by decide +kernel
theorem dX7_init_65 : decode cX7_init 65 = .ok (.aload_n 0, 1) := by decide +kernel
theorem dX7_init_66 : decode cX7_init 66 = .ok (.sipush 4608, 3) := by decide +kernel
theorem dX7_init_69 : decode cX7_init 69 = .ok (.newarray .int, 2) := by decide +kernel
theorem dX7_init_71 : decode cX7_init 71 = .ok (.putfield 35, 3) := by decide +kernel
theorem dX7_init_74 : decode cX7_init 74 = .ok (.return_, 1) := by decide +kernel
theorem dX5_init_0 : decode cX5_init 0 = .ok (.aload_n 0, 1) := by decide +kernel
theorem dX5_init_1 : decode cX5_init 1 = .ok (.invokespecial 3, 3) := by decide +kernel
theorem dX5_init_4 : decode cX5_init 4 = .ok (.aload_n 0, 1) := by decide +kernel
theorem dX5_init_5 : decode cX5_init 5 = .ok (.new 9, 3) := by decide +kernel
theorem dX5_init_8 : decode cX5_init 8 = .ok (.dup, 1) := by decide +kernel
theorem dX5_init_9 : decode cX5_init 9 = .ok (.invokespecial 11, 3) := by decide +kernel
theorem dX5_init_12 : decode cX5_init 12 = .ok (.putfield 12, 3) := by decide +kernel
theorem dX5_init_15 : decode cX5_init 15 = .ok (.aload_n 0, 1) := by decide +kernel
theorem dX5_init_16 : decode cX5_init 16 = .ok (.new 18, 3) := by decide +kernel
theorem dX5_init_19 : decode cX5_init 19 = .ok (.dup, 1) := by decide +kernel
theorem dX5_init_20 : decode cX5_init 20 = .ok (.invokespecial 20, 3) := by decide +kernel
theorem dX5_init_23 : decode cX5_init 23 = .ok (.putfield 21, 3) := by decide +kernel
theorem dX5_init_26 : decode cX5_init 26 = .ok (.aload_n 0, 1) := by decide +kernel
theorem dX5_init_27 : decode cX5_init 27 = .ok (.new 25, 3) := by decide +kernel
theorem dX5_init_30 : decode cX5_init 30 = .ok (.dup, 1) := by decide +kernel
theorem dX5_init_31 : decode cX5_init 31 = .ok (.invokespecial 27, 3) := by decide +kernel
theorem dX5_init_34 : decode cX5_init 34 = .ok (.putfield 28, 3) := by decide +kernel
theorem dX5_init_37 : decode cX5_init 37 = .ok (.aload_n 0, 1) := by decide +kernel
theorem dX5_init_38 : decode cX5_init 38 = .ok (.new 32, 3) := by decide +kernel
theorem dX5_init_41 : decode cX5_init 41 = .ok (.dup, 1) := by decide +kernel
theorem dX5_init_42 : decode cX5_init 42 = .ok (.invokespecial 34, 3) := by decide +kernel
theorem dX5_init_45 : decode cX5_init 45 = .ok (.putfield 35, 3) := by decide +kernel
theorem dX5_init_48 : decode cX5_init 48 = .ok (.aload_n 0, 1) := by decide +kernel
theorem dX5_init_49 : decode cX5_init 49 = .ok (.sipush 3072, 3) := by decide +kernel
theorem dX5_init_52 : decode cX5_init 52 = .ok (.newarray .int, 2) := by decide +kernel
theorem dX5_init_54 : decode cX5_init 54 = .ok (.putfield 39, 3) := by decide +kernel
theorem dX5_init_57 : decode cX5_init 57 = .ok (.aload_n 0, 1) := by decide +kernel
theorem dX5_init_58 : decode cX5_init 58 = .ok (.sipush 3072, 3) := by decide +kernel
theorem dX5_init_61 : decode cX5_init 61 = .ok (.newarray .int, 2) := by decide +kernel
theorem dX5_init_63 : decode cX5_init 63 = .ok (.putfield 43, 3) := by decide +kernel
theorem dX5_init_66 : decode cX5_init 66 = .ok (.aload_n 0, 1) := by decide +kernel
theorem dX5_init_67 : decode cX5_init 67 = .ok (.sipush 3072, 3) := by decide +kernel
theorem dX5_init_70 : decode cX5_init 70 = .ok (.newarray .int, 2) := by decide +kernel
theorem dX5_init_72 : decode cX5_init 72 = .ok (.putfield 46, 3) := by decide +kernel
theorem dX5_init_75 : decode cX5_init 75 = .ok (.aload_n 0, 1) := by decide +kernel
theorem dX5_init_76 : decode cX5_init 76 = .ok (.sipush 3072, 3) := by decide +kernel
theorem dX5_init_79 : decode cX5_init 79 = .ok (.newarray .int, 2) := by decide +kernel
theorem dX5_init_81 : decode cX5_init 81 = .ok (.putfield 49, 3) := by decide +kernel
theorem dX5_init_84 : decode cX5_init 84 = .ok (.aload_n 0, 1) := by decide +kernel
theorem dX5_init_85 : decode cX5_init 85 = .ok (.sipush 3072, 3) := by decide +kernel
theorem dX5_init_88 : decode cX5_init 88 = .ok (.newarray .int, 2) := by decide +kernel
theorem dX5_init_90 : decode cX5_init 90 = .ok (.putfield 52, 3) := by decide +kernel
theorem dX5_init_93 : decode cX5_init 93 = .ok (.aload_n 0, 1) := by decide +kernel
theorem dX5_init_94 : decode cX5_init 94 = .ok (.sipush 3072, 3) := by decide +kernel
theorem dX5_init_97 : decode cX5_init 97 = .ok (.newarray .int, 2) := by decide +kernel
theorem dX5_init_99 : decode cX5_init 99 = .ok (.putfield 55, 3) := by decide +kernel
theorem dX5_init_102 : decode cX5_init 102 = .ok (.aload_n 0, 1) := by decide +kernel
theorem dX5_init_103 : decode cX5_init 103 = .ok (.sipush 760, 3) := by decide +kernel
theorem dX5_init_106 : decode cX5_init 106 = .ok (.newarray .int, 2) := by decide +kernel
theorem dX5_init_108 : decode cX5_init 108 = .ok (.putfield 58, 3) := by decide +kernel
theorem dX5_init_111 : decode cX5_init 111 = .ok (.return_, 1) := by decide +kernel
theorem dX5_clear_0 : decode cX5_clear 0 = .ok (.aload_n 0, 1) := by decide +kernel
theorem dX5_clear_1 : decode cX5_clear 1 = .ok (.getfield 12, 3) := by decide +kernel
theorem dX5_clear_4 : decode cX5_clear 4 = .ok (.invokevirtual 61, 3) := by decide +kernel
theorem dX5_clear_7 : decode cX5_clear 7 = .ok (.aload_n 0, 1) := by decide +kernel
theorem dX5_clear_8 : decode cX5_clear 8 = .ok (.getfield 21, 3) := by decide +kernel
theorem dX5_clear_11 : decode cX5_clear 11 = .ok (.invokevirtual 64, 3) := by decide +kernel
theorem dX5_clear_14 : decode cX5_clear 14 = .ok (.aload_n 0, 1) := by decide +kernel
theorem dX5_clear_15 : decode cX5_clear 15 = .ok (.getfield 28, 3) := by decide +kernel
theorem dX5_clear_18 : decode cX5_clear 18 = .ok (.invokevirtual 65, 3) := by decide +kernel
theorem dX5_clear_21 : decode cX5_clear 21 = .ok (.aload_n 0, 1) := by decide +kernel
theorem dX5_clear_22 : decode cX5_clear 22 = .ok (.getfield 35, 3) := by decide +kernel
theorem dX5_clear_25 : decode cX5_clear 25 = .ok (.invokevirtual 66, 3) := by decide +kernel
theorem dX5_clear_28 : decode cX5_clear 28 = .ok (.aload_n 0, 1) := by decide +kernel
theorem dX5_clear_29 : decode cX5_clear 29 = .ok (.iconst 0, 1) := by decide +kernel
theorem dX5_clear_30 : decode cX5_clear 30 = .ok (.putfield 67, 3) := by decide +kernel
theorem dX5_clear_33 : decode cX5_clear 33 = .ok (.aload_n 0, 1) := by decide +kernel
theorem dX5_clear_34 : decode cX5_clear 34 = .ok (.iconst 0, 1) := by decide +kernel
theorem dX5_clear_35 : decode cX5_clear 35 = .ok (.putfield 71, 3) := by decide +kernel
theorem dX5_clear_38 : decode cX5_clear 38 = .ok (.aload_n 0, 1) := by decide +kernel
theorem dX5_clear_39 : decode cX5_clear 39 = .ok (.iconst 0, 1) := by decide +kernel
theorem dX5_clear_40 : decode cX5_clear 40 = .ok (.putfield 74, 3) := by decide +kernel
theorem dX5_clear_43 : decode cX5_clear 43 = .ok (.aload_n 0, 1) := by decide +kernel
theorem dX5_clear_44 : decode cX5_clear 44 = .ok (.iconst 0, 1) := by decide +kernel
theorem dX5_clear_45 : decode cX5_clear 45 = .ok (.putfield 77, 3) := by decide +kernel
theorem dX5_clear_48 : decode cX5_clear 48 = .ok (.return_, 1) := by decide +kernel
theorem dX9_init_0 : decode cX9_init 0 = .ok (.aload_n 0, 1) := by decide +kernel
theorem dX9_init_1 : decode cX9_init 1 = .ok (.invokespecial 3, 3) := by decide +kernel
theorem dX9_init_4 : decode cX9_init 4 = .ok (.aload_n 0, 1) := by decide +kernel
theorem dX9_init_5 : decode cX9_init 5 = .ok (.sipush 1504, 3) := by decide +kernel
theorem dX9_init_8 : decode cX9_init 8 = .ok (.newarray .int, 2) := by decide +kernel
theorem dX9_init_10 : decode cX9_init 10 = .ok (.putfield 9, 3) := by decide +kernel
theorem dX9_init_13 : decode cX9_init 13 = .ok (.aload_n 0, 1) := by decide +kernel
theorem dX9_init_14 : decode cX9_init 14 = .ok (.sipush 1504, 3) := by decide +kernel
theorem dX9_init_17 : decode cX9_init 17 = .ok (.newarray .int, 2) := by decide +kernel
theorem dX9_init_19 : decode cX9_init 19 = .ok (.putfield 15, 3) := by decide +kernel
theorem dX9_init_22 : decode cX9_init 22 = .ok (.aload_n 0, 1) := by decide +kernel
theorem dX9_init_23 : decode cX9_init 23 = .ok (.sipush 304, 3) := by decide +kernel
theorem dX9_init_26 : decode cX9_init 26 = .ok (.newarray .int, 2) := by decide +kernel
theorem dX9_init_28 : decode cX9_init 28 = .ok (.putfield 18, 3) := by decide +kernel
theorem dX9_init_31 : decode cX9_init 31 = .ok (.aload_n 0, 1) := by decide +kernel
theorem dX9_init_32 : decode cX9_init 32 = .ok (.sipush 304, 3) := by decide +kernel
theorem dX9_init_35 : decode cX9_init 35 = .ok (.newarray .int, 2) := by decide +kernel
theorem dX9_init_37 : decode cX9_init 37 = .ok (.putfield 21, 3) := by decide +kernel
theorem dX9_init_40 : decode cX9_init 40 = .ok (.aload_n 0, 1) := by decide +kernel
theorem dX9_init_41 : decode cX9_init 41 = .ok (.sipush 304, 3) := by decide +kernel
theorem dX9_init_44 : decode cX9_init 44 = .ok (.newarray .int, 2) := by decide +kernel
theorem dX9_init_46 : decode cX9_init 46 = .ok (.putfield 24, 3) := by decide +kernel
theorem dX9_init_49 : decode cX9_init 49 = .ok (.aload_n 0, 1) := by decide +kernel
theorem dX9_init_50 : decode cX9_init 50 = .ok (.sipush 304, 3) := by decide +kernel
theorem dX9_init_53 : decode cX9_init 53 = .ok (.newarray .int, 2) := by decide +kernel
theorem dX9_init_55 : decode cX9_init 55 = .ok (.putfield 27, 3) := by decide +kernel
theorem dX9_init_58 : decode cX9_init 58 = .ok (.aload_n 0, 1) := by decide +kernel
theorem dX9_init_59 : decode cX9_init 59 = .ok (.sipush 304, 3) := by decide +kernel
theorem dX9_init_62 : decode cX9_init 62 = .ok (.newarray .int, 2) := by decide +kernel
theorem dX9_init_64 : decode cX9_init 64 = .ok (.putfield 30, 3) := by decide +kernel
theorem dX9_init_67 : decode cX9_init 67 = .ok (.aload_n 0, 1) := by decide +kernel
theorem dX9_init_68 : decode cX9_init 68 = .ok (.sipush 304, 3) := by decide +kernel
theorem dX9_init_71 : decode cX9_init 71 = .ok (.newarray .int, 2) := by decide +kernel
theorem dX9_init_73 : decode cX9_init 73 = .ok (.putfield 33, 3) := by decide +kernel
theorem dX9_init_76 : decode cX9_init 76 = .ok (.aload_n 0, 1) := by decide +kernel
theorem dX9_init_77 : decode cX9_init 77 = .ok (.sipush 304, 3) := by decide +kernel
theorem dX9_init_80 : decode cX9_init 80 = .ok (.newarray .int, 2) := by decide +kernel
theorem dX9_init_82 : decode cX9_init 82 = .ok (.putfield 36, 3) := by decide +kernel
theorem dX9_init_85 : decode cX9_init 85 = .ok (.aload_n 0, 1) := by decide +kernel
theorem dX9_init_86 : decode cX9_init 86 = .ok (.sipush 1504, 3) := by decide +kernel
theorem dX9_init_89 : decode cX9_init 89 = .ok (.newarray .int, 2) := by decide +kernel
theorem dX9_init_91 : decode cX9_init 91 = .ok (.putfield 39, 3) := by decide +kernel
theorem dX9_init_94 : decode cX9_init 94 = .ok (.aload_n 0, 1) := by decide +kernel
theorem dX9_init_95 : decode cX9_init 95 = .ok (.sipush 1504, 3) := by decide +kernel
theorem dX9_init_98 : decode cX9_init 98 = .ok (.newarray .int, 2) := by decide +kernel
theorem dX9_init_100 : decode cX9_init 100 = .ok (.putfield 42, 3) := by decide +kernel
theorem dX9_init_103 : decode cX9_init 103 = .ok (.aload_n 0, 1) := by decide +kernel
theorem dX9_init_104 : decode cX9_init 104 = .ok (.sipush 1504, 3) := by decide +kernel
theorem dX9_init_107 : decode cX9_init 107 = .ok (.newarray .int, 2) := by decide +kernel
theorem dX9_init_109 : decode cX9_init 109 = .ok (.putfield 45, 3) := by decide +kernel
theorem dX9_init_112 : decode cX9_init 112 = .ok (.aload_n 0, 1) := by decide +kernel
theorem dX9_init_113 : decode cX9_init 113 = .ok (.sipush 1504, 3) := by decide +kernel
theorem dX9_init_116 : decode cX9_init 116 = .ok (.newarray .int, 2) := by decide +kernel
theorem dX9_init_118 : decode cX9_init 118 = .ok (.putfield 48, 3) := by decide +kernel
theorem dX9_init_121 : decode cX9_init 121 = .ok (.aload_n 0, 1) := by decide +kernel
theorem dX9_init_122 : decode cX9_init 122 = .ok (.sipush 1504, 3) := by decide +kernel
theorem dX9_init_125 : decode cX9_init 125 = .ok (.newarray .int, 2) := by decide +kernel
theorem dX9_init_127 : decode cX9_init 127 = .ok (.putfield 51, 3) := by decide +kernel
theorem dX9_init_130 : decode cX9_init 130 = .ok (.aload_n 0, 1) := by decide +kernel
theorem dX9_init_131 : decode cX9_init 131 = .ok (.sipush 1504, 3) := by decide +kernel
theorem dX9_init_134 : decode cX9_init 134 = .ok (.newarray .int, 2) := by decide +kernel
theorem dX9_init_136 : decode cX9_init 136 = .ok (.putfield 54, 3) := by decide +kernel
theorem dX9_init_139 : decode cX9_init 139 = .ok (.return_, 1) := by decide +kernel
theorem dX9_clear_0 : decode cX9_clear 0 = .ok (.aload_n 0, 1) := by decide +kernel
theorem dX9_clear_1 : decode cX9_clear 1 = .ok (.iconst 0, 1) := by decide +kernel
theorem dX9_clear_2 : decode cX9_clear 2 = .ok (.putfield 57, 3) := by decide +kernel
theorem dX9_clear_5 : decode cX9_clear 5 = .ok (.aload_n 0, 1) := by decide +kernel
theorem dX9_clear_6 : decode cX9_clear 6 = .ok (.iconst 0, 1) := by decide +kernel
theorem dX9_clear_7 : decode cX9_clear 7 = .ok (.putfield 61, 3) := by decide +kernel
theorem dX9_clear_10 : decode cX9_clear 10 = .ok (.aload_n 0, 1) := by decide +kernel
theorem dX9_clear_11 : decode cX9_clear 11 = .ok (.iconst 0, 1) := by decide +kernel
theorem dX9_clear_12 : decode cX9_clear 12 = .ok (.putfield 64, 3) := by decide +kernel
theorem dX9_clear_15 : decode cX9_clear 15 = .ok (.aload_n 0, 1) := by decide +kernel
theorem dX9_clear_16 : decode cX9_clear 16 = .ok (.iconst 3, 1) := by decide +kernel
theorem dX9_clear_17 : decode cX9_clear 17 = .ok (.putfield 67, 3) := by decide +kernel
theorem dX9_clear_20 : decode cX9_clear 20 = .ok (.aload_n 0, 1) := by decide +kernel
theorem dX9_clear_21 : decode cX9_clear 21 = .ok (.getfield 9, 3) := by decide +kernel
theorem dX9_clear_24 : decode cX9_clear 24 = .ok (.iconst 0, 1) := by decide +kernel
theorem dX9_clear_25 : decode cX9_clear 25 = .ok (.iconst 0, 1) := by decide +kernel
theorem dX9_clear_26 : decode cX9_clear 26 = .ok (.iastore, 1) := by decide +kernel
theorem dX9_clear_27 : decode cX9_clear 27 = .ok (.aload_n 0, 1) := by decide +kernel
theorem dX9_clear_28 : decode cX9_clear 28 = .ok (.getfield 9, 3) := by decide +kernel
theorem dX9_clear_31 : decode cX9_clear 31 = .ok (.iconst 1, 1) := by decide +kernel
theorem dX9_clear_32 : decode cX9_clear 32 = .ok (.iconst 1, 1) := by decide +kernel
theorem dX9_clear_33 : decode cX9_clear 33 = .ok (.iastore, 1) := by decide +kernel
theorem dX9_clear_34 : decode cX9_clear 34 = .ok (.aload_n 0, 1) := by decide +kernel
theorem dX9_clear_35 : decode cX9_clear 35 = .ok (.getfield 9, 3) := by decide +kernel
theorem dX9_clear_38 : decode cX9_clear 38 = .ok (.iconst 2, 1) := by decide +kernel
theorem dX9_clear_39 : decode cX9_clear 39 = .ok (.iconst 2, 1) := by decide +kernel
theorem dX9_clear_40 : decode cX9_clear 40 = .ok (.iastore, 1) := by decide +kernel
theorem dX9_clear_41 : decode cX9_clear 41 = .ok (.return_, 1) := by decide +kernel
theorem dX9_measure_0 : decode cX9_measure 0 = .ok (.iconst 1, 1) := by decide +kernel
theorem dX9_measure_1 : decode cX9_measure 1 = .ok (.istore_n 1, 1) := by decide +kernel
theorem dX9_measure_2 : decode cX9_measure 2 = .ok (.iconst 0, 1) := by decide +kernel
theorem dX9_measure_3 : decode cX9_measure 3 = .ok (.istore_n 2, 1) := by decide +kernel
theorem dX9_measure_4 : decode cX9_measure 4 = .ok (.iload_n 2, 1) := by decide +kernel
theorem dX9_measure_5 : decode cX9_measure 5 = .ok (.aload_n 0, 1) := by decide +kernel
theorem dX9_measure_6 : decode cX9_measure 6 = .ok (.getfield 57, 3) := by decide +kernel
theorem dX9_measure_9 : decode cX9_measure 9 = .ok (.if_icmp .gt 55, 3) := by decide +kernel
theorem dX9_measure_12 : decode cX9_measure 12 = .ok (.iload_n 1, 1) := by decide +kernel
theorem dX9_measure_13 : decode cX9_measure 13 = .ok (.ifCond .eq 51, 3) := by decide +kernel
theorem dX9_measure_16 : decode cX9_measure 16 = .ok (.iconst 0, 1) := by decide +kernel
theorem dX9_measure_17 : decode cX9_measure 17 = .ok (.istore_n 1, 1) := by decide +kernel
theorem dX9_measure_18 : decode cX9_measure 18 = .ok (.iconst 0, 1) := by decide +kernel
theorem dX9_measure_19 : decode cX9_measure 19 = .ok (.istore_n 3, 1) := by decide +kernel
theorem dX9_measure_20 : decode cX9_measure 20 = .ok (.iload_n 3, 1) := by decide +kernel
theorem dX9_measure_21 : decode cX9_measure 21 = .ok (.aload_n 0, 1) := by decide +kernel
theorem dX9_measure_22 : decode cX9_measure 22 = .ok (.getfield 57, 3) := by decide +kernel
theorem dX9_measure_25 : decode cX9_measure 25 = .ok (.if_icmp .ge 33, 3) := by decide +kernel
theorem dX9_measure_28 : decode cX9_measure 28 = .ok (.aload_n 0, 1) := by decide +kernel
theorem dX9_measure_29 : decode cX9_measure 29 = .ok (.getfield 30, 3) := by decide +kernel
theorem dX9_measure_32 : decode cX9_measure 32 = .ok (.iload_n 3, 1) := by decide +kernel
theorem dX9_measure_33 : decode cX9_measure 33 = .ok (.iaload, 1) := by decide +kernel
theorem dX9_measure_34 : decode cX9_measure 34 = .ok (.ifCond .ge 18, 3) := by decide +kernel
theorem dX9_measure_37 : decode cX9_measure 37 = .ok (.aload_n 0, 1) := by decide +kernel
theorem dX9_measure_38 : decode cX9_measure 38 = .ok (.iload_n 3, 1) := by decide +kernel
theorem dX9_measure_39 : decode cX9_measure 39 = .ok (.invokevirtual 77, 3) := by decide +kernel
theorem dX9_measure_42 : decode cX9_measure 42 = .ok (.ifCond .eq 10, 3) := by decide +kernel
theorem dX9_measure_45 : decode cX9_measure 45 = .ok (.aload_n 0, 1) := by decide +kernel
theorem dX9_measure_46 : decode cX9_measure 46 = .ok (.iload_n 3, 1) := by decide +kernel
theorem dX9_measure_47 : decode cX9_measure 47 = .ok (.invokevirtual 80, 3) := by decide +kernel
theorem dX9_measure_50 : decode cX9_measure 50 = .ok (.iconst 1, 1) := by decide +kernel
theorem dX9_measure_51 : decode cX9_measure 51 = .ok (.istore_n 1, 1) := by decide +kernel
theorem dX9_measure_52 : decode cX9_measure 52 = .ok (.iinc 3 1, 3) := by decide +kernel
theorem dX9_measure_55 : decode cX9_measure 55 = .ok (.goto (-35), 3) := by decide +kernel
theorem dX9_measure_58 : decode cX9_measure 58 = .ok (.iinc 2 1, 3) := by decide +kernel
theorem dX9_measure_61 : decode cX9_measure 61 = .ok (.goto (-57), 3) := by decide +kernel
theorem dX9_measure_64 : decode cX9_measure 64 = .ok (.return_, 1) := by decide +kernel
theorem dX2_init_0 : decode cX2_init 0 = .ok (.aload_n 0, 1) := by decide +kernel
theorem dX2_init_1 : decode cX2_init 1 = .ok (.invokespecial 3, 3) := by decide +kernel
theorem dX2_init_4 : decode cX2_init 4 = .ok (.aload_n 0, 1) := by decide +kernel
theorem dX2_init_5 : decode cX2_init 5 = .ok (.sipush 380, 3) := by decide +kernel
theorem dX2_init_8 : decode cX2_init 8 = .ok (.newarray .int, 2) := by decide +kernel
theorem dX2_init_10 : decode cX2_init 10 = .ok (.putfield 9, 3) := by decide +kernel
theorem dX2_init_13 : decode cX2_init 13 = .ok (.aload_n 0, 1) := by decide +kernel
theorem dX2_init_14 : decode cX2_init 14 = .ok (.sipush 380, 3) := by decide +kernel
theorem dX2_init_17 : decode cX2_init 17 = .ok (.newarray .int, 2) := by decide +kernel
theorem dX2_init_19 : decode cX2_init 19 = .ok (.putfield 15, 3) := by decide +kernel
theorem dX2_init_22 : decode cX2_init 22 = .ok (.aload_n 0, 1) := by decide +kernel
theorem dX2_init_23 : decode cX2_init 23 = .ok (.sipush 380, 3) := by decide +kernel
theorem dX2_init_26 : decode cX2_init 26 = .ok (.newarray .int, 2) := by decide +kernel
theorem dX2_init_28 : decode cX2_init 28 = .ok (.putfield 18, 3) := by decide +kernel
theorem dX2_init_31 : decode cX2_init 31 = .ok (.aload_n 0, 1) := by decide +kernel
theorem dX2_init_32 : decode cX2_init 32 = .ok (.sipush 380, 3) := by decide +kernel
theorem dX2_init_35 : decode cX2_init 35 = .ok (.newarray .long, 2) := by decide +kernel
theorem dX2_init_37 : decode cX2_init 37 = .ok (.putfield 21, 3) := by decide +kernel
theorem dX2_init_40 : decode cX2_init 40 = .ok (.aload_n 0, 1) := by decide +kernel
theorem dX2_init_41 : decode cX2_init 41 = .ok (.sipush 380, 3) := by decide +kernel
theorem dX2_init_44 : decode cX2_init 44 = .ok (.newarray .int, 2) := by decide +kernel
theorem dX2_init_46 : decode cX2_init 46 = .ok (.putfield 25, 3) := by decide +kernel
theorem dX2_init_49 : decode cX2_init 49 = .ok (.aload_n 0, 1) := by decide +kernel
theorem dX2_init_50 : decode cX2_init 50 = .ok (.sipush 380, 3) := by decide +kernel
theorem dX2_init_53 : decode cX2_init 53 = .ok (.newarray .int, 2) := by decide +kernel
theorem dX2_init_55 : decode cX2_init 55 = .ok (.putfield 28, 3) := by decide +kernel
theorem dX2_init_58 : decode cX2_init 58 = .ok (.aload_n 0, 1) := by decide +kernel
theorem dX2_init_59 : decode cX2_init 59 = .ok (.sipush 1504, 3) := by decide +kernel
theorem dX2_init_62 : decode cX2_init 62 = .ok (.newarray .int, 2) := by decide +kernel
theorem dX2_init_64 : decode cX2_init 64 = .ok (.putfield 31, 3) := by decide +kernel
theorem dX2_init_67 : decode cX2_init 67 = .ok (.aload_n 0, 1) := by decide +kernel
theorem dX2_init_68 : decode cX2_init 68 = .ok (.sipush 380, 3) := by decide +kernel
theorem dX2_init_71 : decode cX2_init 71 = .ok (.newarray .int, 2) := by decide +kernel
theorem dX2_init_73 : decode cX2_init 73 = .ok (.putfield 34, 3) := by decide +kernel
theorem dX2_init_76 : decode cX2_init 76 = .ok (.aload_n 0, 1) := by decide +kernel
theorem dX2_init_77 : decode cX2_init 77 = .ok (.sipush 380, 3) := by decide +kernel
theorem dX2_init_80 : decode cX2_init 80 = .ok (.newarray .int, 2) := by decide +kernel
theorem dX2_init_82 : decode cX2_init 82 = .ok (.putfield 37, 3) := by decide +kernel
theorem dX2_init_85 : decode cX2_init 85 = .ok (.aload_n 0, 1) := by decide +kernel
theorem dX2_init_86 : decode cX2_init 86 = .ok (.sipush 380, 3) := by decide +kernel
theorem dX2_init_89 : decode cX2_init 89 = .ok (.newarray .int, 2) := by decide +kernel
theorem dX2_init_91 : decode cX2_init 91 = .ok (.putfield 40, 3) := by decide +kernel
theorem dX2_init_94 : decode cX2_init 94 = .ok (.aload_n 0, 1) := by decide +kernel
theorem dX2_init_95 : decode cX2_init 95 = .ok (.sipush 380, 3) := by decide +kernel
theorem dX2_init_98 : decode cX2_init 98 = .ok (.newarray .int, 2) := by decide +kernel
theorem dX2_init_100 : decode cX2_init 100 = .ok (.putfield 43, 3) := by decide +kernel
theorem dX2_init_103 : decode cX2_init 103 = .ok (.aload_n 0, 1) := by decide +kernel
theorem dX2_init_104 : decode cX2_init 104 = .ok (.sipush 380, 3) := by decide +kernel
theorem dX2_init_107 : decode cX2_init 107 = .ok (.newarray .int, 2) := by decide +kernel
theorem dX2_init_109 : decode cX2_init 109 = .ok (.putfield 46, 3) := by decide +kernel
theorem dX2_init_112 : decode cX2_init 112 = .ok (.aload_n 0, 1) := by decide +kernel
theorem dX2_init_113 : decode cX2_init 113 = .ok (.sipush 380, 3) := by decide +kernel
theorem dX2_init_116 : decode cX2_init 116 = .ok (.newarray .int, 2) := by decide +kernel
theorem dX2_init_118 : decode cX2_init 118 = .ok (.putfield 49, 3) := by decide +kernel
theorem dX2_init_121 : decode cX2_init 121 = .ok (.aload_n 0, 1) := by decide +kernel
theorem dX2_init_122 : decode cX2_init 122 = .ok (.sipush 380, 3) := by decide +kernel
theorem dX2_init_125 : decode cX2_init 125 = .ok (.newarray .int, 2) := by decide +kernel
theorem dX2_init_127 : decode cX2_init 127 = .ok (.putfield 52, 3) := by decide +kernel
theorem dX2_init_130 : decode cX2_init 130 = .ok (.aload_n 0, 1) := by decide +kernel
theorem dX2_init_131 : decode cX2_init 131 = .ok (.sipush 380, 3) := by decide +kernel
theorem dX2_init_134 : decode cX2_init 134 = .ok (.newarray .int, 2) := by decide +kernel
theorem dX2_init_136 : decode cX2_init 136 = .ok (.putfield 55, 3) := by decide +kernel
theorem dX2_init_139 : decode cX2_init 139 = .ok (.aload_n 0, 1) := by decide +kernel
theorem dX2_init_140 : decode cX2_init 140 = .ok (.sipush 380, 3) := by decide +kernel
theorem dX2_init_143 : decode cX2_init 143 = .ok (.newarray .int, 2) := by decide +kernel
theorem dX2_init_145 : decode cX2_init 145 = .ok (.putfield 58, 3) := by decide +kernel
theorem dX2_init_148 : decode cX2_init 148 = .ok (.return_, 1) := by decide +kernel
theorem dX2_clear_0 : decode cX2_clear 0 = .ok (.aload_n 0, 1) := by decide +kernel
theorem dX2_clear_1 : decode cX2_clear 1 = .ok (.iconst 0, 1) := by decide +kernel
theorem dX2_clear_2 : decode cX2_clear 2 = .ok (.putfield 61, 3) := by decide +kernel
theorem dX2_clear_5 : decode cX2_clear 5 = .ok (.aload_n 0, 1) := by decide +kernel
theorem dX2_clear_6 : decode cX2_clear 6 = .ok (.iconst 0, 1) := by decide +kernel
theorem dX2_clear_7 : decode cX2_clear 7 = .ok (.putfield 65, 3) := by decide +kernel
theorem dX2_clear_10 : decode cX2_clear 10 = .ok (.aload_n 0, 1) := by decide +kernel
theorem dX2_clear_11 : decode cX2_clear 11 = .ok (.iconst (-1), 1) := by decide +kernel
theorem dX2_clear_12 : decode cX2_clear 12 = .ok (.putfield 68, 3) := by decide +kernel
theorem dX2_clear_15 : decode cX2_clear 15 = .ok (.return_, 1) := by decide +kernel
theorem dX10_init_0 : decode cX10_init 0 = .ok (.aload_n 0, 1) := by decide +kernel
theorem dX10_init_1 : decode cX10_init 1 = .ok (.invokespecial 3, 3) := by decide +kernel
theorem dX10_init_4 : decode cX10_init 4 = .ok (.aload_n 0, 1) := by decide +kernel
theorem dX10_init_5 : decode cX10_init 5 = .ok (.sipush 1504, 3) := by decide +kernel
theorem dX10_init_8 : decode cX10_init 8 = .ok (.newarray .int, 2) := by decide +kernel
theorem dX10_init_10 : decode cX10_init 10 = .ok (.putfield 9, 3) := by decide +kernel
theorem dX10_init_13 : decode cX10_init 13 = .ok (.aload_n 0, 1) := by decide +kernel
theorem dX10_init_14 : decode cX10_init 14 = .ok (.sipush 1504, 3) := by decide +kernel
theorem dX10_init_17 : decode cX10_init 17 = .ok (.newarray .int, 2) := by decide +kernel
theorem dX10_init_19 : decode cX10_init 19 = .ok (.putfield 15, 3) := by decide +kernel
theorem dX10_init_22 : decode cX10_init 22 = .ok (.aload_n 0, 1) := by decide +kernel
theorem dX10_init_23 : decode cX10_init 23 = .ok (.sipush 1504, 3) := by decide +kernel
theorem dX10_init_26 : decode cX10_init 26 = .ok (.newarray .int, 2) := by decide +kernel
theorem dX10_init_28 : decode cX10_init 28 = .ok (.putfield 18, 3) := by decide +kernel
theorem dX10_init_31 : decode cX10_init 31 = .ok (.aload_n 0, 1) := by decide +kernel
theorem dX10_init_32 : decode cX10_init 32 = .ok (.sipush 1504, 3) := by decide +kernel
theorem dX10_init_35 : decode cX10_init 35 = .ok (.newarray .int, 2) := by decide +kernel
theorem dX10_init_37 : decode cX10_init 37 = .ok (.putfield 21, 3) := by decide +kernel
theorem dX10_init_40 : decode cX10_init 40 = .ok (.aload_n 0, 1) := by decide +kernel
theorem dX10_init_41 : decode cX10_init 41 = .ok (.sipush 1504, 3) := by decide +kernel
theorem dX10_init_44 : decode cX10_init 44 = .ok (.newarray .int, 2) := by decide +kernel
theorem dX10_init_46 : decode cX10_init 46 = .ok (.putfield 24, 3) := by decide +kernel
theorem dX10_init_49 : decode cX10_init 49 = .ok (.aload_n 0, 1) := by decide +kernel
theorem dX10_init_50 : decode cX10_init 50 = .ok (.sipush 1504, 3) := by decide +kernel
theorem dX10_init_53 : decode cX10_init 53 = .ok (.newarray .int, 2) := by decide +kernel
theorem dX10_init_55 : decode cX10_init 55 = .ok (.putfield 27, 3) := by decide +kernel
theorem dX10_init_58 : decode cX10_init 58 = .ok (.aload_n 0, 1) := by decide +kernel
theorem dX10_init_59 : decode cX10_init 59 = .ok (.sipush 1504, 3) := by decide +kernel
theorem dX10_init_62 : decode cX10_init 62 = .ok (.newarray .int, 2) := by decide +kernel
theorem dX10_init_64 : decode cX10_init 64 = .ok (.putfield 30, 3) := by decide +kernel
theorem dX10_init_67 : decode cX10_init 67 = .ok (.aload_n 0, 1) := by decide +kernel
theorem dX10_init_68 : decode cX10_init 68 = .ok (.sipush 1504, 3) := by decide +kernel
theorem dX10_init_71 : decode cX10_init 71 = .ok (.newarray .long, 2) := by decide +kernel
theorem dX10_init_73 : decode cX10_init 73 = .ok (.putfield 33, 3) := by decide +kernel
theorem dX10_init_76 : decode cX10_init 76 = .ok (.aload_n 0, 1) := by decide +kernel
theorem dX10_init_77 : decode cX10_init 77 = .ok (.sipush 1800, 3) := by decide +kernel
theorem dX10_init_80 : decode cX10_init 80 = .ok (.newarray .int, 2) := by decide +kernel
theorem dX10_init_82 : decode cX10_init 82 = .ok (.putfield 37, 3) := by decide +kernel
theorem dX10_init_85 : decode cX10_init 85 = .ok (.aload_n 0, 1) := by decide +kernel
theorem dX10_init_86 : decode cX10_init 86 = .ok (.sipush 1800, 3) := by decide +kernel
theorem dX10_init_89 : decode cX10_init 89 = .ok (.newarray .int, 2) := by decide +kernel
theorem dX10_init_91 : decode cX10_init 91 = .ok (.putfield 40, 3) := by decide +kernel
theorem dX10_init_94 : decode cX10_init 94 = .ok (.return_, 1) := by decide +kernel
theorem dX10_clear_0 : decode cX10_clear 0 = .ok (.aload_n 0, 1) := by decide +kernel
theorem dX10_clear_1 : decode cX10_clear 1 = .ok (.iconst 0, 1) := by decide +kernel
theorem dX10_clear_2 : decode cX10_clear 2 = .ok (.putfield 43, 3) := by decide +kernel
theorem dX10_clear_5 : decode cX10_clear 5 = .ok (.aload_n 0, 1) := by decide +kernel
theorem dX10_clear_6 : decode cX10_clear 6 = .ok (.iconst 0, 1) := by decide +kernel
theorem dX10_clear_7 : decode cX10_clear 7 = .ok (.putfield 47, 3) := by decide +kernel
theorem dX10_clear_10 : decode cX10_clear 10 = .ok (.return_, 1) := by decide +kernel
theorem dX4_init_0 : decode cX4_init 0 = .ok (.aload_n 0, 1) := by decide +kernel
theorem dX4_init_1 : decode cX4_init 1 = .ok (.invokespecial 3, 3) := by decide +kernel
theorem dX4_init_4 : decode cX4_init 4 = .ok (.aload_n 0, 1) := by decide +kernel
theorem dX4_init_5 : decode cX4_init 5 = .ok (.sipush 400, 3) := by decide +kernel
theorem dX4_init_8 : decode cX4_init 8 = .ok (.newarray .int, 2) := by decide +kernel
theorem dX4_init_10 : decode cX4_init 10 = .ok (.putfield 9, 3) := by decide +kernel
theorem dX4_init_13 : decode cX4_init 13 = .ok (.aload_n 0, 1) := by decide +kernel
theorem dX4_init_14 : decode cX4_init 14 = .ok (.sipush 400, 3) := by decide +kernel
theorem dX4_init_17 : decode cX4_init 17 = .ok (.newarray .int, 2) := by decide +kernel
theorem dX4_init_19 : decode cX4_init 19 = .ok (.putfield 15, 3) := by decide +kernel
theorem dX4_init_22 : decode cX4_init 22 = .ok (.aload_n 0, 1) := by decide +kernel
theorem dX4_init_23 : decode cX4_init 23 = .ok (.sipush 400, 3) := by decide +kernel
theorem dX4_init_26 : decode cX4_init 26 = .ok (.newarray .int, 2) := by decide +kernel
theorem dX4_init_28 : decode cX4_init 28 = .ok (.putfield 18, 3) := by decide +kernel
theorem dX4_init_31 : decode cX4_init 31 = .ok (.aload_n 0, 1) := by decide +kernel
theorem dX4_init_32 : decode cX4_init 32 = .ok (.sipush 400, 3) := by decide +kernel
theorem dX4_init_35 : decode cX4_init 35 = .ok (.newarray .int, 2) := by decide +kernel
theorem dX4_init_37 : decode cX4_init 37 = .ok (.putfield 21, 3) := by decide +kernel
theorem dX4_init_40 : decode cX4_init 40 = .ok (.aload_n 0, 1) := by decide +kernel
theorem dX4_init_41 : decode cX4_init 41 = .ok (.sipush 400, 3) := by decide +kernel
theorem dX4_init_44 : decode cX4_init 44 = .ok (.newarray .int, 2) := by decide +kernel
theorem dX4_init_46 : decode cX4_init 46 = .ok (.putfield 24, 3) := by decide +kernel
theorem dX4_init_49 : decode cX4_init 49 = .ok (.aload_n 0, 1) := by decide +kernel
theorem dX4_init_50 : decode cX4_init 50 = .ok (.sipush 400, 3) := by decide +kernel
theorem dX4_init_53 : decode cX4_init 53 = .ok (.newarray .int, 2) := by decide +kernel
theorem dX4_init_55 : decode cX4_init 55 = .ok (.putfield 27, 3) := by decide +kernel
theorem dX4_init_58 : decode cX4_init 58 = .ok (.aload_n 0, 1) := by decide +kernel
theorem dX4_init_59 : decode cX4_init 59 = .ok (.sipush 400, 3) := by decide +kernel
theorem dX4_init_62 : decode cX4_init 62 = .ok (.newarray .int, 2) := by decide +kernel
theorem dX4_init_64 : decode cX4_init 64 = .ok (.putfield 30, 3) := by decide +kernel
theorem dX4_init_67 : decode cX4_init 67 = .ok (.aload_n 0, 1) := by decide +kernel
theorem dX4_init_68 : decode cX4_init 68 = .ok (.sipush 400, 3) := by decide +kernel
theorem dX4_init_71 : decode cX4_init 71 = .ok (.newarray .int, 2) := by decide +kernel
theorem dX4_init_73 : decode cX4_init 73 = .ok (.putfield 33, 3) := by decide +kernel
theorem dX4_init_76 : decode cX4_init 76 = .ok (.aload_n 0, 1) := by decide +kernel
theorem dX4_init_77 : decode cX4_init 77 = .ok (.sipush 400, 3) := by decide +kernel
theorem dX4_init_80 : decode cX4_init 80 = .ok (.newarray .int, 2) := by decide +kernel
theorem dX4_init_82 : decode cX4_init 82 = .ok (.putfield 36, 3) := by decide +kernel
theorem dX4_init_85 : decode cX4_init 85 = .ok (.aload_n 0, 1) := by decide +kernel
theorem dX4_init_86 : decode cX4_init 86 = .ok (.sipush 400, 3) := by decide +kernel
theorem dX4_init_89 : decode cX4_init 89 = .ok (.newarray .boolean, 2) := by decide +kernel
theorem dX4_init_91 : decode cX4_init 91 = .ok (.putfield 39, 3) := by decide +kernel
theorem dX4_init_94 : decode cX4_init 94 = .ok (.aload_n 0, 1) := by decide +kernel
theorem dX4_init_95 : decode cX4_init 95 = .ok (.sipush 400, 3) := by decide +kernel
theorem dX4_init_98 : decode cX4_init 98 = .ok (.newarray .boolean, 2) := by decide +kernel
theorem dX4_init_100 : decode cX4_init 100 = .ok (.putfield 43, 3) := by decide +kernel
theorem dX4_init_103 : decode cX4_init 103 = .ok (.aload_n 0, 1) := by decide +kernel
theorem dX4_init_104 : decode cX4_init 104 = .ok (.sipush 400, 3) := by decide +kernel
theorem dX4_init_107 : decode cX4_init 107 = .ok (.newarray .long, 2) := by decide +kernel
theorem dX4_init_109 : decode cX4_init 109 = .ok (.putfield 46, 3) := by decide +kernel
theorem dX4_init_112 : decode cX4_init 112 = .ok (.aload_n 0, 1) := by decide +kernel
theorem dX4_init_113 : decode cX4_init 113 = .ok (.sipush 3016, 3) := by decide +kernel
theorem dX4_init_116 : decode cX4_init 116 = .ok (.newarray .int, 2) := by decide +kernel
theorem dX4_init_118 : decode cX4_init 118 = .ok (.putfield 50, 3) := by decide +kernel
theorem dX4_init_121 : decode cX4_init 121 = .ok (.aload_n 0, 1) := by decide +kernel
theorem dX4_init_122 : decode cX4_init 122 = .ok (.sipush 3016, 3) := by decide +kernel
theorem dX4_init_125 : decode cX4_init 125 = .ok (.newarray .int, 2) := by decide +kernel
theorem dX4_init_127 : decode cX4_init 127 = .ok (.putfield 53, 3) := by decide +kernel
theorem dX4_init_130 : decode cX4_init 130 = .ok (.aload_n 0, 1) := by decide +kernel
theorem dX4_init_131 : decode cX4_init 131 = .ok (.sipush 3016, 3) := by decide +kernel
theorem dX4_init_134 : decode cX4_init 134 = .ok (.newarray .int, 2) := by decide +kernel
theorem dX4_init_136 : decode cX4_init 136 = .ok (.putfield 56, 3) := by decide +kernel
theorem dX4_init_139 : decode cX4_init 139 = .ok (.aload_n 0, 1) := by decide +kernel
theorem dX4_init_140 : decode cX4_init 140 = .ok (.sipush 400, 3) := by decide +kernel
theorem dX4_init_143 : decode cX4_init 143 = .ok (.newarray .int, 2) := by decide +kernel
theorem dX4_init_145 : decode cX4_init 145 = .ok (.putfield 59, 3) := by decide +kernel
theorem dX4_init_148 : decode cX4_init 148 = .ok (.aload_n 0, 1) := by decide +kernel
theorem dX4_init_149 : decode cX4_init 149 = .ok (.sipush 400, 3) := by decide +kernel
theorem dX4_init_152 : decode cX4_init 152 = .ok (.newarray .int, 2) := by decide +kernel
theorem dX4_init_154 : decode cX4_init 154 = .ok (.putfield 62, 3) := by decide +kernel
theorem dX4_init_157 : decode cX4_init 157 = .ok (.return_, 1) := by decide +kernel
theorem dX4_clear_0 : decode cX4_clear 0 = .ok (.aload_n 0, 1) := by decide +kernel
theorem dX4_clear_1 : decode cX4_clear 1 = .ok (.iconst 0, 1) := by decide +kernel
theorem dX4_clear_2 : decode cX4_clear 2 = .ok (.putfield 65, 3) := by decide +kernel
theorem dX4_clear_5 : decode cX4_clear 5 = .ok (.aload_n 0, 1) := by decide +kernel
theorem dX4_clear_6 : decode cX4_clear 6 = .ok (.iconst 0, 1) := by decide +kernel
theorem dX4_clear_7 : decode cX4_clear 7 = .ok (.putfield 69, 3) := by decide +kernel
theorem dX4_clear_10 : decode cX4_clear 10 = .ok (.aload_n 0, 1) := by decide +kernel
theorem dX4_clear_11 : decode cX4_clear 11 = .ok (.iconst 0, 1) := by decide +kernel
theorem dX4_clear_12 : decode cX4_clear 12 = .ok (.putfield 72, 3) := by decide +kernel
theorem dX4_clear_15 : decode cX4_clear 15 = .ok (.return_, 1) := by decide +kernel
theorem dX30_init_0 : decode cX30_init 0 = .ok (.aload_n 0, 1) := by decide +kernel
theorem dX30_init_1 : decode cX30_init 1 = .ok (.invokespecial 3, 3) := by decide +kernel
theorem dX30_init_4 : decode cX30_init 4 = .ok (.aload_n 0, 1) := by decide +kernel
theorem dX30_init_5 : decode cX30_init 5 = .ok (.sipush 3000, 3) := by decide +kernel
theorem dX30_init_8 : decode cX30_init 8 = .ok (.newarray .byte, 2) := by decide +kernel
theorem dX30_init_10 : decode cX30_init 10 = .ok (.putfield 9, 3) := by decide +kernel
theorem dX30_init_13 : decode cX30_init 13 = .ok (.aload_n 0, 1) := by decide +kernel
theorem dX30_init_14 : decode cX30_init 14 = .ok (.sipush 3002, 3) := by decide +kernel
theorem dX30_init_17 : decode cX30_init 17 = .ok (.newarray .int, 2) := by decide +kernel
theorem dX30_init_19 : decode cX30_init 19 = .ok (.putfield 13, 3) := by decide +kernel
theorem dX30_init_22 : decode cX30_init 22 = .ok (.aload_n 0, 1) := by decide +kernel
theorem dX30_init_23 : decode cX30_init 23 = .ok (.sipush 3002, 3) := by decide +kernel
theorem dX30_init_26 : decode cX30_init 26 = .ok (.newarray .int, 2) := by decide +kernel
theorem dX30_init_28 : decode cX30_init 28 = .ok (.putfield 17, 3) := by decide +kernel
theorem dX30_init_31 : decode cX30_init 31 = .ok (.aload_n 0, 1) := by decide +kernel
theorem dX30_init_32 : decode cX30_init 32 = .ok (.sipush 3002, 3) := by decide +kernel
theorem dX30_init_35 : decode cX30_init 35 = .ok (.newarray .int, 2) := by decide +kernel
theorem dX30_init_37 : decode cX30_init 37 = .ok (.putfield 20, 3) := by decide +kernel
theorem dX30_init_40 : decode cX30_init 40 = .ok (.aload_n 0, 1) := by decide +kernel
theorem dX30_init_41 : decode cX30_init 41 = .ok (.sipush 3002, 3) := by decide +kernel
theorem dX30_init_44 : decode cX30_init 44 = .ok (.anewarray 23, 3) := by decide +kernel
theorem dX30_init_47 : decode cX30_init 47 = .ok (.putfield 25, 3) := by decide +kernel
theorem dX30_init_50 : decode cX30_init 50 = .ok (.aload_n 0, 1) := by decide +kernel
theorem dX30_init_51 : decode cX30_init 51 = .ok (.sipush 1024, 3) := by decide +kernel
theorem dX30_init_54 : decode cX30_init 54 = .ok (.anewarray 23, 3) := by decide +kernel
theorem dX30_init_57 : decode cX30_init 57 = .ok (.putfield 29, 3) := by decide +kernel
theorem dX30_init_60 : decode cX30_init 60 = .ok (.aload_n 0, 1) := by decide +kernel
theorem dX30_init_61 : decode cX30_init 61 = .ok (.new 32, 3) := by decide +kernel
theorem dX30_init_64 : decode cX30_init 64 = .ok (.dup, 1) := by decide +kernel
theorem dX30_init_65 : decode cX30_init 65 = .ok (.bipush 64, 2) := by decide +kernel
theorem dX30_init_67 : decode cX30_init 67 = .ok (.invokespecial 34, 3) := by decide +kernel
theorem dX30_init_70 : decode cX30_init 70 = .ok (.putfield 37, 3) := by decide +kernel
theorem dX30_init_73 : decode cX30_init 73 = .ok (.aload_n 0, 1) := by decide +kernel
theorem dX30_init_74 : decode cX30_init 74 = .ok (.sipush 128, 3) := by decide +kernel
theorem dX30_init_77 : decode cX30_init 77 = .ok (.anewarray 23, 3) := by decide +kernel
theorem dX30_init_80 : decode cX30_init 80 = .ok (.putfield 41, 3) := by decide +kernel
theorem dX30_init_83 : decode cX30_init 83 = .ok (.aload_n 0, 1) := by decide +kernel
theorem dX30_init_84 : decode cX30_init 84 = .ok (.new 44, 3) := by decide +kernel
theorem dX30_init_87 : decode cX30_init 87 = .ok (.dup, 1) := by decide +kernel
theorem dX30_init_88 : decode cX30_init 88 = .ok (.invokespecial 46, 3) := by decide +kernel
theorem dX30_init_91 : decode cX30_init 91 = .ok (.putfield 47, 3) := by decide +kernel
theorem dX30_init_94 : decode cX30_init 94 = .ok (.aload_n 0, 1) := by decide +kernel
theorem dX30_init_95 : decode cX30_init 95 = .ok (.new 44, 3) := by decide +kernel
theorem dX30_init_98 : decode cX30_init 98 = .ok (.dup, 1) := by decide +kernel
theorem dX30_init_99 : decode cX30_init 99 = .ok (.invokespecial 46, 3) := by decide +kernel
theorem dX30_init_102 : decode cX30_init 102 = .ok (.putfield 51, 3) := by decide +kernel
theorem dX30_init_105 : decode cX30_init 105 = .ok (.aload_n 0, 1) := by decide +kernel
theorem dX30_init_106 : decode cX30_init 106 = .ok (.new 54, 3) := by decide +kernel
theorem dX30_init_109 : decode cX30_init 109 = .ok (.dup, 1) := by decide +kernel
theorem dX30_init_110 : decode cX30_init 110 = .ok (.iconst 0, 1) := by decide +kernel
theorem dX30_init_111 : decode cX30_init 111 = .ok (.aconst_null, 1) := by decide +kernel
theorem dX30_init_112 : decode cX30_init 112 = .ok (.aconst_null, 1) := by decide +kernel
theorem dX30_init_113 : decode cX30_init 113 = .ok (.invokespecial 56, 3) := by decide +kernel
theorem dX30_init_116 : decode cX30_init 116 = .ok (.putfield 59, 3) := by decide +kernel
theorem dX30_init_119 : decode cX30_init 119 = .ok (.aload_n 0, 1) := by decide +kernel
theorem dX30_init_120 : decode cX30_init 120 = .ok (.new 54, 3) := by decide +kernel
theorem dX30_init_123 : decode cX30_init 123 = .ok (.dup, 1) := by decide +kernel
theorem dX30_init_124 : decode cX30_init 124 = .ok (.iconst 1, 1) := by decide +kernel
theorem dX30_init_125 : decode cX30_init 125 = .ok (.aconst_null, 1) := by decide +kernel
theorem dX30_init_126 : decode cX30_init 126 = .ok (.aconst_null, 1) := by decide +kernel
theorem dX30_init_127 : decode cX30_init 127 = .ok (.invokespecial 56, 3) := by decide +kernel
theorem dX30_init_130 : decode cX30_init 130 = .ok (.putfield 63, 3) := by decide +kernel
theorem dX30_init_133 : decode cX30_init 133 = .ok (.aload_n 0, 1) := by decide +kernel
theorem dX30_init_134 : decode cX30_init 134 = .ok (.new 44, 3) := by decide +kernel
theorem dX30_init_137 : decode cX30_init 137 = .ok (.dup, 1) := by decide +kernel
theorem dX30_init_138 : decode cX30_init 138 = .ok (.invokespecial 46, 3) := by decide +kernel
theorem dX30_init_141 : decode cX30_init 141 = .ok (.putfield 66, 3) := by decide +kernel
theorem dX30_init_144 : decode cX30_init 144 = .ok (.aload_n 0, 1) := by decide +kernel
theorem dX30_init_145 : decode cX30_init 145 = .ok (.new 44, 3) := by decide +kernel
theorem dX30_init_148 : decode cX30_init 148 = .ok (.dup, 1) := by decide +kernel
theorem dX30_init_149 : decode cX30_init 149 = .ok (.invokespecial 46, 3) := by decide +kernel
theorem dX30_init_152 : decode cX30_init 152 = .ok (.putfield 69, 3) := by decide +kernel
theorem dX30_init_155 : decode cX30_init 155 = .ok (.aload_n 0, 1) := by decide +kernel
theorem dX30_init_156 : decode cX30_init 156 = .ok (.new 44, 3) := by decide +kernel
theorem dX30_init_159 : decode cX30_init 159 = .ok (.dup, 1) := by decide +kernel
theorem dX30_init_160 : decode cX30_init 160 = .ok (.invokespecial 46, 3) := by decide +kernel
theorem dX30_init_163 : decode cX30_init 163 = .ok (.putfield 72, 3) := by decide +kernel
theorem dX30_init_166 : decode cX30_init 166 = .ok (.aload_n 0, 1) := by decide +kernel
theorem dX30_init_167 : decode cX30_init 167 = .ok (.new 44, 3) := by decide +kernel
theorem dX30_init_170 : decode cX30_init 170 = .ok (.dup, 1) := by decide +kernel
theorem dX30_init_171 : decode cX30_init 171 = .ok (.invokespecial 46, 3) := by decide +kernel
theorem dX30_init_174 : decode cX30_init 174 = .ok (.putfield 75, 3) := by decide +kernel
theorem dX30_init_177 : decode cX30_init 177 = .ok (.aload_n 0, 1) := by decide +kernel
theorem dX30_init_178 : decode cX30_init 178 = .ok (.new 44, 3) := by decide +kernel
theorem dX30_init_181 : decode cX30_init 181 = .ok (.dup, 1) := by decide +kernel
theorem dX30_init_182 : decode cX30_init 182 = .ok (.invokespecial 46, 3) := by decide +kernel
theorem dX30_init_185 : decode cX30_init 185 = .ok (.putfield 78, 3) := by decide +kernel
theorem dX30_init_188 : decode cX30_init 188 = .ok (.aload_n 0, 1) := by decide +kernel
theorem dX30_init_189 : decode cX30_init 189 = .ok (.sipush 256, 3) := by decide +kernel
theorem dX30_init_192 : decode cX30_init 192 = .ok (.newarray .long, 2) := by decide +kernel
theorem dX30_init_194 : decode cX30_init 194 = .ok (.putfield 81, 3) := by decide +kernel
theorem dX30_init_197 : decode cX30_init 197 = .ok (.aload_n 0, 1) := by decide +kernel
theorem dX30_init_198 : decode cX30_init 198 = .ok (.sipush 256, 3) := by decide +kernel
theorem dX30_init_201 : decode cX30_init 201 = .ok (.newarray .long, 2) := by decide +kernel
theorem dX30_init_203 : decode cX30_init 203 = .ok (.putfield 85, 3) := by decide +kernel
theorem dX30_init_206 : decode cX30_init 206 = .ok (.aload_n 0, 1) := by decide +kernel
theorem dX30_init_207 : decode cX30_init 207 = .ok (.sipush 256, 3) := by decide +kernel
theorem dX30_init_210 : decode cX30_init 210 = .ok (.newarray .long, 2) := by decide +kernel
theorem dX30_init_212 : decode cX30_init 212 = .ok (.putfield 88, 3) := by decide +kernel
theorem dX30_init_215 : decode cX30_init 215 = .ok (.aload_n 0, 1) := by decide +kernel
theorem dX30_init_216 : decode cX30_init 216 = .ok (.sipush 1024, 3) := by decide +kernel
theorem dX30_init_219 : decode cX30_init 219 = .ok (.newarray .long, 2) := by decide +kernel
theorem dX30_init_221 : decode cX30_init 221 = .ok (.putfield 91, 3) := by decide +kernel
theorem dX30_init_224 : decode cX30_init 224 = .ok (.aload_n 0, 1) := by decide +kernel
theorem dX30_init_225 : decode cX30_init 225 = .ok (.bipush 40, 2) := by decide +kernel
theorem dX30_init_227 : decode cX30_init 227 = .ok (.newarray .int, 2) := by decide +kernel
theorem dX30_init_229 : decode cX30_init 229 = .ok (.putfield 94, 3) := by decide +kernel
theorem dX30_init_232 : decode cX30_init 232 = .ok (.aload_n 0, 1) := by decide +kernel
theorem dX30_init_233 : decode cX30_init 233 = .ok (.sipush 256, 3) := by decide +kernel
theorem dX30_init_236 : decode cX30_init 236 = .ok (.newarray .boolean, 2) := by decide +kernel
theorem dX30_init_238 : decode cX30_init 238 = .ok (.putfield 97, 3) := by decide +kernel
theorem dX30_init_241 : decode cX30_init 241 = .ok (.aload_n 0, 1) := by decide +kernel
theorem dX30_init_242 : decode cX30_init 242 = .ok (.bipush 40, 2) := by decide +kernel
theorem dX30_init_244 : decode cX30_init 244 = .ok (.newarray .long, 2) := by decide +kernel
theorem dX30_init_246 : decode cX30_init 246 = .ok (.putfield 101, 3) := by decide +kernel
theorem dX30_init_249 : decode cX30_init 249 = .ok (.aload_n 0, 1) := by decide +kernel
theorem dX30_init_250 : decode cX30_init 250 = .ok (.sipush 2800, 3) := by decide +kernel
theorem dX30_init_253 : decode cX30_init 253 = .ok (.newarray .long, 2) := by decide +kernel
theorem dX30_init_255 : decode cX30_init 255 = .ok (.putfield 104, 3) := by decide +kernel
theorem dX30_init_258 : decode cX30_init 258 = .ok (.aload_n 0, 1) := by decide +kernel
theorem dX30_init_259 : decode cX30_init 259 = .ok (.new 44, 3) := by decide +kernel
theorem dX30_init_262 : decode cX30_init 262 = .ok (.dup, 1) := by decide +kernel
theorem dX30_init_263 : decode cX30_init 263 = .ok (.invokespecial 46, 3) := by decide +kernel
theorem dX30_init_266 : decode cX30_init 266 = .ok (.putfield 107, 3) := by decide +kernel
theorem dX30_init_269 : decode cX30_init 269 = .ok (.aload_n 0, 1) := by decide +kernel
theorem dX30_init_270 : decode cX30_init 270 = .ok (.iconst (-1), 1) := by decide +kernel
theorem dX30_init_271 : decode cX30_init 271 = .ok (.putfield 110, 3) := by decide +kernel
theorem dX30_init_274 : decode cX30_init 274 = .ok (.aload_n 0, 1) := by decide +kernel
theorem dX30_init_275 : decode cX30_init 275 = .ok (.iconst (-1), 1) := by decide +kernel
theorem dX30_init_276 : decode cX30_init 276 = .ok (.putfield 114, 3) := by decide +kernel
theorem dX30_init_279 : decode cX30_init 279 = .ok (.aload_n 0, 1) := by decide +kernel
theorem dX30_init_280 : decode cX30_init 280 = .ok (.iconst (-1), 1) := by decide +kernel
theorem dX30_init_281 : decode cX30_init 281 = .ok (.putfield 117, 3) := by decide +kernel
theorem dX30_init_284 : decode cX30_init 284 = .ok (.aload_n 0, 1) := by decide +kernel
theorem dX30_init_285 : decode cX30_init 285 = .ok (.new 44, 3) := by decide +kernel
theorem dX30_init_288 : decode cX30_init 288 = .ok (.dup, 1) := by decide +kernel
theorem dX30_init_289 : decode cX30_init 289 = .ok (.invokespecial 46, 3) := by decide +kernel
theorem dX30_init_292 : decode cX30_init 292 = .ok (.putfield 120, 3) := by decide +kernel
theorem dX30_init_295 : decode cX30_init 295 = .ok (.aload_n 0, 1) := by decide +kernel
theorem dX30_init_296 : decode cX30_init 296 = .ok (.sipush 2800, 3) := by decide +kernel
theorem dX30_init_299 : decode cX30_init 299 = .ok (.newarray .long, 2) := by decide +kernel
theorem dX30_init_301 : decode cX30_init 301 = .ok (.putfield 123, 3) := by decide +kernel
theorem dX30_init_304 : decode cX30_init 304 = .ok (.aload_n 0, 1) := by decide +kernel
theorem dX30_init_305 : decode cX30_init 305 = .ok (.sipush 4096, 3) := by decide +kernel
theorem dX30_init_308 : decode cX30_init 308 = .ok (.anewarray 54, 3) := by decide +kernel
theorem dX30_init_311 : decode cX30_init 311 = .ok (.putfield 126, 3) := by decide +kernel
theorem dX30_init_314 : decode cX30_init 314 = .ok (.aload_n 0, 1) := by decide +kernel
theorem dX30_init_315 : decode cX30_init 315 = .ok (.sipush 4096, 3) := by decide +kernel
theorem dX30_init_318 : decode cX30_init 318 = .ok (.newarray .long, 2) := by decide +kernel
theorem dX30_init_320 : decode cX30_init 320 = .ok (.putfield 130, 3) := by decide +kernel
theorem dX30_init_323 : decode cX30_init 323 = .ok (.aload_n 0, 1) := by decide +kernel
theorem dX30_init_324 : decode cX30_init 324 = .ok (.sipush 4096, 3) := by decide +kernel
theorem dX30_init_327 : decode cX30_init 327 = .ok (.newarray .long, 2) := by decide +kernel
theorem dX30_init_329 : decode cX30_init 329 = .ok (.putfield 133, 3) := by decide +kernel
theorem dX30_init_332 : decode cX30_init 332 = .ok (.aload_n 0, 1) := by decide +kernel
theorem dX30_init_333 : decode cX30_init 333 = .ok (.sipush 4096, 3) := by decide +kernel
theorem dX30_init_336 : decode cX30_init 336 = .ok (.newarray .long, 2) := by decide +kernel
theorem dX30_init_338 : decode cX30_init 338 = .ok (.putfield 136, 3) := by decide +kernel
theorem dX30_init_341 : decode cX30_init 341 = .ok (.aload_n 0, 1) := by decide +kernel
theorem dX30_init_342 : decode cX30_init 342 = .ok (.sipush 4096, 3) := by decide +kernel
theorem dX30_init_345 : decode cX30_init 345 = .ok (.newarray .long, 2) := by decide +kernel
theorem dX30_init_347 : decode cX30_init 347 = .ok (.putfield 139, 3) := by decide +kernel
theorem dX30_init_350 : decode cX30_init 350 = .ok (.aload_n 0, 1) := by decide +kernel
theorem dX30_init_351 : decode cX30_init 351 = .ok (.sipush 4096, 3) := by decide +kernel
theorem dX30_init_354 : decode cX30_init 354 = .ok (.newarray .long, 2) := by decide +kernel
theorem dX30_init_356 : decode cX30_init 356 = .ok (.putfield 142, 3) := by decide +kernel
theorem dX30_init_359 : decode cX30_init 359 = .ok (.aload_n 0, 1) := by decide +kernel
theorem dX30_init_360 : decode cX30_init 360 = .ok (.ldc 145, 2) := by decide +kernel
theorem dX30_init_362 : decode cX30_init 362 = .ok (.newarray .int, 2) := by decide +kernel
theorem dX30_init_364 : decode cX30_init 364 = .ok (.putfield 146, 3) := by decide +kernel
theorem dX30_init_367 : decode cX30_init 367 = .ok (.aload_n 0, 1) := by decide +kernel
theorem dX30_init_368 : decode cX30_init 368 = .ok (.sipush 256, 3) := by decide +kernel
theorem dX30_init_371 : decode cX30_init 371 = .ok (.newarray .int, 2) := by decide +kernel
theorem dX30_init_373 : decode cX30_init 373 = .ok (.putfield 149, 3) := by decide +kernel
theorem dX30_init_376 : decode cX30_init 376 = .ok (.aload_n 0, 1) := by decide +kernel
theorem dX30_init_377 : decode cX30_init 377 = .ok (.sipush 1000, 3) := by decide +kernel
theorem dX30_init_380 : decode cX30_init 380 = .ok (.newarray .int, 2) := by decide +kernel
theorem dX30_init_382 : decode cX30_init 382 = .ok (.putfield 152, 3) := by decide +kernel
theorem dX30_init_385 : decode cX30_init 385 = .ok (.aload_n 0, 1) := by decide +kernel
theorem dX30_init_386 : decode cX30_init 386 = .ok (.sipush 1000, 3) := by decide +kernel
theorem dX30_init_389 : decode cX30_init 389 = .ok (.newarray .long, 2) := by decide +kernel
theorem dX30_init_391 : decode cX30_init 391 = .ok (.putfield 155, 3) := by decide +kernel
theorem dX30_init_394 : decode cX30_init 394 = .ok (.aload_n 0, 1) := by decide +kernel
theorem dX30_init_395 : decode cX30_init 395 = .ok (.ldc 145, 2) := by decide +kernel
theorem dX30_init_397 : decode cX30_init 397 = .ok (.newarray .int, 2) := by decide +kernel
theorem dX30_init_399 : decode cX30_init 399 = .ok (.putfield 158, 3) := by decide +kernel
theorem dX30_init_402 : decode cX30_init 402 = .ok (.aload_n 0, 1) := by decide +kernel
theorem dX30_init_403 : decode cX30_init 403 = .ok (.sipush 200, 3) := by decide +kernel
theorem dX30_init_406 : decode cX30_init 406 = .ok (.newarray .long, 2) := by decide +kernel
theorem dX30_init_408 : decode cX30_init 408 = .ok (.putfield 161, 3) := by decide +kernel
theorem dX30_init_411 : decode cX30_init 411 = .ok (.aload_n 0, 1) := by decide +kernel
theorem dX30_init_412 : decode cX30_init 412 = .ok (.sipush 256, 3) := by decide +kernel
theorem dX30_init_415 : decode cX30_init 415 = .ok (.newarray .int, 2) := by decide +kernel
theorem dX30_init_417 : decode cX30_init 417 = .ok (.putfield 164, 3) := by decide +kernel
theorem dX30_init_420 : decode cX30_init 420 = .ok (.aload_n 0, 1) := by decide +kernel
theorem dX30_init_421 : decode cX30_init 421 = .ok (.bipush 41, 2) := by decide +kernel
theorem dX30_init_423 : decode cX30_init 423 = .ok (.anewarray 167, 3) := by decide +kernel
theorem dX30_init_426 : decode cX30_init 426 = .ok (.putfield 169, 3) := by decide +kernel
theorem dX30_init_429 : decode cX30_init 429 = .ok (.aload_n 0, 1) := by decide +kernel
theorem dX30_init_430 : decode cX30_init 430 = .ok (.bipush 41, 2) := by decide +kernel
theorem dX30_init_432 : decode cX30_init 432 = .ok (.anewarray 173, 3) := by decide +kernel
theorem dX30_init_435 : decode cX30_init 435 = .ok (.putfield 175, 3) := by decide +kernel
theorem dX30_init_438 : decode cX30_init 438 = .ok (.aload_n 0, 1) := by decide +kernel
theorem dX30_init_439 : decode cX30_init 439 = .ok (.bipush 41, 2) := by decide +kernel
theorem dX30_init_441 : decode cX30_init 441 = .ok (.newarray .int, 2) := by decide +kernel
theorem dX30_init_443 : decode cX30_init 443 = .ok (.putfield 179, 3) := by decide +kernel
theorem dX30_init_446 : decode cX30_init 446 = .ok (.aload_n 0, 1) := by decide +kernel
theorem dX30_init_447 : decode cX30_init 447 = .ok (.bipush 41, 2) := by decide +kernel
theorem dX30_init_449 : decode cX30_init 449 = .ok (.newarray .int, 2) := by decide +kernel
theorem dX30_init_451 : decode cX30_init 451 = .ok (.putfield 182, 3) := by decide +kernel
theorem dX30_init_454 : decode cX30_init 454 = .ok (.aload_n 0, 1) := by decide +kernel
theorem dX30_init_455 : decode cX30_init 455 = .ok (.sipush 1640, 3) := by decide +kernel
theorem dX30_init_458 : decode cX30_init 458 = .ok (.newarray .int, 2) := by decide +kernel
theorem dX30_init_460 : decode cX30_init 460 = .ok (.putfield 185, 3) := by decide +kernel
theorem dX30_init_463 : decode cX30_init 463 = .ok (.aload_n 0, 1) := by decide +kernel
theorem dX30_init_464 : decode cX30_init 464 = .ok (.sipush 1640, 3) := by decide +kernel
theorem dX30_init_467 : decode cX30_init 467 = .ok (.newarray .int, 2) := by decide +kernel
theorem dX30_init_469 : decode cX30_init 469 = .ok (.putfield 188, 3) := by decide +kernel
theorem dX30_init_472 : decode cX30_init 472 = .ok (.aload_n 0, 1) := by decide +kernel
theorem dX30_init_473 : decode cX30_init 473 = .ok (.bipush 7, 2) := by decide +kernel
theorem dX30_init_475 : decode cX30_init 475 = .ok (.newarray .int, 2) := by decide +kernel
theorem dX30_init_477 : decode cX30_init 477 = .ok (.putfield 191, 3) := by decide +kernel
theorem dX30_init_480 : decode cX30_init 480 = .ok (.return_, 1) := by decide +kernel
theorem dX30_feed_0 : decode cX30_feed 0 = .ok (.aload_n 0, 1) := by decide +kernel
theorem dX30_feed_1 : decode cX30_feed 1 = .ok (.getfield 1231, 3) := by decide +kernel
theorem dX30_feed_4 : decode cX30_feed 4 = .ok (.bipush 20, 2) := by decide +kernel
theorem dX30_feed_6 : decode cX30_feed 6 = .ok (.iadd, 1) := by decide +kernel
theorem dX30_feed_7 : decode cX30_feed 7 = .ok (.sipush 3000, 3) := by decide +kernel
theorem dX30_feed_10 : decode cX30_feed 10 = .ok (.if_icmp .le 5, 3) := by decide +kernel
theorem dX30_feed_13 : decode cX30_feed 13 = .ok (.iconst (-1), 1) := by decide +kernel
theorem dX30_feed_14 : decode cX30_feed 14 = .ok (.ireturn, 1) := by decide +kernel
theorem dX30_feed_15 : decode cX30_feed 15 = .ok (.iconst 5, 1) := by decide +kernel
theorem dX30_feed_16 : decode cX30_feed 16 = .ok (.newarray .int, 2) := by decide +kernel
theorem dX30_feed_18 : decode cX30_feed 18 = .ok (.dup, 1) := by decide +kernel
theorem dX30_feed_19 : decode cX30_feed 19 = .ok (.iconst 0, 1) := by decide +kernel
theorem dX30_feed_20 : decode cX30_feed 20 = .ok (.iload_n 1, 1) := by decide +kernel
theorem dX30_feed_21 : decode cX30_feed 21 = .ok (.iastore, 1) := by decide +kernel
theorem dX30_feed_22 : decode cX30_feed 22 = .ok (.dup, 1) := by decide +kernel
theorem dX30_feed_23 : decode cX30_feed 23 = .ok (.iconst 1, 1) := by decide +kernel
theorem dX30_feed_24 : decode cX30_feed 24 = .ok (.iload_n 2, 1) := by decide +kernel
theorem dX30_feed_25 : decode cX30_feed 25 = .ok (.iastore, 1) := by decide +kernel
theorem dX30_feed_26 : decode cX30_feed 26 = .ok (.dup, 1) := by decide +kernel
theorem dX30_feed_27 : decode cX30_feed 27 = .ok (.iconst 2, 1) := by decide +kernel
theorem dX30_feed_28 : decode cX30_feed 28 = .ok (.iload_n 3, 1) := by decide +kernel
theorem dX30_feed_29 : decode cX30_feed 29 = .ok (.iastore, 1) := by decide +kernel
theorem dX30_feed_30 : decode cX30_feed 30 = .ok (.dup, 1) := by decide +kernel
theorem dX30_feed_31 : decode cX30_feed 31 = .ok (.iconst 3, 1) := by decide +kernel
theorem dX30_feed_32 : decode cX30_feed 32 = .ok (.iload 4, 2) := by decide +kernel
theorem dX30_feed_34 : decode cX30_feed 34 = .ok (.iastore, 1) := by decide +kernel
theorem dX30_feed_35 : decode cX30_feed 35 = .ok (.dup, 1) := by decide +kernel
theorem dX30_feed_36 : decode cX30_feed 36 = .ok (.iconst 4, 1) := by decide +kernel
theorem dX30_feed_37 : decode cX30_feed 37 = .ok (.iload 5, 2) := by decide +kernel
theorem dX30_feed_39 : decode cX30_feed 39 = .ok (.iastore, 1) := by decide +kernel
theorem dX30_feed_40 : decode cX30_feed 40 = .ok (.astore 6, 2) := by decide +kernel
theorem dX30_feed_42 : decode cX30_feed 42 = .ok (.iconst 0, 1) := by decide +kernel
theorem dX30_feed_43 : decode cX30_feed 43 = .ok (.istore 7, 2) := by decide +kernel
theorem dX30_feed_45 : decode cX30_feed 45 = .ok (.iload 7, 2) := by decide +kernel
theorem dX30_feed_47 : decode cX30_feed 47 = .ok (.bipush 20, 2) := by decide +kernel
theorem dX30_feed_49 : decode cX30_feed 49 = .ok (.if_icmp .ge 47, 3) := by decide +kernel
theorem dX30_feed_52 : decode cX30_feed 52 = .ok (.aload_n 0, 1) := by decide +kernel
theorem dX30_feed_53 : decode cX30_feed 53 = .ok (.getfield 9, 3) := by decide +kernel
theorem dX30_feed_56 : decode cX30_feed 56 = .ok (.aload_n 0, 1) := by decide +kernel
theorem dX30_feed_57 : decode cX30_feed 57 = .ok (.getfield 1231, 3) := by decide +kernel
theorem dX30_feed_60 : decode cX30_feed 60 = .ok (.aload 6, 2) := by decide +kernel
theorem dX30_feed_62 : decode cX30_feed 62 = .ok (.iload 7, 2) := by decide +kernel
theorem dX30_feed_64 : decode cX30_feed 64 = .ok (.iconst 4, 1) := by decide +kernel
theorem dX30_feed_65 : decode cX30_feed 65 = .ok (.idiv, 1) := by decide +kernel
theorem dX30_feed_66 : decode cX30_feed 66 = .ok (.iaload, 1) := by decide +kernel
theorem dX30_feed_67 : decode cX30_feed 67 = .ok (.bipush 24, 2) := by decide +kernel
theorem dX30_feed_69 : decode cX30_feed 69 = .ok (.bipush 8, 2) := by decide +kernel
theorem dX30_feed_71 : decode cX30_feed 71 = .ok (.iload 7, 2) := by decide +kernel
theorem dX30_feed_73 : decode cX30_feed 73 = .ok (.iconst 4, 1) := by decide +kernel
theorem dX30_feed_74 : decode cX30_feed 74 = .ok (.irem, 1) := by decide +kernel
theorem dX30_feed_75 : decode cX30_feed 75 = .ok (.imul, 1) := by decide +kernel
theorem dX30_feed_76 : decode cX30_feed 76 = .ok (.isub, 1) := by decide +kernel
theorem dX30_feed_77 : decode cX30_feed 77 = .ok (.ishr, 1) := by decide +kernel
theorem dX30_feed_78 : decode cX30_feed 78 = .ok (.i2b, 1) := by decide +kernel
theorem dX30_feed_79 : decode cX30_feed 79 = .ok (.bastore, 1) := by decide +kernel
theorem dX30_feed_80 : decode cX30_feed 80 = .ok (.aload_n 0, 1) := by decide +kernel
theorem dX30_feed_81 : decode cX30_feed 81 = .ok (.dup, 1) := by decide +kernel
theorem dX30_feed_82 : decode cX30_feed 82 = .ok (.getfield 1231, 3) := by decide +kernel
theorem dX30_feed_85 : decode cX30_feed 85 = .ok (.iconst 1, 1) := by decide +kernel
theorem dX30_feed_86 : decode cX30_feed 86 = .ok (.iadd, 1) := by decide +kernel
theorem dX30_feed_87 : decode cX30_feed 87 = .ok (.putfield 1231, 3) := by decide +kernel
theorem dX30_feed_90 : decode cX30_feed 90 = .ok (.iinc 7 1, 3) := by decide +kernel
theorem dX30_feed_93 : decode cX30_feed 93 = .ok (.goto (-48), 3) := by decide +kernel
theorem dX30_feed_96 : decode cX30_feed 96 = .ok (.aload_n 0, 1) := by decide +kernel
theorem dX30_feed_97 : decode cX30_feed 97 = .ok (.getfield 1231, 3) := by decide +kernel
theorem dX30_feed_100 : decode cX30_feed 100 = .ok (.ireturn, 1) := by decide +kernel
theorem dX30_judge_0 : decode cX30_judge 0 = .ok (.iload_n 1, 1) := by decide +kernel
theorem dX30_judge_1 : decode cX30_judge 1 = .ok (.ifCond .lt 11, 3) := by decide +kernel
theorem dX30_judge_4 : decode cX30_judge 4 = .ok (.iload_n 1, 1) := by decide +kernel
theorem dX30_judge_5 : decode cX30_judge 5 = .ok (.aload_n 0, 1) := by decide +kernel
theorem dX30_judge_6 : decode cX30_judge 6 = .ok (.getfield 1231, 3) := by decide +kernel
theorem dX30_judge_9 : decode cX30_judge 9 = .ok (.if_icmp .le 5, 3) := by decide +kernel
theorem dX30_judge_12 : decode cX30_judge 12 = .ok (.iconst (-1), 1) := by decide +kernel
theorem dX30_judge_13 : decode cX30_judge 13 = .ok (.ireturn, 1) := by decide +kernel
theorem dX30_judge_14 : decode cX30_judge 14 = .ok (.aload_n 0, 1) := by decide +kernel
theorem dX30_judge_15 : decode cX30_judge 15 = .ok (.iconst 0, 1) := by decide +kernel
theorem dX30_judge_16 : decode cX30_judge 16 = .ok (.putfield 291, 3) := by decide +kernel
theorem dX30_judge_19 : decode cX30_judge 19 = .ok (.aload_n 0, 1) := by decide +kernel
theorem dX30_judge_20 : decode cX30_judge 20 = .ok (.iconst (-1), 1) := by decide +kernel
theorem dX30_judge_21 : decode cX30_judge 21 = .ok (.putfield 294, 3) := by decide +kernel
theorem dX30_judge_24 : decode cX30_judge 24 = .ok (.aload_n 0, 1) := by decide +kernel
theorem dX30_judge_25 : decode cX30_judge 25 = .ok (.iconst (-1), 1) := by decide +kernel
theorem dX30_judge_26 : decode cX30_judge 26 = .ok (.putfield 297, 3) := by decide +kernel
theorem dX30_judge_29 : decode cX30_judge 29 = .ok (.aload_n 0, 1) := by decide +kernel
theorem dX30_judge_30 : decode cX30_judge 30 = .ok (.iload_n 1, 1) := by decide +kernel
theorem dX30_judge_31 : decode cX30_judge 31 = .ok (.invokevirtual 1234, 3) := by decide +kernel
theorem dX30_judge_34 : decode cX30_judge 34 = .ok (.aload_n 0, 1) := by decide +kernel
theorem dX30_judge_35 : decode cX30_judge 35 = .ok (.iconst 0, 1) := by decide +kernel
theorem dX30_judge_36 : decode cX30_judge 36 = .ok (.putfield 1231, 3) := by decide +kernel
theorem dX30_judge_39 : decode cX30_judge 39 = .ok (.aload_n 0, 1) := by decide +kernel
theorem dX30_judge_40 : decode cX30_judge 40 = .ok (.iconst 0, 1) := by decide +kernel
theorem dX30_judge_41 : decode cX30_judge 41 = .ok (.putfield 284, 3) := by decide +kernel
theorem dX30_judge_44 : decode cX30_judge 44 = .ok (.aload_n 0, 1) := by decide +kernel
theorem dX30_judge_45 : decode cX30_judge 45 = .ok (.iconst 0, 1) := by decide +kernel
theorem dX30_judge_46 : decode cX30_judge 46 = .ok (.putfield 313, 3) := by decide +kernel
theorem dX30_judge_49 : decode cX30_judge 49 = .ok (.aload_n 0, 1) := by decide +kernel
theorem dX30_judge_50 : decode cX30_judge 50 = .ok (.new 400, 3) := by decide +kernel
theorem dX30_judge_53 : decode cX30_judge 53 = .ok (.dup, 1) := by decide +kernel
theorem dX30_judge_54 : decode cX30_judge 54 = .ok (.invokespecial 1237, 3) := by decide +kernel
theorem dX30_judge_57 : decode cX30_judge 57 = .ok (.putfield 395, 3) := by decide +kernel
theorem dX30_judge_60 : decode cX30_judge 60 = .ok (.aload_n 0, 1) := by decide +kernel
theorem dX30_judge_61 : decode cX30_judge 61 = .ok (.iconst 0, 1) := by decide +kernel
theorem dX30_judge_62 : decode cX30_judge 62 = .ok (.putfield 621, 3) := by decide +kernel
theorem dX30_judge_65 : decode cX30_judge 65 = .ok (.aload_n 0, 1) := by decide +kernel
theorem dX30_judge_66 : decode cX30_judge 66 = .ok (.iconst 0, 1) := by decide +kernel
theorem dX30_judge_67 : decode cX30_judge 67 = .ok (.putfield 1010, 3) := by decide +kernel
theorem dX30_judge_70 : decode cX30_judge 70 = .ok (.aload_n 0, 1) := by decide +kernel
theorem dX30_judge_71 : decode cX30_judge 71 = .ok (.aconst_null, 1) := by decide +kernel
theorem dX30_judge_72 : decode cX30_judge 72 = .ok (.putfield 489, 3) := by decide +kernel
theorem dX30_judge_75 : decode cX30_judge 75 = .ok (.aload_n 0, 1) := by decide +kernel
theorem dX30_judge_76 : decode cX30_judge 76 = .ok (.invokevirtual 1238, 3) := by decide +kernel
theorem dX30_judge_79 : decode cX30_judge 79 = .ok (.aload_n 0, 1) := by decide +kernel
theorem dX30_judge_80 : decode cX30_judge 80 = .ok (.getfield 291, 3) := by decide +kernel
theorem dX30_judge_83 : decode cX30_judge 83 = .ok (.ifCond .ne 11, 3) := by decide +kernel
theorem dX30_judge_86 : decode cX30_judge 86 = .ok (.aload_n 0, 1) := by decide +kernel
theorem dX30_judge_87 : decode cX30_judge 87 = .ok (.invokevirtual 1241, 3) := by decide +kernel
theorem dX30_judge_90 : decode cX30_judge 90 = .ok (.aload_n 0, 1) := by decide +kernel
theorem dX30_judge_91 : decode cX30_judge 91 = .ok (.invokevirtual 1244, 3) := by decide +kernel
theorem dX30_judge_94 : decode cX30_judge 94 = .ok (.aload_n 0, 1) := by decide +kernel
theorem dX30_judge_95 : decode cX30_judge 95 = .ok (.getfield 291, 3) := by decide +kernel
theorem dX30_judge_98 : decode cX30_judge 98 = .ok (.ifCond .ne 7, 3) := by decide +kernel
theorem dX30_judge_101 : decode cX30_judge 101 = .ok (.aload_n 0, 1) := by decide +kernel
theorem dX30_judge_102 : decode cX30_judge 102 = .ok (.invokevirtual 1247, 3) := by decide +kernel
theorem dX30_judge_105 : decode cX30_judge 105 = .ok (.aload_n 0, 1) := by decide +kernel
theorem dX30_judge_106 : decode cX30_judge 106 = .ok (.aload_n 0, 1) := by decide +kernel
theorem dX30_judge_107 : decode cX30_judge 107 = .ok (.getfield 291, 3) := by decide +kernel
theorem dX30_judge_110 : decode cX30_judge 110 = .ok (.putfield 110, 3) := by decide +kernel
theorem dX30_judge_113 : decode cX30_judge 113 = .ok (.aload_n 0, 1) := by decide +kernel
theorem dX30_judge_114 : decode cX30_judge 114 = .ok (.aload_n 0, 1) := by decide +kernel
theorem dX30_judge_115 : decode cX30_judge 115 = .ok (.getfield 291, 3) := by decide +kernel
theorem dX30_judge_118 : decode cX30_judge 118 = .ok (.ifCond .ne 7, 3) := by decide +kernel
theorem dX30_judge_121 : decode cX30_judge 121 = .ok (.iconst (-1), 1) := by decide +kernel
theorem dX30_judge_122 : decode cX30_judge 122 = .ok (.goto 7, 3) := by decide +kernel
theorem dX30_judge_125 : decode cX30_judge 125 = .ok (.aload_n 0, 1) := by decide +kernel
theorem dX30_judge_126 : decode cX30_judge 126 = .ok (.getfield 294, 3) := by decide +kernel
theorem dX30_judge_129 : decode cX30_judge 129 = .ok (.putfield 114, 3) := by decide +kernel
theorem dX30_judge_132 : decode cX30_judge 132 = .ok (.aload_n 0, 1) := by decide +kernel
theorem dX30_judge_133 : decode cX30_judge 133 = .ok (.aload_n 0, 1) := by decide +kernel
theorem dX30_judge_134 : decode cX30_judge 134 = .ok (.getfield 291, 3) := by decide +kernel
theorem dX30_judge_137 : decode cX30_judge 137 = .ok (.iconst 3, 1) := by decide +kernel
theorem dX30_judge_138 : decode cX30_judge 138 = .ok (.if_icmp .ge 7, 3) := by decide +kernel
theorem dX30_judge_141 : decode cX30_judge 141 = .ok (.iconst (-1), 1) := by decide +kernel
theorem dX30_judge_142 : decode cX30_judge 142 = .ok (.goto 28, 3) := by decide +kernel
theorem dX30_judge_145 : decode cX30_judge 145 = .ok (.aload_n 0, 1) := by decide +kernel
theorem dX30_judge_146 : decode cX30_judge 146 = .ok (.getfield 297, 3) := by decide +kernel
theorem dX30_judge_149 : decode cX30_judge 149 = .ok (.sipush 10000, 3) := by decide +kernel
theorem dX30_judge_152 : decode cX30_judge 152 = .ok (.if_icmp .lt 14, 3) := by decide +kernel
theorem dX30_judge_155 : decode cX30_judge 155 = .ok (.aload_n 0, 1) := by decide +kernel
theorem dX30_judge_156 : decode cX30_judge 156 = .ok (.getfield 297, 3) := by decide +kernel
theorem dX30_judge_159 : decode cX30_judge 159 = .ok (.sipush 10000, 3) := by decide +kernel
theorem dX30_judge_162 : decode cX30_judge 162 = .ok (.isub, 1) := by decide +kernel
theorem dX30_judge_163 : decode cX30_judge 163 = .ok (.goto 7, 3) := by decide +kernel
theorem dX30_judge_166 : decode cX30_judge 166 = .ok (.aload_n 0, 1) := by decide +kernel
theorem dX30_judge_167 : decode cX30_judge 167 = .ok (.getfield 297, 3) := by decide +kernel
theorem dX30_judge_170 : decode cX30_judge 170 = .ok (.putfield 117, 3) := by decide +kernel
theorem dX30_judge_173 : decode cX30_judge 173 = .ok (.aload_n 0, 1) := by decide +kernel
theorem dX30_judge_174 : decode cX30_judge 174 = .ok (.getfield 291, 3) := by decide +kernel
theorem dX30_judge_177 : decode cX30_judge 177 = .ok (.ifCond .ne 52, 3) := by decide +kernel
theorem dX30_judge_180 : decode cX30_judge 180 = .ok (.aload_n 0, 1) := by decide +kernel
theorem dX30_judge_181 : decode cX30_judge 181 = .ok (.aload_n 0, 1) := by decide +kernel
theorem dX30_judge_182 : decode cX30_judge 182 = .ok (.getfield 395, 3) := by decide +kernel
theorem dX30_judge_185 : decode cX30_judge 185 = .ok (.putfield 1250, 3) := by decide +kernel
theorem dX30_judge_188 : decode cX30_judge 188 = .ok (.aload_n 0, 1) := by decide +kernel
theorem dX30_judge_189 : decode cX30_judge 189 = .ok (.getfield 47, 3) := by decide +kernel
theorem dX30_judge_192 : decode cX30_judge 192 = .ok (.astore_n 2, 1) := by decide +kernel
theorem dX30_judge_193 : decode cX30_judge 193 = .ok (.aload_n 0, 1) := by decide +kernel
theorem dX30_judge_194 : decode cX30_judge 194 = .ok (.aload_n 0, 1) := by decide +kernel
theorem dX30_judge_195 : decode cX30_judge 195 = .ok (.getfield 51, 3) := by decide +kernel
theorem dX30_judge_198 : decode cX30_judge 198 = .ok (.putfield 47, 3) := by decide +kernel
theorem dX30_judge_201 : decode cX30_judge 201 = .ok (.aload_n 0, 1) := by decide +kernel
theorem dX30_judge_202 : decode cX30_judge 202 = .ok (.aload_n 2, 1) := by decide +kernel
theorem dX30_judge_203 : decode cX30_judge 203 = .ok (.putfield 51, 3) := by decide +kernel
theorem dX30_judge_206 : decode cX30_judge 206 = .ok (.aload_n 0, 1) := by decide +kernel
theorem dX30_judge_207 : decode cX30_judge 207 = .ok (.getfield 75, 3) := by decide +kernel
theorem dX30_judge_210 : decode cX30_judge 210 = .ok (.astore_n 3, 1) := by decide +kernel
theorem dX30_judge_211 : decode cX30_judge 211 = .ok (.aload_n 0, 1) := by decide +kernel
theorem dX30_judge_212 : decode cX30_judge 212 = .ok (.aload_n 0, 1) := by decide +kernel
theorem dX30_judge_213 : decode cX30_judge 213 = .ok (.getfield 78, 3) := by decide +kernel
theorem dX30_judge_216 : decode cX30_judge 216 = .ok (.putfield 75, 3) := by decide +kernel
theorem dX30_judge_219 : decode cX30_judge 219 = .ok (.aload_n 0, 1) := by decide +kernel
theorem dX30_judge_220 : decode cX30_judge 220 = .ok (.aload_n 3, 1) := by decide +kernel
theorem dX30_judge_221 : decode cX30_judge 221 = .ok (.putfield 78, 3) := by decide +kernel
theorem dX30_judge_224 : decode cX30_judge 224 = .ok (.aload_n 0, 1) := by decide +kernel
theorem dX30_judge_225 : decode cX30_judge 225 = .ok (.iconst 0, 1) := by decide +kernel
theorem dX30_judge_226 : decode cX30_judge 226 = .ok (.putfield 1253, 3) := by decide +kernel
theorem dX30_judge_229 : decode cX30_judge 229 = .ok (.aload_n 0, 1) := by decide +kernel
theorem dX30_judge_230 : decode cX30_judge 230 = .ok (.getfield 291, 3) := by decide +kernel
theorem dX30_judge_233 : decode cX30_judge 233 = .ok (.ireturn, 1) := by decide +kernel
theorem dX30_split_0 : decode cX30_split 0 = .ok (.aload_n 0, 1) := by decide +kernel
theorem dX30_split_1 : decode cX30_split 1 = .ok (.iconst 0, 1) := by decide +kernel
theorem dX30_split_2 : decode cX30_split 2 = .ok (.putfield 201, 3) := by decide +kernel
theorem dX30_split_5 : decode cX30_split 5 = .ok (.iconst 0, 1) := by decide +kernel
theorem dX30_split_6 : decode cX30_split 6 = .ok (.istore_n 2, 1) := by decide +kernel
theorem dX30_split_7 : decode cX30_split 7 = .ok (.iload_n 2, 1) := by decide +kernel
theorem dX30_split_8 : decode cX30_split 8 = .ok (.iload_n 1, 1) := by decide +kernel
theorem dX30_split_9 : decode cX30_split 9 = .ok (.if_icmp .ge 430, 3) := by decide +kernel
theorem dX30_split_12 : decode cX30_split 12 = .ok (.aload_n 0, 1) := by decide +kernel
theorem dX30_split_13 : decode cX30_split 13 = .ok (.iload_n 2, 1) := by decide +kernel
theorem dX30_split_14 : decode cX30_split 14 = .ok (.iload_n 1, 1) := by decide +kernel
theorem dX30_split_15 : decode cX30_split 15 = .ok (.invokevirtual 253, 3) := by decide +kernel
theorem dX30_split_18 : decode cX30_split 18 = .ok (.istore_n 3, 1) := by decide +kernel
theorem dX30_split_19 : decode cX30_split 19 = .ok (.iload_n 2, 1) := by decide +kernel
theorem dX30_split_20 : decode cX30_split 20 = .ok (.istore 4, 2) := by decide +kernel
theorem dX30_split_22 : decode cX30_split 22 = .ok (.iload_n 3, 1) := by decide +kernel
theorem dX30_split_23 : decode cX30_split 23 = .ok (.bipush 9, 2) := by decide +kernel
theorem dX30_split_25 : decode cX30_split 25 = .ok (.if_icmp .eq 21, 3) := by decide +kernel
theorem dX30_split_28 : decode cX30_split 28 = .ok (.iload_n 3, 1) := by decide +kernel
theorem dX30_split_29 : decode cX30_split 29 = .ok (.bipush 10, 2) := by decide +kernel
theorem dX30_split_31 : decode cX30_split 31 = .ok (.if_icmp .eq 15, 3) := by decide +kernel
theorem dX30_split_34 : decode cX30_split 34 = .ok (.iload_n 3, 1) := by decide +kernel
theorem dX30_split_35 : decode cX30_split 35 = .ok (.bipush 13, 2) := by decide +kernel
theorem dX30_split_37 : decode cX30_split 37 = .ok (.if_icmp .eq 9, 3) := by decide +kernel
theorem dX30_split_40 : decode cX30_split 40 = .ok (.iload_n 3, 1) := by decide +kernel
theorem dX30_split_41 : decode cX30_split 41 = .ok (.bipush 32, 2) := by decide +kernel
theorem dX30_split_43 : decode cX30_split 43 = .ok (.if_icmp .ne 9, 3) := by decide +kernel
theorem dX30_split_46 : decode cX30_split 46 = .ok (.iinc 2 1, 3) := by decide +kernel
theorem dX30_split_49 : decode cX30_split 49 = .ok (.goto 387, 3) := by decide +kernel
theorem dX30_split_52 : decode cX30_split 52 = .ok (.iload_n 3, 1) := by decide +kernel
theorem dX30_split_53 : decode cX30_split 53 = .ok (.bipush 35, 2) := by decide +kernel
theorem dX30_split_55 : decode cX30_split 55 = .ok (.if_icmp .ne 37, 3) := by decide +kernel
theorem dX30_split_58 : decode cX30_split 58 = .ok (.iload_n 2, 1) := by decide +kernel
theorem dX30_split_59 : decode cX30_split 59 = .ok (.iload_n 1, 1) := by decide +kernel
theorem dX30_split_60 : decode cX30_split 60 = .ok (.if_icmp .ge 376, 3) := by decide +kernel
theorem dX30_split_63 : decode cX30_split 63 = .ok (.aload_n 0, 1) := by decide +kernel
theorem dX30_split_64 : decode cX30_split 64 = .ok (.iload_n 2, 1) := by decide +kernel
theorem dX30_split_65 : decode cX30_split 65 = .ok (.iload_n 1, 1) := by decide +kernel
theorem dX30_split_66 : decode cX30_split 66 = .ok (.invokevirtual 253, 3) := by decide +kernel
theorem dX30_split_69 : decode cX30_split 69 = .ok (.bipush 10, 2) := by decide +kernel
theorem dX30_split_71 : decode cX30_split 71 = .ok (.if_icmp .eq 365, 3) := by decide +kernel
theorem dX30_split_74 : decode cX30_split 74 = .ok (.aload_n 0, 1) := by decide +kernel
theorem dX30_split_75 : decode cX30_split 75 = .ok (.iload_n 2, 1) := by decide +kernel
theorem dX30_split_76 : decode cX30_split 76 = .ok (.iload_n 1, 1) := by decide +kernel
theorem dX30_split_77 : decode cX30_split 77 = .ok (.invokevirtual 253, 3) := by decide +kernel
theorem dX30_split_80 : decode cX30_split 80 = .ok (.invokestatic 257, 3) := by decide +kernel
theorem dX30_split_83 : decode cX30_split 83 = .ok (.ifCond .eq 353, 3) := by decide +kernel
theorem dX30_split_86 : decode cX30_split 86 = .ok (.iinc 2 1, 3) := by decide +kernel
theorem dX30_split_89 : decode cX30_split 89 = .ok (.goto (-31), 3) := by decide +kernel
theorem dX30_split_92 : decode cX30_split 92 = .ok (.iload_n 3, 1) := by decide +kernel
theorem dX30_split_93 : decode cX30_split 93 = .ok (.invokestatic 194, 3) := by decide +kernel
theorem dX30_split_96 : decode cX30_split 96 = .ok (.ifCond .eq 85, 3) := by decide +kernel
theorem dX30_split_99 : decode cX30_split 99 = .ok (.aload_n 0, 1) := by decide +kernel
theorem dX30_split_100 : decode cX30_split 100 = .ok (.iload_n 2, 1) := by decide +kernel
theorem dX30_split_101 : decode cX30_split 101 = .ok (.iload_n 1, 1) := by decide +kernel
theorem dX30_split_102 : decode cX30_split 102 = .ok (.invokevirtual 253, 3) := by decide +kernel
theorem dX30_split_105 : decode cX30_split 105 = .ok (.invokestatic 260, 3) := by decide +kernel
theorem dX30_split_108 : decode cX30_split 108 = .ok (.ifCond .eq 9, 3) := by decide +kernel
theorem dX30_split_111 : decode cX30_split 111 = .ok (.iinc 2 1, 3) := by decide +kernel
theorem dX30_split_114 : decode cX30_split 114 = .ok (.goto (-15), 3) := by decide +kernel
theorem dX30_split_117 : decode cX30_split 117 = .ok (.aload_n 0, 1) := by decide +kernel
theorem dX30_split_118 : decode cX30_split 118 = .ok (.iload_n 2, 1) := by decide +kernel
theorem dX30_split_119 : decode cX30_split 119 = .ok (.iload 4, 2) := by decide +kernel
theorem dX30_split_121 : decode cX30_split 121 = .ok (.isub, 1) := by decide +kernel
theorem dX30_split_122 : decode cX30_split 122 = .ok (.bipush 16, 2) := by decide +kernel
theorem dX30_split_124 : decode cX30_split 124 = .ok (.if_icmp .le 7, 3) := by decide +kernel
theorem dX30_split_127 : decode cX30_split 127 = .ok (.iconst 1, 1) := by decide +kernel
theorem dX30_split_128 : decode cX30_split 128 = .ok (.goto 4, 3) := by decide +kernel
theorem dX30_split_131 : decode cX30_split 131 = .ok (.iconst 2, 1) := by decide +kernel
theorem dX30_split_132 : decode cX30_split 132 = .ok (.iload 4, 2) := by decide +kernel
theorem dX30_split_134 : decode cX30_split 134 = .ok (.iload_n 2, 1) := by decide +kernel
theorem dX30_split_135 : decode cX30_split 135 = .ok (.invokevirtual 263, 3) := by decide +kernel
theorem dX30_split_138 : decode cX30_split 138 = .ok (.aload_n 0, 1) := by decide +kernel
theorem dX30_split_139 : decode cX30_split 139 = .ok (.getfield 13, 3) := by decide +kernel
theorem dX30_split_142 : decode cX30_split 142 = .ok (.aload_n 0, 1) := by decide +kernel
theorem dX30_split_143 : decode cX30_split 143 = .ok (.getfield 201, 3) := by decide +kernel
theorem dX30_split_146 : decode cX30_split 146 = .ok (.iconst 1, 1) := by decide +kernel
theorem dX30_split_147 : decode cX30_split 147 = .ok (.isub, 1) := by decide +kernel
theorem dX30_split_148 : decode cX30_split 148 = .ok (.iaload, 1) := by decide +kernel
theorem dX30_split_149 : decode cX30_split 149 = .ok (.iconst 2, 1) := by decide +kernel
theorem dX30_split_150 : decode cX30_split 150 = .ok (.if_icmp .ne 286, 3) := by decide +kernel
theorem dX30_split_153 : decode cX30_split 153 = .ok (.aload_n 0, 1) := by decide +kernel
theorem dX30_split_154 : decode cX30_split 154 = .ok (.ldc_w 267, 3) := by decide +kernel
theorem dX30_split_157 : decode cX30_split 157 = .ok (.iload 4, 2) := by decide +kernel
theorem dX30_split_159 : decode cX30_split 159 = .ok (.iload_n 2, 1) := by decide +kernel
theorem dX30_split_160 : decode cX30_split 160 = .ok (.invokevirtual 269, 3) := by decide +kernel
theorem dX30_split_163 : decode cX30_split 163 = .ok (.ifCond .eq 273, 3) := by decide +kernel
theorem dX30_split_166 : decode cX30_split 166 = .ok (.aload_n 0, 1) := by decide +kernel
theorem dX30_split_167 : decode cX30_split 167 = .ok (.getfield 13, 3) := by decide +kernel
theorem dX30_split_170 : decode cX30_split 170 = .ok (.aload_n 0, 1) := by decide +kernel
theorem dX30_split_171 : decode cX30_split 171 = .ok (.getfield 201, 3) := by decide +kernel
theorem dX30_split_174 : decode cX30_split 174 = .ok (.iconst 1, 1) := by decide +kernel
theorem dX30_split_175 : decode cX30_split 175 = .ok (.isub, 1) := by decide +kernel
theorem dX30_split_176 : decode cX30_split 176 = .ok (.iconst 3, 1) := by decide +kernel
theorem dX30_split_177 : decode cX30_split 177 = .ok (.iastore, 1) := by decide +kernel
theorem dX30_split_178 : decode cX30_split 178 = .ok (.goto 258, 3) := by decide +kernel
theorem dX30_split_181 : decode cX30_split 181 = .ok (.iload_n 3, 1) := by decide +kernel
theorem dX30_split_182 : decode cX30_split 182 = .ok (.invokestatic 198, 3) := by decide +kernel
theorem dX30_split_185 : decode cX30_split 185 = .ok (.ifCond .eq 111, 3) := by decide +kernel
theorem dX30_split_188 : decode cX30_split 188 = .ok (.lconst 0, 1) := by decide +kernel
theorem dX30_split_189 : decode cX30_split 189 = .ok (.lstore 5, 2) := by decide +kernel
theorem dX30_split_191 : decode cX30_split 191 = .ok (.iconst 1, 1) := by decide +kernel
theorem dX30_split_192 : decode cX30_split 192 = .ok (.istore 7, 2) := by decide +kernel
theorem dX30_split_194 : decode cX30_split 194 = .ok (.aload_n 0, 1) := by decide +kernel
theorem dX30_split_195 : decode cX30_split 195 = .ok (.iload_n 2, 1) := by decide +kernel
theorem dX30_split_196 : decode cX30_split 196 = .ok (.iload_n 1, 1) := by decide +kernel
theorem dX30_split_197 : decode cX30_split 197 = .ok (.invokevirtual 253, 3) := by decide +kernel
theorem dX30_split_200 : decode cX30_split 200 = .ok (.invokestatic 198, 3) := by decide +kernel
theorem dX30_split_203 : decode cX30_split 203 = .ok (.ifCond .eq 61, 3) := by decide +kernel
theorem dX30_split_206 : decode cX30_split 206 = .ok (.aload_n 0, 1) := by decide +kernel
theorem dX30_split_207 : decode cX30_split 207 = .ok (.iload_n 2, 1) := by decide +kernel
theorem dX30_split_208 : decode cX30_split 208 = .ok (.iload_n 1, 1) := by decide +kernel
theorem dX30_split_209 : decode cX30_split 209 = .ok (.invokevirtual 253, 3) := by decide +kernel
theorem dX30_split_212 : decode cX30_split 212 = .ok (.bipush 48, 2) := by decide +kernel
theorem dX30_split_214 : decode cX30_split 214 = .ok (.isub, 1) := by decide +kernel
theorem dX30_split_215 : decode cX30_split 215 = .ok (.istore 8, 2) := by decide +kernel
theorem dX30_split_217 : decode cX30_split 217 = .ok (.iload 7, 2) := by decide +kernel
theorem dX30_split_219 : decode cX30_split 219 = .ok (.ifCond .eq 24, 3) := by decide +kernel
theorem dX30_split_222 : decode cX30_split 222 = .ok (.lload 5, 2) := by decide +kernel
theorem dX30_split_224 : decode cX30_split 224 = .ok (.ldc2_w 274, 3) := by decide +kernel
theorem dX30_split_227 : decode cX30_split 227 = .ok (.iload 8, 2) := by decide +kernel
theorem dX30_split_229 : decode cX30_split 229 = .ok (.i2l, 1) := by decide +kernel
theorem dX30_split_230 : decode cX30_split 230 = .ok (.lsub, 1) := by decide +kernel
theorem dX30_split_231 : decode cX30_split 231 = .ok (.ldc2_w 276, 3) := by decide +kernel
theorem dX30_split_234 : decode cX30_split 234 = .ok (.ldiv, 1) := by decide +kernel
theorem dX30_split_235 : decode cX30_split 235 = .ok (.lcmp, 1) := by decide +kernel
theorem dX30_split_236 : decode cX30_split 236 = .ok (.ifCond .gt 7, 3) := by decide +kernel
theorem dX30_split_239 : decode cX30_split 239 = .ok (.iconst 1, 1) := by decide +kernel
theorem dX30_split_240 : decode cX30_split 240 = .ok (.goto 4, 3) := by decide +kernel
theorem dX30_split_243 : decode cX30_split 243 = .ok (.iconst 0, 1) := by decide +kernel
theorem dX30_split_244 : decode cX30_split 244 = .ok (.istore 7, 2) := by decide +kernel
theorem dX30_split_246 : decode cX30_split 246 = .ok (.ldc2_w 276, 3) := by decide +kernel
theorem dX30_split_249 : decode cX30_split 249 = .ok (.lload 5, 2) := by decide +kernel
theorem dX30_split_251 : decode cX30_split 251 = .ok (.lmul, 1) := by decide +kernel
theorem dX30_split_252 : decode cX30_split 252 = .ok (.iload 8, 2) := by decide +kernel
theorem dX30_split_254 : decode cX30_split 254 = .ok (.i2l, 1) := by decide +kernel
theorem dX30_split_255 : decode cX30_split 255 = .ok (.ladd, 1) := by decide +kernel
theorem dX30_split_256 : decode cX30_split 256 = .ok (.lstore 5, 2) := by decide +kernel
theorem dX30_split_258 : decode cX30_split 258 = .ok (.iinc 2 1, 3) := by decide +kernel
theorem dX30_split_261 : decode cX30_split 261 = .ok (.goto (-67), 3) := by decide +kernel
theorem dX30_split_264 : decode cX30_split 264 = .ok (.aload_n 0, 1) := by decide +kernel
theorem dX30_split_265 : decode cX30_split 265 = .ok (.iload 7, 2) := by decide +kernel
theorem dX30_split_267 : decode cX30_split 267 = .ok (.ifCond .eq 19, 3) := by decide +kernel
theorem dX30_split_270 : decode cX30_split 270 = .ok (.aload_n 0, 1) := by decide +kernel
theorem dX30_split_271 : decode cX30_split 271 = .ok (.iload_n 2, 1) := by decide +kernel
theorem dX30_split_272 : decode cX30_split 272 = .ok (.iload_n 1, 1) := by decide +kernel
theorem dX30_split_273 : decode cX30_split 273 = .ok (.invokevirtual 253, 3) := by decide +kernel
theorem dX30_split_276 : decode cX30_split 276 = .ok (.invokestatic 194, 3) := by decide +kernel
theorem dX30_split_279 : decode cX30_split 279 = .ok (.ifCond .ne 7, 3) := by decide +kernel
theorem dX30_split_282 : decode cX30_split 282 = .ok (.iconst 4, 1) := by decide +kernel
theorem dX30_split_283 : decode cX30_split 283 = .ok (.goto 4, 3) := by decide +kernel
theorem dX30_split_286 : decode cX30_split 286 = .ok (.iconst 1, 1) := by decide +kernel
theorem dX30_split_287 : decode cX30_split 287 = .ok (.iload 4, 2) := by decide +kernel
theorem dX30_split_289 : decode cX30_split 289 = .ok (.iload_n 2, 1) := by decide +kernel
theorem dX30_split_290 : decode cX30_split 290 = .ok (.invokevirtual 263, 3) := by decide +kernel
theorem dX30_split_293 : decode cX30_split 293 = .ok (.goto 143, 3) := by decide +kernel
theorem dX30_split_296 : decode cX30_split 296 = .ok (.aload_n 0, 1) := by decide +kernel
theorem dX30_split_297 : decode cX30_split 297 = .ok (.iload_n 2, 1) := by decide +kernel
theorem dX30_split_298 : decode cX30_split 298 = .ok (.iconst 1, 1) := by decide +kernel
theorem dX30_split_299 : decode cX30_split 299 = .ok (.iadd, 1) := by decide +kernel
theorem dX30_split_300 : decode cX30_split 300 = .ok (.iload_n 1, 1) := by decide +kernel
theorem dX30_split_301 : decode cX30_split 301 = .ok (.invokevirtual 253, 3) := by decide +kernel
theorem dX30_split_304 : decode cX30_split 304 = .ok (.istore 5, 2) := by decide +kernel
theorem dX30_split_306 : decode cX30_split 306 = .ok (.iload_n 3, 1) := by decide +kernel
theorem dX30_split_307 : decode cX30_split 307 = .ok (.bipush 38, 2) := by decide +kernel
theorem dX30_split_309 : decode cX30_split 309 = .ok (.if_icmp .ne 10, 3) := by decide +kernel
theorem dX30_split_312 : decode cX30_split 312 = .ok (.iload 5, 2) := by decide +kernel
theorem dX30_split_314 : decode cX30_split 314 = .ok (.bipush 33, 2) := by decide +kernel
theorem dX30_split_316 : decode cX30_split 316 = .ok (.if_icmp .eq 61, 3) := by decide +kernel
theorem dX30_split_319 : decode cX30_split 319 = .ok (.iload_n 3, 1) := by decide +kernel
theorem dX30_split_320 : decode cX30_split 320 = .ok (.bipush 45, 2) := by decide +kernel
theorem dX30_split_322 : decode cX30_split 322 = .ok (.if_icmp .ne 10, 3) := by decide +kernel
theorem dX30_split_325 : decode cX30_split 325 = .ok (.iload 5, 2) := by decide +kernel
theorem dX30_split_327 : decode cX30_split 327 = .ok (.bipush 62, 2) := by decide +kernel
theorem dX30_split_329 : decode cX30_split 329 = .ok (.if_icmp .eq 48, 3) := by decide +kernel
theorem dX30_split_332 : decode cX30_split 332 = .ok (.iload_n 3, 1) := by decide +kernel
theorem dX30_split_333 : decode cX30_split 333 = .ok (.bipush 61, 2) := by decide +kernel
theorem dX30_split_335 : decode cX30_split 335 = .ok (.if_icmp .ne 17, 3) := by decide +kernel
theorem dX30_split_338 : decode cX30_split 338 = .ok (.iload 5, 2) := by decide +kernel
theorem dX30_split_340 : decode cX30_split 340 = .ok (.bipush 62, 2) := by decide +kernel
theorem dX30_split_342 : decode cX30_split 342 = .ok (.if_icmp .eq 35, 3) := by decide +kernel
theorem dX30_split_345 : decode cX30_split 345 = .ok (.iload 5, 2) := by decide +kernel
theorem dX30_split_347 : decode cX30_split 347 = .ok (.bipush 61, 2) := by decide +kernel
theorem dX30_split_349 : decode cX30_split 349 = .ok (.if_icmp .eq 28, 3) := by decide +kernel
theorem dX30_split_352 : decode cX30_split 352 = .ok (.iload_n 3, 1) := by decide +kernel
theorem dX30_split_353 : decode cX30_split 353 = .ok (.bipush 33, 2) := by decide +kernel
theorem dX30_split_355 : decode cX30_split 355 = .ok (.if_icmp .eq 15, 3) := by decide +kernel
theorem dX30_split_358 : decode cX30_split 358 = .ok (.iload_n 3, 1) := by decide +kernel
theorem dX30_split_359 : decode cX30_split 359 = .ok (.bipush 60, 2) := by decide +kernel
theorem dX30_split_361 : decode cX30_split 361 = .ok (.if_icmp .eq 9, 3) := by decide +kernel
theorem dX30_split_364 : decode cX30_split 364 = .ok (.iload_n 3, 1) := by decide +kernel
theorem dX30_split_365 : decode cX30_split 365 = .ok (.bipush 62, 2) := by decide +kernel
theorem dX30_split_367 : decode cX30_split 367 = .ok (.if_icmp .ne 14, 3) := by decide +kernel
theorem dX30_split_370 : decode cX30_split 370 = .ok (.iload 5, 2) := by decide +kernel
theorem dX30_split_372 : decode cX30_split 372 = .ok (.bipush 61, 2) := by decide +kernel
theorem dX30_split_374 : decode cX30_split 374 = .ok (.if_icmp .ne 7, 3) := by decide +kernel
theorem dX30_split_377 : decode cX30_split 377 = .ok (.iconst 1, 1) := by decide +kernel
theorem dX30_split_378 : decode cX30_split 378 = .ok (.goto 4, 3) := by decide +kernel
theorem dX30_split_381 : decode cX30_split 381 = .ok (.iconst 0, 1) := by decide +kernel
theorem dX30_split_382 : decode cX30_split 382 = .ok (.istore 6, 2) := by decide +kernel
theorem dX30_split_384 : decode cX30_split 384 = .ok (.iload_n 2, 1) := by decide +kernel
theorem dX30_split_385 : decode cX30_split 385 = .ok (.iload 6, 2) := by decide +kernel
theorem dX30_split_387 : decode cX30_split 387 = .ok (.ifCond .eq 7, 3) := by decide +kernel
theorem dX30_split_390 : decode cX30_split 390 = .ok (.iconst 2, 1) := by decide +kernel
theorem dX30_split_391 : decode cX30_split 391 = .ok (.goto 4, 3) := by decide +kernel
theorem dX30_split_394 : decode cX30_split 394 = .ok (.iconst 1, 1) := by decide +kernel
theorem dX30_split_395 : decode cX30_split 395 = .ok (.iadd, 1) := by decide +kernel
theorem dX30_split_396 : decode cX30_split 396 = .ok (.istore_n 2, 1) := by decide +kernel
theorem dX30_split_397 : decode cX30_split 397 = .ok (.ldc_w 278, 3) := by decide +kernel
theorem dX30_split_400 : decode cX30_split 400 = .ok (.iload_n 3, 1) := by decide +kernel
theorem dX30_split_401 : decode cX30_split 401 = .ok (.invokevirtual 280, 3) := by decide +kernel
theorem dX30_split_404 : decode cX30_split 404 = .ok (.ifCond .lt 7, 3) := by decide +kernel
theorem dX30_split_407 : decode cX30_split 407 = .ok (.iconst 1, 1) := by decide +kernel
theorem dX30_split_408 : decode cX30_split 408 = .ok (.goto 4, 3) := by decide +kernel
theorem dX30_split_411 : decode cX30_split 411 = .ok (.iconst 0, 1) := by decide +kernel
theorem dX30_split_412 : decode cX30_split 412 = .ok (.istore 7, 2) := by decide +kernel
theorem dX30_split_414 : decode cX30_split 414 = .ok (.aload_n 0, 1) := by decide +kernel
theorem dX30_split_415 : decode cX30_split 415 = .ok (.iload 6, 2) := by decide +kernel
theorem dX30_split_417 : decode cX30_split 417 = .ok (.ifCond .ne 8, 3) := by decide +kernel
theorem dX30_split_420 : decode cX30_split 420 = .ok (.iload 7, 2) := by decide +kernel
theorem dX30_split_422 : decode cX30_split 422 = .ok (.ifCond .eq 7, 3) := by decide +kernel
theorem dX30_split_425 : decode cX30_split 425 = .ok (.iconst 5, 1) := by decide +kernel
theorem dX30_split_426 : decode cX30_split 426 = .ok (.goto 4, 3) := by decide +kernel
theorem dX30_split_429 : decode cX30_split 429 = .ok (.iconst 1, 1) := by decide +kernel
theorem dX30_split_430 : decode cX30_split 430 = .ok (.iload 4, 2) := by decide +kernel
theorem dX30_split_432 : decode cX30_split 432 = .ok (.iload_n 2, 1) := by decide +kernel
theorem dX30_split_433 : decode cX30_split 433 = .ok (.invokevirtual 263, 3) := by decide +kernel
theorem dX30_split_436 : decode cX30_split 436 = .ok (.goto (-429), 3) := by decide +kernel
theorem dX30_split_439 : decode cX30_split 439 = .ok (.aload_n 0, 1) := by decide +kernel
theorem dX30_split_440 : decode cX30_split 440 = .ok (.iconst 0, 1) := by decide +kernel
theorem dX30_split_441 : decode cX30_split 441 = .ok (.iload_n 1, 1) := by decide +kernel
theorem dX30_split_442 : decode cX30_split 442 = .ok (.iload_n 1, 1) := by decide +kernel
theorem dX30_split_443 : decode cX30_split 443 = .ok (.invokevirtual 263, 3) := by decide +kernel
theorem dX30_split_446 : decode cX30_split 446 = .ok (.aload_n 0, 1) := by decide +kernel
theorem dX30_split_447 : decode cX30_split 447 = .ok (.getfield 25, 3) := by decide +kernel
theorem dX30_split_450 : decode cX30_split 450 = .ok (.aload_n 0, 1) := by decide +kernel
theorem dX30_split_451 : decode cX30_split 451 = .ok (.getfield 201, 3) := by decide +kernel
theorem dX30_split_454 : decode cX30_split 454 = .ok (.iconst 1, 1) := by decide +kernel
theorem dX30_split_455 : decode cX30_split 455 = .ok (.isub, 1) := by decide +kernel
theorem dX30_split_456 : decode cX30_split 456 = .ok (.ldc 208, 2) := by decide +kernel
theorem dX30_split_458 : decode cX30_split 458 = .ok (.aastore, 1) := by decide +kernel
theorem dX30_split_459 : decode cX30_split 459 = .ok (.return_, 1) := by decide +kernel
theorem dX30_token_0 : decode cX30_token 0 = .ok (.aload_n 0, 1) := by decide +kernel
theorem dX30_token_1 : decode cX30_token 1 = .ok (.getfield 13, 3) := by decide +kernel
theorem dX30_token_4 : decode cX30_token 4 = .ok (.aload_n 0, 1) := by decide +kernel
theorem dX30_token_5 : decode cX30_token 5 = .ok (.getfield 201, 3) := by decide +kernel
theorem dX30_token_8 : decode cX30_token 8 = .ok (.iload_n 1, 1) := by decide +kernel
theorem dX30_token_9 : decode cX30_token 9 = .ok (.iastore, 1) := by decide +kernel
theorem dX30_token_10 : decode cX30_token 10 = .ok (.aload_n 0, 1) := by decide +kernel
theorem dX30_token_11 : decode cX30_token 11 = .ok (.getfield 17, 3) := by decide +kernel
theorem dX30_token_14 : decode cX30_token 14 = .ok (.aload_n 0, 1) := by decide +kernel
theorem dX30_token_15 : decode cX30_token 15 = .ok (.getfield 201, 3) := by decide +kernel
theorem dX30_token_18 : decode cX30_token 18 = .ok (.iload_n 2, 1) := by decide +kernel
theorem dX30_token_19 : decode cX30_token 19 = .ok (.iastore, 1) := by decide +kernel
theorem dX30_token_20 : decode cX30_token 20 = .ok (.aload_n 0, 1) := by decide +kernel
theorem dX30_token_21 : decode cX30_token 21 = .ok (.getfield 20, 3) := by decide +kernel
theorem dX30_token_24 : decode cX30_token 24 = .ok (.aload_n 0, 1) := by decide +kernel
theorem dX30_token_25 : decode cX30_token 25 = .ok (.getfield 201, 3) := by decide +kernel
theorem dX30_token_28 : decode cX30_token 28 = .ok (.iload_n 3, 1) := by decide +kernel
theorem dX30_token_29 : decode cX30_token 29 = .ok (.iastore, 1) := by decide +kernel
theorem dX30_token_30 : decode cX30_token 30 = .ok (.aload_n 0, 1) := by decide +kernel
theorem dX30_token_31 : decode cX30_token 31 = .ok (.getfield 25, 3) := by decide +kernel
theorem dX30_token_34 : decode cX30_token 34 = .ok (.aload_n 0, 1) := by decide +kernel
theorem dX30_token_35 : decode cX30_token 35 = .ok (.getfield 201, 3) := by decide +kernel
theorem dX30_token_38 : decode cX30_token 38 = .ok (.iload_n 1, 1) := by decide +kernel
theorem dX30_token_39 : decode cX30_token 39 = .ok (.iconst 5, 1) := by decide +kernel
theorem dX30_token_40 : decode cX30_token 40 = .ok (.if_icmp .ne 12, 3) := by decide +kernel
theorem dX30_token_43 : decode cX30_token 43 = .ok (.aload_n 0, 1) := by decide +kernel
theorem dX30_token_44 : decode cX30_token 44 = .ok (.iload_n 2, 1) := by decide +kernel
theorem dX30_token_45 : decode cX30_token 45 = .ok (.iload_n 3, 1) := by decide +kernel
theorem dX30_token_46 : decode cX30_token 46 = .ok (.invokevirtual 204, 3) := by decide +kernel
theorem dX30_token_49 : decode cX30_token 49 = .ok (.goto 19, 3) := by decide +kernel
theorem dX30_token_52 : decode cX30_token 52 = .ok (.iload_n 1, 1) := by decide +kernel
theorem dX30_token_53 : decode cX30_token 53 = .ok (.iconst 1, 1) := by decide +kernel
theorem dX30_token_54 : decode cX30_token 54 = .ok (.if_icmp .ne 8, 3) := by decide +kernel
theorem dX30_token_57 : decode cX30_token 57 = .ok (.ldc 208, 2) := by decide +kernel
theorem dX30_token_59 : decode cX30_token 59 = .ok (.goto 9, 3) := by decide +kernel
theorem dX30_token_62 : decode cX30_token 62 = .ok (.aload_n 0, 1) := by decide +kernel
theorem dX30_token_63 : decode cX30_token 63 = .ok (.iload_n 2, 1) := by decide +kernel
theorem dX30_token_64 : decode cX30_token 64 = .ok (.iload_n 3, 1) := by decide +kernel
theorem dX30_token_65 : decode cX30_token 65 = .ok (.invokevirtual 210, 3) := by decide +kernel
theorem dX30_token_68 : decode cX30_token 68 = .ok (.aastore, 1) := by decide +kernel
theorem dX30_token_69 : decode cX30_token 69 = .ok (.aload_n 0, 1) := by decide +kernel
theorem dX30_token_70 : decode cX30_token 70 = .ok (.dup, 1) := by decide +kernel
theorem dX30_token_71 : decode cX30_token 71 = .ok (.getfield 201, 3) := by decide +kernel
theorem dX30_token_74 : decode cX30_token 74 = .ok (.iconst 1, 1) := by decide +kernel
theorem dX30_token_75 : decode cX30_token 75 = .ok (.iadd, 1) := by decide +kernel
theorem dX30_token_76 : decode cX30_token 76 = .ok (.putfield 201, 3) := by decide +kernel
theorem dX30_token_79 : decode cX30_token 79 = .ok (.return_, 1) := by decide +kernel
theorem dX30_known_0 : decode cX30_known 0 = .ok (.iload_n 2, 1) := by decide +kernel
theorem dX30_known_1 : decode cX30_known 1 = .ok (.iload_n 1, 1) := by decide +kernel
theorem dX30_known_2 : decode cX30_known 2 = .ok (.isub, 1) := by decide +kernel
theorem dX30_known_3 : decode cX30_known 3 = .ok (.istore_n 3, 1) := by decide +kernel
theorem dX30_known_4 : decode cX30_known 4 = .ok (.iload_n 1, 1) := by decide +kernel
theorem dX30_known_5 : decode cX30_known 5 = .ok (.istore 4, 2) := by decide +kernel
theorem dX30_known_7 : decode cX30_known 7 = .ok (.iload 4, 2) := by decide +kernel
theorem dX30_known_9 : decode cX30_known 9 = .ok (.iload_n 2, 1) := by decide +kernel
theorem dX30_known_10 : decode cX30_known 10 = .ok (.if_icmp .ge 22, 3) := by decide +kernel
theorem dX30_known_13 : decode cX30_known 13 = .ok (.iload_n 3, 1) := by decide +kernel
theorem dX30_known_14 : decode cX30_known 14 = .ok (.bipush 31, 2) := by decide +kernel
theorem dX30_known_16 : decode cX30_known 16 = .ok (.imul, 1) := by decide +kernel
theorem dX30_known_17 : decode cX30_known 17 = .ok (.aload_n 0, 1) := by decide +kernel
theorem dX30_known_18 : decode cX30_known 18 = .ok (.getfield 9, 3) := by decide +kernel
theorem dX30_known_21 : decode cX30_known 21 = .ok (.iload 4, 2) := by decide +kernel
theorem dX30_known_23 : decode cX30_known 23 = .ok (.baload, 1) := by decide +kernel
theorem dX30_known_24 : decode cX30_known 24 = .ok (.iadd, 1) := by decide +kernel
theorem dX30_known_25 : decode cX30_known 25 = .ok (.istore_n 3, 1) := by decide +kernel
theorem dX30_known_26 : decode cX30_known 26 = .ok (.iinc 4 1, 3) := by decide +kernel
theorem dX30_known_29 : decode cX30_known 29 = .ok (.goto (-22), 3) := by decide +kernel
theorem dX30_known_32 : decode cX30_known 32 = .ok (.iload_n 3, 1) := by decide +kernel
theorem dX30_known_33 : decode cX30_known 33 = .ok (.iload_n 3, 1) := by decide +kernel
theorem dX30_known_34 : decode cX30_known 34 = .ok (.bipush 10, 2) := by decide +kernel
theorem dX30_known_36 : decode cX30_known 36 = .ok (.iushr, 1) := by decide +kernel
theorem dX30_known_37 : decode cX30_known 37 = .ok (.ixor, 1) := by decide +kernel
theorem dX30_known_38 : decode cX30_known 38 = .ok (.sipush 1023, 3) := by decide +kernel
theorem dX30_known_41 : decode cX30_known 41 = .ok (.iand, 1) := by decide +kernel
theorem dX30_known_42 : decode cX30_known 42 = .ok (.istore 4, 2) := by decide +kernel
theorem dX30_known_44 : decode cX30_known 44 = .ok (.aload_n 0, 1) := by decide +kernel
theorem dX30_known_45 : decode cX30_known 45 = .ok (.aload_n 0, 1) := by decide +kernel
theorem dX30_known_46 : decode cX30_known 46 = .ok (.getfield 29, 3) := by decide +kernel
theorem dX30_known_49 : decode cX30_known 49 = .ok (.iload 4, 2) := by decide +kernel
theorem dX30_known_51 : decode cX30_known 51 = .ok (.aaload, 1) := by decide +kernel
theorem dX30_known_52 : decode cX30_known 52 = .ok (.iload_n 1, 1) := by decide +kernel
theorem dX30_known_53 : decode cX30_known 53 = .ok (.iload_n 2, 1) := by decide +kernel
theorem dX30_known_54 : decode cX30_known 54 = .ok (.invokevirtual 213, 3) := by decide +kernel
theorem dX30_known_57 : decode cX30_known 57 = .ok (.ifCond .ne 16, 3) := by decide +kernel
theorem dX30_known_60 : decode cX30_known 60 = .ok (.aload_n 0, 1) := by decide +kernel
theorem dX30_known_61 : decode cX30_known 61 = .ok (.getfield 29, 3) := by decide +kernel
theorem dX30_known_64 : decode cX30_known 64 = .ok (.iload 4, 2) := by decide +kernel
theorem dX30_known_66 : decode cX30_known 66 = .ok (.aload_n 0, 1) := by decide +kernel
theorem dX30_known_67 : decode cX30_known 67 = .ok (.iload_n 1, 1) := by decide +kernel
theorem dX30_known_68 : decode cX30_known 68 = .ok (.iload_n 2, 1) := by decide +kernel
theorem dX30_known_69 : decode cX30_known 69 = .ok (.invokevirtual 217, 3) := by decide +kernel
theorem dX30_known_72 : decode cX30_known 72 = .ok (.aastore, 1) := by decide +kernel
theorem dX30_known_73 : decode cX30_known 73 = .ok (.aload_n 0, 1) := by decide +kernel
theorem dX30_known_74 : decode cX30_known 74 = .ok (.getfield 29, 3) := by decide +kernel
theorem dX30_known_77 : decode cX30_known 77 = .ok (.iload 4, 2) := by decide +kernel
theorem dX30_known_79 : decode cX30_known 79 = .ok (.aaload, 1) := by decide +kernel
theorem dX30_known_80 : decode cX30_known 80 = .ok (.areturn, 1) := by decide +kernel
theorem dX30_isLate_0 : decode cX30_isLate 0 = .ok (.aload_n 1, 1) := by decide +kernel
theorem dX30_isLate_1 : decode cX30_isLate 1 = .ok (.ifnull 13, 3) := by decide +kernel
theorem dX30_isLate_4 : decode cX30_isLate 4 = .ok (.aload_n 1, 1) := by decide +kernel
theorem dX30_isLate_5 : decode cX30_isLate 5 = .ok (.invokevirtual 220, 3) := by decide +kernel
theorem dX30_isLate_8 : decode cX30_isLate 8 = .ok (.iload_n 3, 1) := by decide +kernel
theorem dX30_isLate_9 : decode cX30_isLate 9 = .ok (.iload_n 2, 1) := by decide +kernel
theorem dX30_isLate_10 : decode cX30_isLate 10 = .ok (.isub, 1) := by decide +kernel
theorem dX30_isLate_11 : decode cX30_isLate 11 = .ok (.if_icmp .eq 5, 3) := by decide +kernel
theorem dX30_isLate_14 : decode cX30_isLate 14 = .ok (.iconst 0, 1) := by decide +kernel
theorem dX30_isLate_15 : decode cX30_isLate 15 = .ok (.ireturn, 1) := by decide +kernel
theorem dX30_isLate_16 : decode cX30_isLate 16 = .ok (.iload_n 2, 1) := by decide +kernel
theorem dX30_isLate_17 : decode cX30_isLate 17 = .ok (.istore 4, 2) := by decide +kernel
theorem dX30_isLate_19 : decode cX30_isLate 19 = .ok (.iload 4, 2) := by decide +kernel
theorem dX30_isLate_21 : decode cX30_isLate 21 = .ok (.iload_n 3, 1) := by decide +kernel
theorem dX30_isLate_22 : decode cX30_isLate 22 = .ok (.if_icmp .ge 30, 3) := by decide +kernel
theorem dX30_isLate_25 : decode cX30_isLate 25 = .ok (.aload_n 1, 1) := by decide +kernel
theorem dX30_isLate_26 : decode cX30_isLate 26 = .ok (.iload 4, 2) := by decide +kernel
theorem dX30_isLate_28 : decode cX30_isLate 28 = .ok (.iload_n 2, 1) := by decide +kernel
theorem dX30_isLate_29 : decode cX30_isLate 29 = .ok (.isub, 1) := by decide +kernel
theorem dX30_isLate_30 : decode cX30_isLate 30 = .ok (.invokevirtual 224, 3) := by decide +kernel
theorem dX30_isLate_33 : decode cX30_isLate 33 = .ok (.aload_n 0, 1) := by decide +kernel
theorem dX30_isLate_34 : decode cX30_isLate 34 = .ok (.getfield 9, 3) := by decide +kernel
theorem dX30_isLate_37 : decode cX30_isLate 37 = .ok (.iload 4, 2) := by decide +kernel
theorem dX30_isLate_39 : decode cX30_isLate 39 = .ok (.baload, 1) := by decide +kernel
theorem dX30_isLate_40 : decode cX30_isLate 40 = .ok (.i2c, 1) := by decide +kernel
theorem dX30_isLate_41 : decode cX30_isLate 41 = .ok (.if_icmp .eq 5, 3) := by decide +kernel
theorem dX30_isLate_44 : decode cX30_isLate 44 = .ok (.iconst 0, 1) := by decide +kernel
theorem dX30_isLate_45 : decode cX30_isLate 45 = .ok (.ireturn, 1) := by decide +kernel
theorem dX30_isLate_46 : decode cX30_isLate 46 = .ok (.iinc 4 1, 3) := by decide +kernel
theorem dX30_isLate_49 : decode cX30_isLate 49 = .ok (.goto (-30), 3) := by decide +kernel
theorem dX30_isLate_52 : decode cX30_isLate 52 = .ok (.iconst 1, 1) := by decide +kernel
theorem dX30_isLate_53 : decode cX30_isLate 53 = .ok (.ireturn, 1) := by decide +kernel
theorem dX30_word_0 : decode cX30_word 0 = .ok (.aload_n 0, 1) := by decide +kernel
theorem dX30_word_1 : decode cX30_word 1 = .ok (.getfield 37, 3) := by decide +kernel
theorem dX30_word_4 : decode cX30_word 4 = .ok (.iconst 0, 1) := by decide +kernel
theorem dX30_word_5 : decode cX30_word 5 = .ok (.invokevirtual 228, 3) := by decide +kernel
theorem dX30_word_8 : decode cX30_word 8 = .ok (.iload_n 1, 1) := by decide +kernel
theorem dX30_word_9 : decode cX30_word 9 = .ok (.istore_n 3, 1) := by decide +kernel
theorem dX30_word_10 : decode cX30_word 10 = .ok (.iload_n 3, 1) := by decide +kernel
theorem dX30_word_11 : decode cX30_word 11 = .ok (.iload_n 2, 1) := by decide +kernel
theorem dX30_word_12 : decode cX30_word 12 = .ok (.if_icmp .ge 24, 3) := by decide +kernel
theorem dX30_word_15 : decode cX30_word 15 = .ok (.aload_n 0, 1) := by decide +kernel
theorem dX30_word_16 : decode cX30_word 16 = .ok (.getfield 37, 3) := by decide +kernel
theorem dX30_word_19 : decode cX30_word 19 = .ok (.aload_n 0, 1) := by decide +kernel
theorem dX30_word_20 : decode cX30_word 20 = .ok (.getfield 9, 3) := by decide +kernel
theorem dX30_word_23 : decode cX30_word 23 = .ok (.iload_n 3, 1) := by decide +kernel
theorem dX30_word_24 : decode cX30_word 24 = .ok (.baload, 1) := by decide +kernel
theorem dX30_word_25 : decode cX30_word 25 = .ok (.i2c, 1) := by decide +kernel
theorem dX30_word_26 : decode cX30_word 26 = .ok (.invokevirtual 231, 3) := by decide +kernel
theorem dX30_word_29 : decode cX30_word 29 = .ok (.pop, 1) := by decide +kernel
theorem dX30_word_30 : decode cX30_word 30 = .ok (.iinc 3 1, 3) := by decide +kernel
theorem dX30_word_33 : decode cX30_word 33 = .ok (.goto (-23), 3) := by decide +kernel
theorem dX30_word_36 : decode cX30_word 36 = .ok (.aload_n 0, 1) := by decide +kernel
theorem dX30_word_37 : decode cX30_word 37 = .ok (.getfield 37, 3) := by decide +kernel
theorem dX30_word_40 : decode cX30_word 40 = .ok (.invokevirtual 235, 3) := by decide +kernel
theorem dX30_word_43 : decode cX30_word 43 = .ok (.areturn, 1) := by decide +kernel
theorem dX30_readText_0 : decode cX30_readText 0 = .ok (.aload_n 0, 1) := by decide +kernel
theorem dX30_readText_1 : decode cX30_readText 1 = .ok (.invokevirtual 300, 3) := by decide +kernel
theorem dX30_readText_4 : decode cX30_readText 4 = .ok (.ifCond .ne 66, 3) := by decide +kernel
theorem dX30_readText_7 : decode cX30_readText 7 = .ok (.aload_n 0, 1) := by decide +kernel
theorem dX30_readText_8 : decode cX30_readText 8 = .ok (.getfield 13, 3) := by decide +kernel
theorem dX30_readText_11 : decode cX30_readText 11 = .ok (.aload_n 0, 1) := by decide +kernel
theorem dX30_readText_12 : decode cX30_readText 12 = .ok (.getfield 284, 3) := by decide +kernel
theorem dX30_readText_15 : decode cX30_readText 15 = .ok (.iaload, 1) := by decide +kernel
theorem dX30_readText_16 : decode cX30_readText 16 = .ok (.ifCond .eq 54, 3) := by decide +kernel
theorem dX30_readText_19 : decode cX30_readText 19 = .ok (.aload_n 0, 1) := by decide +kernel
theorem dX30_readText_20 : decode cX30_readText 20 = .ok (.ldc_w 333, 3) := by decide +kernel
theorem dX30_readText_23 : decode cX30_readText 23 = .ok (.invokevirtual 335, 3) := by decide +kernel
theorem dX30_readText_26 : decode cX30_readText 26 = .ok (.ifCond .ne 13, 3) := by decide +kernel
theorem dX30_readText_29 : decode cX30_readText 29 = .ok (.aload_n 0, 1) := by decide +kernel
theorem dX30_readText_30 : decode cX30_readText 30 = .ok (.ldc_w 338, 3) := by decide +kernel
theorem dX30_readText_33 : decode cX30_readText 33 = .ok (.invokevirtual 335, 3) := by decide +kernel
theorem dX30_readText_36 : decode cX30_readText 36 = .ok (.ifCond .eq 10, 3) := by decide +kernel
theorem dX30_readText_39 : decode cX30_readText 39 = .ok (.aload_n 0, 1) := by decide +kernel
theorem dX30_readText_40 : decode cX30_readText 40 = .ok (.invokevirtual 340, 3) := by decide +kernel
theorem dX30_readText_43 : decode cX30_readText 43 = .ok (.goto (-43), 3) := by decide +kernel
theorem dX30_readText_46 : decode cX30_readText 46 = .ok (.aload_n 0, 1) := by decide +kernel
theorem dX30_readText_47 : decode cX30_readText 47 = .ok (.ldc_w 343, 3) := by decide +kernel
theorem dX30_readText_50 : decode cX30_readText 50 = .ok (.invokevirtual 335, 3) := by decide +kernel
theorem dX30_readText_53 : decode cX30_readText 53 = .ok (.ifCond .eq 10, 3) := by decide +kernel
theorem dX30_readText_56 : decode cX30_readText 56 = .ok (.aload_n 0, 1) := by decide +kernel
theorem dX30_readText_57 : decode cX30_readText 57 = .ok (.invokevirtual 345, 3) := by decide +kernel
theorem dX30_readText_60 : decode cX30_readText 60 = .ok (.goto (-60), 3) := by decide +kernel
theorem dX30_readText_63 : decode cX30_readText 63 = .ok (.aload_n 0, 1) := by decide +kernel
theorem dX30_readText_64 : decode cX30_readText 64 = .ok (.invokevirtual 310, 3) := by decide +kernel
theorem dX30_readText_67 : decode cX30_readText 67 = .ok (.goto (-67), 3) := by decide +kernel
theorem dX30_readText_70 : decode cX30_readText 70 = .ok (.return_, 1) := by decide +kernel
theorem dX30_isOver_0 : decode cX30_isOver 0 = .ok (.aload_n 0, 1) := by decide +kernel
theorem dX30_isOver_1 : decode cX30_isOver 1 = .ok (.getfield 291, 3) := by decide +kernel
theorem dX30_isOver_4 : decode cX30_isOver 4 = .ok (.iconst 1, 1) := by decide +kernel
theorem dX30_isOver_5 : decode cX30_isOver 5 = .ok (.if_icmp .ne 7, 3) := by decide +kernel
theorem dX30_isOver_8 : decode cX30_isOver 8 = .ok (.iconst 1, 1) := by decide +kernel
theorem dX30_isOver_9 : decode cX30_isOver 9 = .ok (.goto 4, 3) := by decide +kernel
theorem dX30_isOver_12 : decode cX30_isOver 12 = .ok (.iconst 0, 1) := by decide +kernel
theorem dX30_isOver_13 : decode cX30_isOver 13 = .ok (.ireturn, 1) := by decide +kernel
theorem dX30_ruleItems_0 : decode cX30_ruleItems 0 = .ok (.iconst 0, 1) := by decide +kernel
theorem dX30_ruleItems_1 : decode cX30_ruleItems 1 = .ok (.istore_n 1, 1) := by decide +kernel
theorem dX30_ruleItems_2 : decode cX30_ruleItems 2 = .ok (.iload_n 1, 1) := by decide +kernel
theorem dX30_ruleItems_3 : decode cX30_ruleItems 3 = .ok (.aload_n 0, 1) := by decide +kernel
theorem dX30_ruleItems_4 : decode cX30_ruleItems 4 = .ok (.getfield 395, 3) := by decide +kernel
theorem dX30_ruleItems_7 : decode cX30_ruleItems 7 = .ok (.getfield 399, 3) := by decide +kernel
theorem dX30_ruleItems_10 : decode cX30_ruleItems 10 = .ok (.invokevirtual 404, 3) := by decide +kernel
theorem dX30_ruleItems_13 : decode cX30_ruleItems 13 = .ok (.if_icmp .ge 232, 3) := by decide +kernel
theorem dX30_ruleItems_16 : decode cX30_ruleItems 16 = .ok (.aload_n 0, 1) := by decide +kernel
theorem dX30_ruleItems_17 : decode cX30_ruleItems 17 = .ok (.getfield 395, 3) := by decide +kernel
theorem dX30_ruleItems_20 : decode cX30_ruleItems 20 = .ok (.getfield 399, 3) := by decide +kernel
theorem dX30_ruleItems_23 : decode cX30_ruleItems 23 = .ok (.iload_n 1, 1) := by decide +kernel
theorem dX30_ruleItems_24 : decode cX30_ruleItems 24 = .ok (.invokevirtual 627, 3) := by decide +kernel
theorem dX30_ruleItems_27 : decode cX30_ruleItems 27 = .ok (.checkcast 348, 3) := by decide +kernel
theorem dX30_ruleItems_30 : decode cX30_ruleItems 30 = .ok (.astore_n 2, 1) := by decide +kernel
theorem dX30_ruleItems_31 : decode cX30_ruleItems 31 = .ok (.iload_n 1, 1) := by decide +kernel
theorem dX30_ruleItems_32 : decode cX30_ruleItems 32 = .ok (.bipush 24, 2) := by decide +kernel
theorem dX30_ruleItems_34 : decode cX30_ruleItems 34 = .ok (.if_icmp .lt 11, 3) := by decide +kernel
theorem dX30_ruleItems_37 : decode cX30_ruleItems 37 = .ok (.aload_n 0, 1) := by decide +kernel
theorem dX30_ruleItems_38 : decode cX30_ruleItems 38 = .ok (.aload_n 2, 1) := by decide +kernel
theorem dX30_ruleItems_39 : decode cX30_ruleItems 39 = .ok (.getfield 351, 3) := by decide +kernel
theorem dX30_ruleItems_42 : decode cX30_ruleItems 42 = .ok (.invokevirtual 746, 3) := by decide +kernel
theorem dX30_ruleItems_45 : decode cX30_ruleItems 45 = .ok (.aload_n 0, 1) := by decide +kernel
theorem dX30_ruleItems_46 : decode cX30_ruleItems 46 = .ok (.aload_n 2, 1) := by decide +kernel
theorem dX30_ruleItems_47 : decode cX30_ruleItems 47 = .ok (.getfield 364, 3) := by decide +kernel
theorem dX30_ruleItems_50 : decode cX30_ruleItems 50 = .ok (.invokevirtual 742, 3) := by decide +kernel
theorem dX30_ruleItems_53 : decode cX30_ruleItems 53 = .ok (.aload_n 2, 1) := by decide +kernel
theorem dX30_ruleItems_54 : decode cX30_ruleItems 54 = .ok (.if_acmp .eq 11, 3) := by decide +kernel
theorem dX30_ruleItems_57 : decode cX30_ruleItems 57 = .ok (.aload_n 0, 1) := by decide +kernel
theorem dX30_ruleItems_58 : decode cX30_ruleItems 58 = .ok (.aload_n 2, 1) := by decide +kernel
theorem dX30_ruleItems_59 : decode cX30_ruleItems 59 = .ok (.getfield 358, 3) := by decide +kernel
theorem dX30_ruleItems_62 : decode cX30_ruleItems 62 = .ok (.invokevirtual 746, 3) := by decide +kernel
theorem dX30_ruleItems_65 : decode cX30_ruleItems 65 = .ok (.iconst 0, 1) := by decide +kernel
theorem dX30_ruleItems_66 : decode cX30_ruleItems 66 = .ok (.istore_n 3, 1) := by decide +kernel
theorem dX30_ruleItems_67 : decode cX30_ruleItems 67 = .ok (.iload_n 3, 1) := by decide +kernel
theorem dX30_ruleItems_68 : decode cX30_ruleItems 68 = .ok (.aload_n 2, 1) := by decide +kernel
theorem dX30_ruleItems_69 : decode cX30_ruleItems 69 = .ok (.getfield 383, 3) := by decide +kernel
theorem dX30_ruleItems_72 : decode cX30_ruleItems 72 = .ok (.invokevirtual 404, 3) := by decide +kernel
theorem dX30_ruleItems_75 : decode cX30_ruleItems 75 = .ok (.if_icmp .ge 77, 3) := by decide +kernel
theorem dX30_ruleItems_78 : decode cX30_ruleItems 78 = .ok (.aload_n 2, 1) := by decide +kernel
theorem dX30_ruleItems_79 : decode cX30_ruleItems 79 = .ok (.getfield 383, 3) := by decide +kernel
theorem dX30_ruleItems_82 : decode cX30_ruleItems 82 = .ok (.iload_n 3, 1) := by decide +kernel
theorem dX30_ruleItems_83 : decode cX30_ruleItems 83 = .ok (.invokevirtual 627, 3) := by decide +kernel
theorem dX30_ruleItems_86 : decode cX30_ruleItems 86 = .ok (.checkcast 441, 3) := by decide +kernel
theorem dX30_ruleItems_89 : decode cX30_ruleItems 89 = .ok (.astore 4, 2) := by decide +kernel
theorem dX30_ruleItems_91 : decode cX30_ruleItems 91 = .ok (.iload_n 3, 1) := by decide +kernel
theorem dX30_ruleItems_92 : decode cX30_ruleItems 92 = .ok (.bipush 10, 2) := by decide +kernel
theorem dX30_ruleItems_94 : decode cX30_ruleItems 94 = .ok (.if_icmp .lt 12, 3) := by decide +kernel
theorem dX30_ruleItems_97 : decode cX30_ruleItems 97 = .ok (.aload_n 0, 1) := by decide +kernel
theorem dX30_ruleItems_98 : decode cX30_ruleItems 98 = .ok (.aload 4, 2) := by decide +kernel
theorem dX30_ruleItems_100 : decode cX30_ruleItems 100 = .ok (.getfield 444, 3) := by decide +kernel
theorem dX30_ruleItems_103 : decode cX30_ruleItems 103 = .ok (.invokevirtual 746, 3) := by decide +kernel
theorem dX30_ruleItems_106 : decode cX30_ruleItems 106 = .ok (.aload_n 2, 1) := by decide +kernel
theorem dX30_ruleItems_107 : decode cX30_ruleItems 107 = .ok (.getfield 383, 3) := by decide +kernel
theorem dX30_ruleItems_110 : decode cX30_ruleItems 110 = .ok (.aload 4, 2) := by decide +kernel
theorem dX30_ruleItems_112 : decode cX30_ruleItems 112 = .ok (.getfield 445, 3) := by decide +kernel
theorem dX30_ruleItems_115 : decode cX30_ruleItems 115 = .ok (.invokestatic 756, 3) := by decide +kernel
theorem dX30_ruleItems_118 : decode cX30_ruleItems 118 = .ok (.iload_n 3, 1) := by decide +kernel
theorem dX30_ruleItems_119 : decode cX30_ruleItems 119 = .ok (.if_icmp .eq 12, 3) := by decide +kernel
theorem dX30_ruleItems_122 : decode cX30_ruleItems 122 = .ok (.aload_n 0, 1) := by decide +kernel
theorem dX30_ruleItems_123 : decode cX30_ruleItems 123 = .ok (.aload 4, 2) := by decide +kernel
theorem dX30_ruleItems_125 : decode cX30_ruleItems 125 = .ok (.getfield 444, 3) := by decide +kernel
theorem dX30_ruleItems_128 : decode cX30_ruleItems 128 = .ok (.invokevirtual 746, 3) := by decide +kernel
theorem dX30_ruleItems_131 : decode cX30_ruleItems 131 = .ok (.aload 4, 2) := by decide +kernel
theorem dX30_ruleItems_133 : decode cX30_ruleItems 133 = .ok (.aload_n 0, 1) := by decide +kernel
theorem dX30_ruleItems_134 : decode cX30_ruleItems 134 = .ok (.aload 4, 2) := by decide +kernel
theorem dX30_ruleItems_136 : decode cX30_ruleItems 136 = .ok (.getfield 448, 3) := by decide +kernel
theorem dX30_ruleItems_139 : decode cX30_ruleItems 139 = .ok (.iconst 0, 1) := by decide +kernel
theorem dX30_ruleItems_140 : decode cX30_ruleItems 140 = .ok (.invokevirtual 752, 3) := by decide +kernel
theorem dX30_ruleItems_143 : decode cX30_ruleItems 143 = .ok (.putfield 760, 3) := by decide +kernel
theorem dX30_ruleItems_146 : decode cX30_ruleItems 146 = .ok (.iinc 3 1, 3) := by decide +kernel
theorem dX30_ruleItems_149 : decode cX30_ruleItems 149 = .ok (.goto (-82), 3) := by decide +kernel
theorem dX30_ruleItems_152 : decode cX30_ruleItems 152 = .ok (.iconst 0, 1) := by decide +kernel
theorem dX30_ruleItems_153 : decode cX30_ruleItems 153 = .ok (.istore_n 3, 1) := by decide +kernel
theorem dX30_ruleItems_154 : decode cX30_ruleItems 154 = .ok (.iload_n 3, 1) := by decide +kernel
theorem dX30_ruleItems_155 : decode cX30_ruleItems 155 = .ok (.aload_n 2, 1) := by decide +kernel
theorem dX30_ruleItems_156 : decode cX30_ruleItems 156 = .ok (.getfield 418, 3) := by decide +kernel
theorem dX30_ruleItems_159 : decode cX30_ruleItems 159 = .ok (.invokevirtual 404, 3) := by decide +kernel
theorem dX30_ruleItems_162 : decode cX30_ruleItems 162 = .ok (.if_icmp .ge 15, 3) := by decide +kernel
theorem dX30_ruleItems_165 : decode cX30_ruleItems 165 = .ok (.aload_n 0, 1) := by decide +kernel
theorem dX30_ruleItems_166 : decode cX30_ruleItems 166 = .ok (.aload_n 2, 1) := by decide +kernel
theorem dX30_ruleItems_167 : decode cX30_ruleItems 167 = .ok (.iload_n 3, 1) := by decide +kernel
theorem dX30_ruleItems_168 : decode cX30_ruleItems 168 = .ok (.invokevirtual 762, 3) := by decide +kernel
theorem dX30_ruleItems_171 : decode cX30_ruleItems 171 = .ok (.iinc 3 1, 3) := by decide +kernel
theorem dX30_ruleItems_174 : decode cX30_ruleItems 174 = .ok (.goto (-20), 3) := by decide +kernel
theorem dX30_ruleItems_177 : decode cX30_ruleItems 177 = .ok (.aload_n 2, 1) := by decide +kernel
theorem dX30_ruleItems_178 : decode cX30_ruleItems 178 = .ok (.getfield 369, 3) := by decide +kernel
theorem dX30_ruleItems_181 : decode cX30_ruleItems 181 = .ok (.ifCond .eq 58, 3) := by decide +kernel
theorem dX30_ruleItems_184 : decode cX30_ruleItems 184 = .ok (.aload_n 2, 1) := by decide +kernel
theorem dX30_ruleItems_185 : decode cX30_ruleItems 185 = .ok (.getfield 383, 3) := by decide +kernel
theorem dX30_ruleItems_188 : decode cX30_ruleItems 188 = .ok (.invokevirtual 766, 3) := by decide +kernel
theorem dX30_ruleItems_191 : decode cX30_ruleItems 191 = .ok (.ifCond .ne 40, 3) := by decide +kernel
theorem dX30_ruleItems_194 : decode cX30_ruleItems 194 = .ok (.aload_n 2, 1) := by decide +kernel
theorem dX30_ruleItems_195 : decode cX30_ruleItems 195 = .ok (.getfield 383, 3) := by decide +kernel
theorem dX30_ruleItems_198 : decode cX30_ruleItems 198 = .ok (.iconst 0, 1) := by decide +kernel
theorem dX30_ruleItems_199 : decode cX30_ruleItems 199 = .ok (.invokevirtual 627, 3) := by decide +kernel
theorem dX30_ruleItems_202 : decode cX30_ruleItems 202 = .ok (.checkcast 441, 3) := by decide +kernel
theorem dX30_ruleItems_205 : decode cX30_ruleItems 205 = .ok (.getfield 760, 3) := by decide +kernel
theorem dX30_ruleItems_208 : decode cX30_ruleItems 208 = .ok (.ifnull 31, 3) := by decide +kernel
theorem dX30_ruleItems_211 : decode cX30_ruleItems 211 = .ok (.aload_n 2, 1) := by decide +kernel
theorem dX30_ruleItems_212 : decode cX30_ruleItems 212 = .ok (.getfield 383, 3) := by decide +kernel
theorem dX30_ruleItems_215 : decode cX30_ruleItems 215 = .ok (.iconst 0, 1) := by decide +kernel
theorem dX30_ruleItems_216 : decode cX30_ruleItems 216 = .ok (.invokevirtual 627, 3) := by decide +kernel
theorem dX30_ruleItems_219 : decode cX30_ruleItems 219 = .ok (.checkcast 441, 3) := by decide +kernel
theorem dX30_ruleItems_222 : decode cX30_ruleItems 222 = .ok (.getfield 760, 3) := by decide +kernel
theorem dX30_ruleItems_225 : decode cX30_ruleItems 225 = .ok (.getfield 769, 3) := by decide +kernel
theorem dX30_ruleItems_228 : decode cX30_ruleItems 228 = .ok (.ifCond .eq 11, 3) := by decide +kernel
theorem dX30_ruleItems_231 : decode cX30_ruleItems 231 = .ok (.aload_n 0, 1) := by decide +kernel
theorem dX30_ruleItems_232 : decode cX30_ruleItems 232 = .ok (.aload_n 2, 1) := by decide +kernel
theorem dX30_ruleItems_233 : decode cX30_ruleItems 233 = .ok (.getfield 358, 3) := by decide +kernel
theorem dX30_ruleItems_236 : decode cX30_ruleItems 236 = .ok (.invokevirtual 746, 3) := by decide +kernel
theorem dX30_ruleItems_239 : decode cX30_ruleItems 239 = .ok (.iinc 1 1, 3) := by decide +kernel
theorem dX30_ruleItems_242 : decode cX30_ruleItems 242 = .ok (.goto (-240), 3) := by decide +kernel
theorem dX30_ruleItems_245 : decode cX30_ruleItems 245 = .ok (.iconst 0, 1) := by decide +kernel
theorem dX30_ruleItems_246 : decode cX30_ruleItems 246 = .ok (.istore_n 1, 1) := by decide +kernel
theorem dX30_ruleItems_247 : decode cX30_ruleItems 247 = .ok (.iload_n 1, 1) := by decide +kernel
theorem dX30_ruleItems_248 : decode cX30_ruleItems 248 = .ok (.aload_n 0, 1) := by decide +kernel
theorem dX30_ruleItems_249 : decode cX30_ruleItems 249 = .ok (.getfield 395, 3) := by decide +kernel
theorem dX30_ruleItems_252 : decode cX30_ruleItems 252 = .ok (.getfield 399, 3) := by decide +kernel
theorem dX30_ruleItems_255 : decode cX30_ruleItems 255 = .ok (.invokevirtual 404, 3) := by decide +kernel
theorem dX30_ruleItems_258 : decode cX30_ruleItems 258 = .ok (.if_icmp .ge 62, 3) := by decide +kernel
theorem dX30_ruleItems_261 : decode cX30_ruleItems 261 = .ok (.aload_n 0, 1) := by decide +kernel
theorem dX30_ruleItems_262 : decode cX30_ruleItems 262 = .ok (.getfield 395, 3) := by decide +kernel
theorem dX30_ruleItems_265 : decode cX30_ruleItems 265 = .ok (.getfield 399, 3) := by decide +kernel
theorem dX30_ruleItems_268 : decode cX30_ruleItems 268 = .ok (.iload_n 1, 1) := by decide +kernel
theorem dX30_ruleItems_269 : decode cX30_ruleItems 269 = .ok (.invokevirtual 627, 3) := by decide +kernel
theorem dX30_ruleItems_272 : decode cX30_ruleItems 272 = .ok (.checkcast 348, 3) := by decide +kernel
theorem dX30_ruleItems_275 : decode cX30_ruleItems 275 = .ok (.astore_n 2, 1) := by decide +kernel
theorem dX30_ruleItems_276 : decode cX30_ruleItems 276 = .ok (.aload_n 0, 1) := by decide +kernel
theorem dX30_ruleItems_277 : decode cX30_ruleItems 277 = .ok (.aload_n 2, 1) := by decide +kernel
theorem dX30_ruleItems_278 : decode cX30_ruleItems 278 = .ok (.invokevirtual 770, 3) := by decide +kernel
theorem dX30_ruleItems_281 : decode cX30_ruleItems 281 = .ok (.aload_n 2, 1) := by decide +kernel
theorem dX30_ruleItems_282 : decode cX30_ruleItems 282 = .ok (.getfield 773, 3) := by decide +kernel
theorem dX30_ruleItems_285 : decode cX30_ruleItems 285 = .ok (.ifCond .ne 21, 3) := by decide +kernel
theorem dX30_ruleItems_288 : decode cX30_ruleItems 288 = .ok (.aload_n 2, 1) := by decide +kernel
theorem dX30_ruleItems_289 : decode cX30_ruleItems 289 = .ok (.getfield 776, 3) := by decide +kernel
theorem dX30_ruleItems_292 : decode cX30_ruleItems 292 = .ok (.bipush 8, 2) := by decide +kernel
theorem dX30_ruleItems_294 : decode cX30_ruleItems 294 = .ok (.if_icmp .gt 12, 3) := by decide +kernel
theorem dX30_ruleItems_297 : decode cX30_ruleItems 297 = .ok (.aload_n 2, 1) := by decide +kernel
theorem dX30_ruleItems_298 : decode cX30_ruleItems 298 = .ok (.getfield 778, 3) := by decide +kernel
theorem dX30_ruleItems_301 : decode cX30_ruleItems 301 = .ok (.bipush 16, 2) := by decide +kernel
theorem dX30_ruleItems_303 : decode cX30_ruleItems 303 = .ok (.if_icmp .le 11, 3) := by decide +kernel
theorem dX30_ruleItems_306 : decode cX30_ruleItems 306 = .ok (.aload_n 0, 1) := by decide +kernel
theorem dX30_ruleItems_307 : decode cX30_ruleItems 307 = .ok (.aload_n 2, 1) := by decide +kernel
theorem dX30_ruleItems_308 : decode cX30_ruleItems 308 = .ok (.getfield 358, 3) := by decide +kernel
theorem dX30_ruleItems_311 : decode cX30_ruleItems 311 = .ok (.invokevirtual 746, 3) := by decide +kernel
theorem dX30_ruleItems_314 : decode cX30_ruleItems 314 = .ok (.iinc 1 1, 3) := by decide +kernel
theorem dX30_ruleItems_317 : decode cX30_ruleItems 317 = .ok (.goto (-70), 3) := by decide +kernel
theorem dX30_ruleItems_320 : decode cX30_ruleItems 320 = .ok (.return_, 1) := by decide +kernel
theorem dX30_ruleFns_0 : decode cX30_ruleFns 0 = .ok (.iconst 0, 1) := by decide +kernel
theorem dX30_ruleFns_1 : decode cX30_ruleFns 1 = .ok (.istore_n 1, 1) := by decide +kernel
theorem dX30_ruleFns_2 : decode cX30_ruleFns 2 = .ok (.iload_n 1, 1) := by decide +kernel
theorem dX30_ruleFns_3 : decode cX30_ruleFns 3 = .ok (.aload_n 0, 1) := by decide +kernel
theorem dX30_ruleFns_4 : decode cX30_ruleFns 4 = .ok (.getfield 395, 3) := by decide +kernel
theorem dX30_ruleFns_7 : decode cX30_ruleFns 7 = .ok (.getfield 501, 3) := by decide +kernel
theorem dX30_ruleFns_10 : decode cX30_ruleFns 10 = .ok (.invokevirtual 404, 3) := by decide +kernel
theorem dX30_ruleFns_13 : decode cX30_ruleFns 13 = .ok (.if_icmp .ge 170, 3) := by decide +kernel
theorem dX30_ruleFns_16 : decode cX30_ruleFns 16 = .ok (.aload_n 0, 1) := by decide +kernel
theorem dX30_ruleFns_17 : decode cX30_ruleFns 17 = .ok (.getfield 395, 3) := by decide +kernel
theorem dX30_ruleFns_20 : decode cX30_ruleFns 20 = .ok (.getfield 501, 3) := by decide +kernel
theorem dX30_ruleFns_23 : decode cX30_ruleFns 23 = .ok (.iload_n 1, 1) := by decide +kernel
theorem dX30_ruleFns_24 : decode cX30_ruleFns 24 = .ok (.invokevirtual 627, 3) := by decide +kernel
theorem dX30_ruleFns_27 : decode cX30_ruleFns 27 = .ok (.checkcast 167, 3) := by decide +kernel
theorem dX30_ruleFns_30 : decode cX30_ruleFns 30 = .ok (.astore_n 2, 1) := by decide +kernel
theorem dX30_ruleFns_31 : decode cX30_ruleFns 31 = .ok (.iload_n 1, 1) := by decide +kernel
theorem dX30_ruleFns_32 : decode cX30_ruleFns 32 = .ok (.bipush 30, 2) := by decide +kernel
theorem dX30_ruleFns_34 : decode cX30_ruleFns 34 = .ok (.if_icmp .lt 11, 3) := by decide +kernel
theorem dX30_ruleFns_37 : decode cX30_ruleFns 37 = .ok (.aload_n 0, 1) := by decide +kernel
theorem dX30_ruleFns_38 : decode cX30_ruleFns 38 = .ok (.aload_n 2, 1) := by decide +kernel
theorem dX30_ruleFns_39 : decode cX30_ruleFns 39 = .ok (.getfield 473, 3) := by decide +kernel
theorem dX30_ruleFns_42 : decode cX30_ruleFns 42 = .ok (.invokevirtual 746, 3) := by decide +kernel
theorem dX30_ruleFns_45 : decode cX30_ruleFns 45 = .ok (.aload_n 0, 1) := by decide +kernel
theorem dX30_ruleFns_46 : decode cX30_ruleFns 46 = .ok (.aload_n 2, 1) := by decide +kernel
theorem dX30_ruleFns_47 : decode cX30_ruleFns 47 = .ok (.getfield 475, 3) := by decide +kernel
theorem dX30_ruleFns_50 : decode cX30_ruleFns 50 = .ok (.invokevirtual 805, 3) := by decide +kernel
theorem dX30_ruleFns_53 : decode cX30_ruleFns 53 = .ok (.aload_n 2, 1) := by decide +kernel
theorem dX30_ruleFns_54 : decode cX30_ruleFns 54 = .ok (.if_acmp .eq 11, 3) := by decide +kernel
theorem dX30_ruleFns_57 : decode cX30_ruleFns 57 = .ok (.aload_n 0, 1) := by decide +kernel
theorem dX30_ruleFns_58 : decode cX30_ruleFns 58 = .ok (.aload_n 2, 1) := by decide +kernel
theorem dX30_ruleFns_59 : decode cX30_ruleFns 59 = .ok (.getfield 474, 3) := by decide +kernel
theorem dX30_ruleFns_62 : decode cX30_ruleFns 62 = .ok (.invokevirtual 746, 3) := by decide +kernel
theorem dX30_ruleFns_65 : decode cX30_ruleFns 65 = .ok (.iconst 0, 1) := by decide +kernel
theorem dX30_ruleFns_66 : decode cX30_ruleFns 66 = .ok (.istore_n 3, 1) := by decide +kernel
theorem dX30_ruleFns_67 : decode cX30_ruleFns 67 = .ok (.iload_n 3, 1) := by decide +kernel
theorem dX30_ruleFns_68 : decode cX30_ruleFns 68 = .ok (.aload_n 2, 1) := by decide +kernel
theorem dX30_ruleFns_69 : decode cX30_ruleFns 69 = .ok (.getfield 476, 3) := by decide +kernel
theorem dX30_ruleFns_72 : decode cX30_ruleFns 72 = .ok (.invokevirtual 404, 3) := by decide +kernel
theorem dX30_ruleFns_75 : decode cX30_ruleFns 75 = .ok (.if_icmp .ge 77, 3) := by decide +kernel
theorem dX30_ruleFns_78 : decode cX30_ruleFns 78 = .ok (.aload_n 2, 1) := by decide +kernel
theorem dX30_ruleFns_79 : decode cX30_ruleFns 79 = .ok (.getfield 476, 3) := by decide +kernel
theorem dX30_ruleFns_82 : decode cX30_ruleFns 82 = .ok (.iload_n 3, 1) := by decide +kernel
theorem dX30_ruleFns_83 : decode cX30_ruleFns 83 = .ok (.invokevirtual 627, 3) := by decide +kernel
theorem dX30_ruleFns_86 : decode cX30_ruleFns 86 = .ok (.checkcast 441, 3) := by decide +kernel
theorem dX30_ruleFns_89 : decode cX30_ruleFns 89 = .ok (.astore 4, 2) := by decide +kernel
theorem dX30_ruleFns_91 : decode cX30_ruleFns 91 = .ok (.iload_n 3, 1) := by decide +kernel
theorem dX30_ruleFns_92 : decode cX30_ruleFns 92 = .ok (.bipush 8, 2) := by decide +kernel
theorem dX30_ruleFns_94 : decode cX30_ruleFns 94 = .ok (.if_icmp .lt 12, 3) := by decide +kernel
theorem dX30_ruleFns_97 : decode cX30_ruleFns 97 = .ok (.aload_n 0, 1) := by decide +kernel
theorem dX30_ruleFns_98 : decode cX30_ruleFns 98 = .ok (.aload 4, 2) := by decide +kernel
theorem dX30_ruleFns_100 : decode cX30_ruleFns 100 = .ok (.getfield 444, 3) := by decide +kernel
theorem dX30_ruleFns_103 : decode cX30_ruleFns 103 = .ok (.invokevirtual 746, 3) := by decide +kernel
theorem dX30_ruleFns_106 : decode cX30_ruleFns 106 = .ok (.aload_n 2, 1) := by decide +kernel
theorem dX30_ruleFns_107 : decode cX30_ruleFns 107 = .ok (.getfield 476, 3) := by decide +kernel
theorem dX30_ruleFns_110 : decode cX30_ruleFns 110 = .ok (.aload 4, 2) := by decide +kernel
theorem dX30_ruleFns_112 : decode cX30_ruleFns 112 = .ok (.getfield 445, 3) := by decide +kernel
theorem dX30_ruleFns_115 : decode cX30_ruleFns 115 = .ok (.invokestatic 756, 3) := by decide +kernel
theorem dX30_ruleFns_118 : decode cX30_ruleFns 118 = .ok (.iload_n 3, 1) := by decide +kernel
theorem dX30_ruleFns_119 : decode cX30_ruleFns 119 = .ok (.if_icmp .eq 12, 3) := by decide +kernel
theorem dX30_ruleFns_122 : decode cX30_ruleFns 122 = .ok (.aload_n 0, 1) := by decide +kernel
theorem dX30_ruleFns_123 : decode cX30_ruleFns 123 = .ok (.aload 4, 2) := by decide +kernel
theorem dX30_ruleFns_125 : decode cX30_ruleFns 125 = .ok (.getfield 444, 3) := by decide +kernel
theorem dX30_ruleFns_128 : decode cX30_ruleFns 128 = .ok (.invokevirtual 746, 3) := by decide +kernel
theorem dX30_ruleFns_131 : decode cX30_ruleFns 131 = .ok (.aload 4, 2) := by decide +kernel
theorem dX30_ruleFns_133 : decode cX30_ruleFns 133 = .ok (.aload_n 0, 1) := by decide +kernel
theorem dX30_ruleFns_134 : decode cX30_ruleFns 134 = .ok (.aload 4, 2) := by decide +kernel
theorem dX30_ruleFns_136 : decode cX30_ruleFns 136 = .ok (.getfield 448, 3) := by decide +kernel
theorem dX30_ruleFns_139 : decode cX30_ruleFns 139 = .ok (.iconst 1, 1) := by decide +kernel
theorem dX30_ruleFns_140 : decode cX30_ruleFns 140 = .ok (.invokevirtual 752, 3) := by decide +kernel
theorem dX30_ruleFns_143 : decode cX30_ruleFns 143 = .ok (.putfield 760, 3) := by decide +kernel
theorem dX30_ruleFns_146 : decode cX30_ruleFns 146 = .ok (.iinc 3 1, 3) := by decide +kernel
theorem dX30_ruleFns_149 : decode cX30_ruleFns 149 = .ok (.goto (-82), 3) := by decide +kernel
theorem dX30_ruleFns_152 : decode cX30_ruleFns 152 = .ok (.aload_n 2, 1) := by decide +kernel
theorem dX30_ruleFns_153 : decode cX30_ruleFns 153 = .ok (.getfield 479, 3) := by decide +kernel
theorem dX30_ruleFns_156 : decode cX30_ruleFns 156 = .ok (.ifnull 16, 3) := by decide +kernel
theorem dX30_ruleFns_159 : decode cX30_ruleFns 159 = .ok (.aload_n 2, 1) := by decide +kernel
theorem dX30_ruleFns_160 : decode cX30_ruleFns 160 = .ok (.aload_n 0, 1) := by decide +kernel
theorem dX30_ruleFns_161 : decode cX30_ruleFns 161 = .ok (.aload_n 2, 1) := by decide +kernel
theorem dX30_ruleFns_162 : decode cX30_ruleFns 162 = .ok (.getfield 479, 3) := by decide +kernel
theorem dX30_ruleFns_165 : decode cX30_ruleFns 165 = .ok (.iconst 1, 1) := by decide +kernel
theorem dX30_ruleFns_166 : decode cX30_ruleFns 166 = .ok (.invokevirtual 752, 3) := by decide +kernel
theorem dX30_ruleFns_169 : decode cX30_ruleFns 169 = .ok (.putfield 809, 3) := by decide +kernel
theorem dX30_ruleFns_172 : decode cX30_ruleFns 172 = .ok (.aload_n 0, 1) := by decide +kernel
theorem dX30_ruleFns_173 : decode cX30_ruleFns 173 = .ok (.aload_n 2, 1) := by decide +kernel
theorem dX30_ruleFns_174 : decode cX30_ruleFns 174 = .ok (.invokevirtual 812, 3) := by decide +kernel
theorem dX30_ruleFns_177 : decode cX30_ruleFns 177 = .ok (.iinc 1 1, 3) := by decide +kernel
theorem dX30_ruleFns_180 : decode cX30_ruleFns 180 = .ok (.goto (-178), 3) := by decide +kernel
theorem dX30_ruleFns_183 : decode cX30_ruleFns 183 = .ok (.aload_n 0, 1) := by decide +kernel
theorem dX30_ruleFns_184 : decode cX30_ruleFns 184 = .ok (.ldc_w 816, 3) := by decide +kernel
theorem dX30_ruleFns_187 : decode cX30_ruleFns 187 = .ok (.invokevirtual 805, 3) := by decide +kernel
theorem dX30_ruleFns_190 : decode cX30_ruleFns 190 = .ok (.astore_n 1, 1) := by decide +kernel
theorem dX30_ruleFns_191 : decode cX30_ruleFns 191 = .ok (.aload_n 1, 1) := by decide +kernel
theorem dX30_ruleFns_192 : decode cX30_ruleFns 192 = .ok (.ifnull 20, 3) := by decide +kernel
theorem dX30_ruleFns_195 : decode cX30_ruleFns 195 = .ok (.aload_n 1, 1) := by decide +kernel
theorem dX30_ruleFns_196 : decode cX30_ruleFns 196 = .ok (.getfield 476, 3) := by decide +kernel
theorem dX30_ruleFns_199 : decode cX30_ruleFns 199 = .ok (.invokevirtual 766, 3) := by decide +kernel
theorem dX30_ruleFns_202 : decode cX30_ruleFns 202 = .ok (.ifCond .eq 10, 3) := by decide +kernel
theorem dX30_ruleFns_205 : decode cX30_ruleFns 205 = .ok (.aload_n 1, 1) := by decide +kernel
theorem dX30_ruleFns_206 : decode cX30_ruleFns 206 = .ok (.getfield 479, 3) := by decide +kernel
theorem dX30_ruleFns_209 : decode cX30_ruleFns 209 = .ok (.ifnull 18, 3) := by decide +kernel
theorem dX30_ruleFns_212 : decode cX30_ruleFns 212 = .ok (.aload_n 0, 1) := by decide +kernel
theorem dX30_ruleFns_213 : decode cX30_ruleFns 213 = .ok (.aload_n 0, 1) := by decide +kernel
theorem dX30_ruleFns_214 : decode cX30_ruleFns 214 = .ok (.getfield 17, 3) := by decide +kernel
theorem dX30_ruleFns_217 : decode cX30_ruleFns 217 = .ok (.aload_n 0, 1) := by decide +kernel
theorem dX30_ruleFns_218 : decode cX30_ruleFns 218 = .ok (.getfield 201, 3) := by decide +kernel
theorem dX30_ruleFns_221 : decode cX30_ruleFns 221 = .ok (.iconst 1, 1) := by decide +kernel
theorem dX30_ruleFns_222 : decode cX30_ruleFns 222 = .ok (.isub, 1) := by decide +kernel
theorem dX30_ruleFns_223 : decode cX30_ruleFns 223 = .ok (.iaload, 1) := by decide +kernel
theorem dX30_ruleFns_224 : decode cX30_ruleFns 224 = .ok (.invokevirtual 746, 3) := by decide +kernel
theorem dX30_ruleFns_227 : decode cX30_ruleFns 227 = .ok (.iconst 0, 1) := by decide +kernel
theorem dX30_ruleFns_228 : decode cX30_ruleFns 228 = .ok (.istore_n 2, 1) := by decide +kernel
theorem dX30_ruleFns_229 : decode cX30_ruleFns 229 = .ok (.iload_n 2, 1) := by decide +kernel
theorem dX30_ruleFns_230 : decode cX30_ruleFns 230 = .ok (.aload_n 0, 1) := by decide +kernel
theorem dX30_ruleFns_231 : decode cX30_ruleFns 231 = .ok (.getfield 395, 3) := by decide +kernel
theorem dX30_ruleFns_234 : decode cX30_ruleFns 234 = .ok (.getfield 501, 3) := by decide +kernel
theorem dX30_ruleFns_237 : decode cX30_ruleFns 237 = .ok (.invokevirtual 404, 3) := by decide +kernel
theorem dX30_ruleFns_240 : decode cX30_ruleFns 240 = .ok (.if_icmp .ge 27, 3) := by decide +kernel
theorem dX30_ruleFns_243 : decode cX30_ruleFns 243 = .ok (.aload_n 0, 1) := by decide +kernel
theorem dX30_ruleFns_244 : decode cX30_ruleFns 244 = .ok (.aload_n 0, 1) := by decide +kernel
theorem dX30_ruleFns_245 : decode cX30_ruleFns 245 = .ok (.getfield 395, 3) := by decide +kernel
theorem dX30_ruleFns_248 : decode cX30_ruleFns 248 = .ok (.getfield 501, 3) := by decide +kernel
theorem dX30_ruleFns_251 : decode cX30_ruleFns 251 = .ok (.iload_n 2, 1) := by decide +kernel
theorem dX30_ruleFns_252 : decode cX30_ruleFns 252 = .ok (.invokevirtual 627, 3) := by decide +kernel
theorem dX30_ruleFns_255 : decode cX30_ruleFns 255 = .ok (.checkcast 167, 3) := by decide +kernel
theorem dX30_ruleFns_258 : decode cX30_ruleFns 258 = .ok (.invokevirtual 818, 3) := by decide +kernel
theorem dX30_ruleFns_261 : decode cX30_ruleFns 261 = .ok (.iinc 2 1, 3) := by decide +kernel
theorem dX30_ruleFns_264 : decode cX30_ruleFns 264 = .ok (.goto (-35), 3) := by decide +kernel
theorem dX30_ruleFns_267 : decode cX30_ruleFns 267 = .ok (.sipush 400, 3) := by decide +kernel
theorem dX30_ruleFns_270 : decode cX30_ruleFns 270 = .ok (.istore_n 2, 1) := by decide +kernel
theorem dX30_ruleFns_271 : decode cX30_ruleFns 271 = .ok (.iload_n 2, 1) := by decide +kernel
theorem dX30_ruleFns_272 : decode cX30_ruleFns 272 = .ok (.aload_n 0, 1) := by decide +kernel
theorem dX30_ruleFns_273 : decode cX30_ruleFns 273 = .ok (.getfield 395, 3) := by decide +kernel
theorem dX30_ruleFns_276 : decode cX30_ruleFns 276 = .ok (.getfield 724, 3) := by decide +kernel
theorem dX30_ruleFns_279 : decode cX30_ruleFns 279 = .ok (.invokevirtual 404, 3) := by decide +kernel
theorem dX30_ruleFns_282 : decode cX30_ruleFns 282 = .ok (.if_icmp .ge 30, 3) := by decide +kernel
theorem dX30_ruleFns_285 : decode cX30_ruleFns 285 = .ok (.aload_n 0, 1) := by decide +kernel
theorem dX30_ruleFns_286 : decode cX30_ruleFns 286 = .ok (.aload_n 0, 1) := by decide +kernel
theorem dX30_ruleFns_287 : decode cX30_ruleFns 287 = .ok (.getfield 395, 3) := by decide +kernel
theorem dX30_ruleFns_290 : decode cX30_ruleFns 290 = .ok (.getfield 724, 3) := by decide +kernel
theorem dX30_ruleFns_293 : decode cX30_ruleFns 293 = .ok (.iload_n 2, 1) := by decide +kernel
theorem dX30_ruleFns_294 : decode cX30_ruleFns 294 = .ok (.invokevirtual 627, 3) := by decide +kernel
theorem dX30_ruleFns_297 : decode cX30_ruleFns 297 = .ok (.checkcast 717, 3) := by decide +kernel
theorem dX30_ruleFns_300 : decode cX30_ruleFns 300 = .ok (.getfield 720, 3) := by decide +kernel
theorem dX30_ruleFns_303 : decode cX30_ruleFns 303 = .ok (.invokevirtual 746, 3) := by decide +kernel
theorem dX30_ruleFns_306 : decode cX30_ruleFns 306 = .ok (.iinc 2 1, 3) := by decide +kernel
theorem dX30_ruleFns_309 : decode cX30_ruleFns 309 = .ok (.goto (-38), 3) := by decide +kernel
theorem dX30_ruleFns_312 : decode cX30_ruleFns 312 = .ok (.return_, 1) := by decide +kernel
theorem dX30_fnOf_0 : decode cX30_fnOf 0 = .ok (.iconst 0, 1) := by decide +kernel
theorem dX30_fnOf_1 : decode cX30_fnOf 1 = .ok (.istore_n 2, 1) := by decide +kernel
theorem dX30_fnOf_2 : decode cX30_fnOf 2 = .ok (.iload_n 2, 1) := by decide +kernel
theorem dX30_fnOf_3 : decode cX30_fnOf 3 = .ok (.aload_n 0, 1) := by decide +kernel
theorem dX30_fnOf_4 : decode cX30_fnOf 4 = .ok (.getfield 395, 3) := by decide +kernel
theorem dX30_fnOf_7 : decode cX30_fnOf 7 = .ok (.getfield 501, 3) := by decide +kernel
theorem dX30_fnOf_10 : decode cX30_fnOf 10 = .ok (.invokevirtual 404, 3) := by decide +kernel
theorem dX30_fnOf_13 : decode cX30_fnOf 13 = .ok (.if_icmp .ge 48, 3) := by decide +kernel
theorem dX30_fnOf_16 : decode cX30_fnOf 16 = .ok (.aload_n 0, 1) := by decide +kernel
theorem dX30_fnOf_17 : decode cX30_fnOf 17 = .ok (.getfield 395, 3) := by decide +kernel
theorem dX30_fnOf_20 : decode cX30_fnOf 20 = .ok (.getfield 501, 3) := by decide +kernel
theorem dX30_fnOf_23 : decode cX30_fnOf 23 = .ok (.iload_n 2, 1) := by decide +kernel
theorem dX30_fnOf_24 : decode cX30_fnOf 24 = .ok (.invokevirtual 627, 3) := by decide +kernel
theorem dX30_fnOf_27 : decode cX30_fnOf 27 = .ok (.checkcast 167, 3) := by decide +kernel
theorem dX30_fnOf_30 : decode cX30_fnOf 30 = .ok (.getfield 475, 3) := by decide +kernel
theorem dX30_fnOf_33 : decode cX30_fnOf 33 = .ok (.aload_n 1, 1) := by decide +kernel
theorem dX30_fnOf_34 : decode cX30_fnOf 34 = .ok (.invokevirtual 287, 3) := by decide +kernel
theorem dX30_fnOf_37 : decode cX30_fnOf 37 = .ok (.ifCond .eq 18, 3) := by decide +kernel
theorem dX30_fnOf_40 : decode cX30_fnOf 40 = .ok (.aload_n 0, 1) := by decide +kernel
theorem dX30_fnOf_41 : decode cX30_fnOf 41 = .ok (.getfield 395, 3) := by decide +kernel
theorem dX30_fnOf_44 : decode cX30_fnOf 44 = .ok (.getfield 501, 3) := by decide +kernel
theorem dX30_fnOf_47 : decode cX30_fnOf 47 = .ok (.iload_n 2, 1) := by decide +kernel
theorem dX30_fnOf_48 : decode cX30_fnOf 48 = .ok (.invokevirtual 627, 3) := by decide +kernel
theorem dX30_fnOf_51 : decode cX30_fnOf 51 = .ok (.checkcast 167, 3) := by decide +kernel
theorem dX30_fnOf_54 : decode cX30_fnOf 54 = .ok (.areturn, 1) := by decide +kernel
theorem dX30_fnOf_55 : decode cX30_fnOf 55 = .ok (.iinc 2 1, 3) := by decide +kernel
theorem dX30_fnOf_58 : decode cX30_fnOf 58 = .ok (.goto (-56), 3) := by decide +kernel
theorem dX30_fnOf_61 : decode cX30_fnOf 61 = .ok (.aconst_null, 1) := by decide +kernel
theorem dX30_fnOf_62 : decode cX30_fnOf 62 = .ok (.areturn, 1) := by decide +kernel
theorem dX30_wrong_0 : decode cX30_wrong 0 = .ok (.aload_n 0, 1) := by decide +kernel
theorem dX30_wrong_1 : decode cX30_wrong 1 = .ok (.iconst 2, 1) := by decide +kernel
theorem dX30_wrong_2 : decode cX30_wrong 2 = .ok (.iload_n 1, 1) := by decide +kernel
theorem dX30_wrong_3 : decode cX30_wrong 3 = .ok (.iconst (-1), 1) := by decide +kernel
theorem dX30_wrong_4 : decode cX30_wrong 4 = .ok (.invokevirtual 307, 3) := by decide +kernel
theorem dX30_wrong_7 : decode cX30_wrong 7 = .ok (.return_, 1) := by decide +kernel
theorem dX30_breaks_0 : decode cX30_breaks 0 = .ok (.aload_n 0, 1) := by decide +kernel
theorem dX30_breaks_1 : decode cX30_breaks 1 = .ok (.getfield 291, 3) := by decide +kernel
theorem dX30_breaks_4 : decode cX30_breaks 4 = .ok (.ifCond .eq 44, 3) := by decide +kernel
theorem dX30_breaks_7 : decode cX30_breaks 7 = .ok (.aload_n 0, 1) := by decide +kernel
theorem dX30_breaks_8 : decode cX30_breaks 8 = .ok (.getfield 291, 3) := by decide +kernel
theorem dX30_breaks_11 : decode cX30_breaks 11 = .ok (.iload_n 1, 1) := by decide +kernel
theorem dX30_breaks_12 : decode cX30_breaks 12 = .ok (.if_icmp .lt 35, 3) := by decide +kernel
theorem dX30_breaks_15 : decode cX30_breaks 15 = .ok (.aload_n 0, 1) := by decide +kernel
theorem dX30_breaks_16 : decode cX30_breaks 16 = .ok (.getfield 291, 3) := by decide +kernel
theorem dX30_breaks_19 : decode cX30_breaks 19 = .ok (.iload_n 1, 1) := by decide +kernel
theorem dX30_breaks_20 : decode cX30_breaks 20 = .ok (.if_icmp .ne 28, 3) := by decide +kernel
theorem dX30_breaks_23 : decode cX30_breaks 23 = .ok (.aload_n 0, 1) := by decide +kernel
theorem dX30_breaks_24 : decode cX30_breaks 24 = .ok (.getfield 294, 3) := by decide +kernel
theorem dX30_breaks_27 : decode cX30_breaks 27 = .ok (.iload_n 2, 1) := by decide +kernel
theorem dX30_breaks_28 : decode cX30_breaks 28 = .ok (.if_icmp .lt 19, 3) := by decide +kernel
theorem dX30_breaks_31 : decode cX30_breaks 31 = .ok (.aload_n 0, 1) := by decide +kernel
theorem dX30_breaks_32 : decode cX30_breaks 32 = .ok (.getfield 294, 3) := by decide +kernel
theorem dX30_breaks_35 : decode cX30_breaks 35 = .ok (.iload_n 2, 1) := by decide +kernel
theorem dX30_breaks_36 : decode cX30_breaks 36 = .ok (.if_icmp .ne 12, 3) := by decide +kernel
theorem dX30_breaks_39 : decode cX30_breaks 39 = .ok (.aload_n 0, 1) := by decide +kernel
theorem dX30_breaks_40 : decode cX30_breaks 40 = .ok (.getfield 297, 3) := by decide +kernel
theorem dX30_breaks_43 : decode cX30_breaks 43 = .ok (.iload_n 3, 1) := by decide +kernel
theorem dX30_breaks_44 : decode cX30_breaks 44 = .ok (.if_icmp .gt 4, 3) := by decide +kernel
theorem dX30_breaks_47 : decode cX30_breaks 47 = .ok (.return_, 1) := by decide +kernel
theorem dX30_breaks_48 : decode cX30_breaks 48 = .ok (.aload_n 0, 1) := by decide +kernel
theorem dX30_breaks_49 : decode cX30_breaks 49 = .ok (.iload_n 1, 1) := by decide +kernel
theorem dX30_breaks_50 : decode cX30_breaks 50 = .ok (.putfield 291, 3) := by decide +kernel
theorem dX30_breaks_53 : decode cX30_breaks 53 = .ok (.aload_n 0, 1) := by decide +kernel
theorem dX30_breaks_54 : decode cX30_breaks 54 = .ok (.iload_n 2, 1) := by decide +kernel
theorem dX30_breaks_55 : decode cX30_breaks 55 = .ok (.putfield 294, 3) := by decide +kernel
theorem dX30_breaks_58 : decode cX30_breaks 58 = .ok (.aload_n 0, 1) := by decide +kernel
theorem dX30_breaks_59 : decode cX30_breaks 59 = .ok (.iload_n 3, 1) := by decide +kernel
theorem dX30_breaks_60 : decode cX30_breaks 60 = .ok (.putfield 297, 3) := by decide +kernel
theorem dX30_breaks_63 : decode cX30_breaks 63 = .ok (.return_, 1) := by decide +kernel
theorem dX30_fault_0 : decode cX30_fault 0 = .ok (.iload_n 1, 1) := by decide +kernel
theorem dX30_fault_1 : decode cX30_fault 1 = .ok (.ifCond .ne 10, 3) := by decide +kernel
theorem dX30_fault_4 : decode cX30_fault 4 = .ok (.aload_n 0, 1) := by decide +kernel
theorem dX30_fault_5 : decode cX30_fault 5 = .ok (.getfield 110, 3) := by decide +kernel
theorem dX30_fault_8 : decode cX30_fault 8 = .ok (.goto 28, 3) := by decide +kernel
theorem dX30_fault_11 : decode cX30_fault 11 = .ok (.iload_n 1, 1) := by decide +kernel
theorem dX30_fault_12 : decode cX30_fault 12 = .ok (.iconst 1, 1) := by decide +kernel
theorem dX30_fault_13 : decode cX30_fault 13 = .ok (.if_icmp .ne 10, 3) := by decide +kernel
theorem dX30_fault_16 : decode cX30_fault 16 = .ok (.aload_n 0, 1) := by decide +kernel
theorem dX30_fault_17 : decode cX30_fault 17 = .ok (.getfield 114, 3) := by decide +kernel
theorem dX30_fault_20 : decode cX30_fault 20 = .ok (.goto 16, 3) := by decide +kernel
theorem dX30_fault_23 : decode cX30_fault 23 = .ok (.iload_n 1, 1) := by decide +kernel
theorem dX30_fault_24 : decode cX30_fault 24 = .ok (.iconst 2, 1) := by decide +kernel
theorem dX30_fault_25 : decode cX30_fault 25 = .ok (.if_icmp .ne 10, 3) := by decide +kernel
theorem dX30_fault_28 : decode cX30_fault 28 = .ok (.aload_n 0, 1) := by decide +kernel
theorem dX30_fault_29 : decode cX30_fault 29 = .ok (.getfield 117, 3) := by decide +kernel
theorem dX30_fault_32 : decode cX30_fault 32 = .ok (.goto 4, 3) := by decide +kernel
theorem dX30_fault_35 : decode cX30_fault 35 = .ok (.iconst (-1), 1) := by decide +kernel
theorem dX30_fault_36 : decode cX30_fault 36 = .ok (.ireturn, 1) := by decide +kernel
theorem dX30_give_0 : decode cX30_give 0 = .ok (.aload_n 2, 1) := by decide +kernel
theorem dX30_give_1 : decode cX30_give 1 = .ok (.invokestatic 1178, 3) := by decide +kernel
theorem dX30_give_4 : decode cX30_give 4 = .ok (.ifCond .eq 18, 3) := by decide +kernel
theorem dX30_give_7 : decode cX30_give 7 = .ok (.aload_n 0, 1) := by decide +kernel
theorem dX30_give_8 : decode cX30_give 8 = .ok (.getfield 101, 3) := by decide +kernel
theorem dX30_give_11 : decode cX30_give 11 = .ok (.aload_n 0, 1) := by decide +kernel
theorem dX30_give_12 : decode cX30_give 12 = .ok (.getfield 94, 3) := by decide +kernel
theorem dX30_give_15 : decode cX30_give 15 = .ok (.aload_n 2, 1) := by decide +kernel
theorem dX30_give_16 : decode cX30_give 16 = .ok (.getfield 839, 3) := by decide +kernel
theorem dX30_give_19 : decode cX30_give 19 = .ok (.iaload, 1) := by decide +kernel
theorem dX30_give_20 : decode cX30_give 20 = .ok (.lload_n 3, 1) := by decide +kernel
theorem dX30_give_21 : decode cX30_give 21 = .ok (.lastore, 1) := by decide +kernel
theorem dX30_give_22 : decode cX30_give 22 = .ok (.aload_n 0, 1) := by decide +kernel
theorem dX30_give_23 : decode cX30_give 23 = .ok (.aload_n 1, 1) := by decide +kernel
theorem dX30_give_24 : decode cX30_give 24 = .ok (.aload_n 2, 1) := by decide +kernel
theorem dX30_give_25 : decode cX30_give 25 = .ok (.invokevirtual 1190, 3) := by decide +kernel
theorem dX30_give_28 : decode cX30_give 28 = .ok (.lstore 5, 2) := by decide +kernel
theorem dX30_give_30 : decode cX30_give 30 = .ok (.iconst 0, 1) := by decide +kernel
theorem dX30_give_31 : decode cX30_give 31 = .ok (.istore 7, 2) := by decide +kernel
theorem dX30_give_33 : decode cX30_give 33 = .ok (.iload 7, 2) := by decide +kernel
theorem dX30_give_35 : decode cX30_give 35 = .ok (.aload_n 0, 1) := by decide +kernel
theorem dX30_give_36 : decode cX30_give 36 = .ok (.getfield 1172, 3) := by decide +kernel
theorem dX30_give_39 : decode cX30_give 39 = .ok (.if_icmp .ge 32, 3) := by decide +kernel
theorem dX30_give_42 : decode cX30_give 42 = .ok (.lload 5, 2) := by decide +kernel
theorem dX30_give_44 : decode cX30_give 44 = .ok (.lconst 0, 1) := by decide +kernel
theorem dX30_give_45 : decode cX30_give 45 = .ok (.lcmp, 1) := by decide +kernel
theorem dX30_give_46 : decode cX30_give 46 = .ok (.ifCond .eq 25, 3) := by decide +kernel
theorem dX30_give_49 : decode cX30_give 49 = .ok (.aload_n 0, 1) := by decide +kernel
theorem dX30_give_50 : decode cX30_give 50 = .ok (.getfield 101, 3) := by decide +kernel
theorem dX30_give_53 : decode cX30_give 53 = .ok (.iload 7, 2) := by decide +kernel
theorem dX30_give_55 : decode cX30_give 55 = .ok (.dup2, 1) := by decide +kernel
theorem dX30_give_56 : decode cX30_give 56 = .ok (.laload, 1) := by decide +kernel
theorem dX30_give_57 : decode cX30_give 57 = .ok (.lload 5, 2) := by decide +kernel
theorem dX30_give_59 : decode cX30_give 59 = .ok (.ldc2_w 1117, 3) := by decide +kernel
theorem dX30_give_62 : decode cX30_give 62 = .ok (.lxor, 1) := by decide +kernel
theorem dX30_give_63 : decode cX30_give 63 = .ok (.land, 1) := by decide +kernel
theorem dX30_give_64 : decode cX30_give 64 = .ok (.lastore, 1) := by decide +kernel
theorem dX30_give_65 : decode cX30_give 65 = .ok (.iinc 7 1, 3) := by decide +kernel
theorem dX30_give_68 : decode cX30_give 68 = .ok (.goto (-35), 3) := by decide +kernel
theorem dX30_give_71 : decode cX30_give 71 = .ok (.return_, 1) := by decide +kernel
theorem dX30_run_0 : decode cX30_run 0 = .ok (.iload_n 1, 1) := by decide +kernel
theorem dX30_run_1 : decode cX30_run 1 = .ok (.iconst 1, 1) := by decide +kernel
theorem dX30_run_2 : decode cX30_run 2 = .ok (.if_icmp .lt 17, 3) := by decide +kernel
theorem dX30_run_5 : decode cX30_run 5 = .ok (.iload_n 1, 1) := by decide +kernel
theorem dX30_run_6 : decode cX30_run 6 = .ok (.ldc_w 1545, 3) := by decide +kernel
theorem dX30_run_9 : decode cX30_run 9 = .ok (.if_icmp .gt 10, 3) := by decide +kernel
theorem dX30_run_12 : decode cX30_run 12 = .ok (.aload_n 0, 1) := by decide +kernel
theorem dX30_run_13 : decode cX30_run 13 = .ok (.getfield 1250, 3) := by decide +kernel
theorem dX30_run_16 : decode cX30_run 16 = .ok (.ifnonnull 5, 3) := by decide +kernel
theorem dX30_run_19 : decode cX30_run 19 = .ok (.iconst (-1), 1) := by decide +kernel
theorem dX30_run_20 : decode cX30_run 20 = .ok (.ireturn, 1) := by decide +kernel
theorem dX30_run_21 : decode cX30_run 21 = .ok (.aload_n 0, 1) := by decide +kernel
theorem dX30_run_22 : decode cX30_run 22 = .ok (.iconst 1, 1) := by decide +kernel
theorem dX30_run_23 : decode cX30_run 23 = .ok (.putfield 1294, 3) := by decide +kernel
theorem dX30_run_26 : decode cX30_run 26 = .ok (.aload_n 0, 1) := by decide +kernel
theorem dX30_run_27 : decode cX30_run 27 = .ok (.iconst 0, 1) := by decide +kernel
theorem dX30_run_28 : decode cX30_run 28 = .ok (.putfield 1288, 3) := by decide +kernel
theorem dX30_run_31 : decode cX30_run 31 = .ok (.aload_n 0, 1) := by decide +kernel
theorem dX30_run_32 : decode cX30_run 32 = .ok (.lconst 0, 1) := by decide +kernel
theorem dX30_run_33 : decode cX30_run 33 = .ok (.putfield 1341, 3) := by decide +kernel
theorem dX30_run_36 : decode cX30_run 36 = .ok (.aload_n 0, 1) := by decide +kernel
theorem dX30_run_37 : decode cX30_run 37 = .ok (.iconst 1, 1) := by decide +kernel
theorem dX30_run_38 : decode cX30_run 38 = .ok (.putfield 1401, 3) := by decide +kernel
theorem dX30_run_41 : decode cX30_run 41 = .ok (.aload_n 0, 1) := by decide +kernel
theorem dX30_run_42 : decode cX30_run 42 = .ok (.getfield 146, 3) := by decide +kernel
theorem dX30_run_45 : decode cX30_run 45 = .ok (.iconst 0, 1) := by decide +kernel
theorem dX30_run_46 : decode cX30_run 46 = .ok (.iconst 0, 1) := by decide +kernel
theorem dX30_run_47 : decode cX30_run 47 = .ok (.iastore, 1) := by decide +kernel
theorem dX30_run_48 : decode cX30_run 48 = .ok (.aload_n 0, 1) := by decide +kernel
theorem dX30_run_49 : decode cX30_run 49 = .ok (.iconst 0, 1) := by decide +kernel
theorem dX30_run_50 : decode cX30_run 50 = .ok (.putfield 1359, 3) := by decide +kernel
theorem dX30_run_53 : decode cX30_run 53 = .ok (.aload_n 0, 1) := by decide +kernel
theorem dX30_run_54 : decode cX30_run 54 = .ok (.iconst 0, 1) := by decide +kernel
theorem dX30_run_55 : decode cX30_run 55 = .ok (.putfield 1387, 3) := by decide +kernel
theorem dX30_run_58 : decode cX30_run 58 = .ok (.aload_n 0, 1) := by decide +kernel
theorem dX30_run_59 : decode cX30_run 59 = .ok (.iconst 0, 1) := by decide +kernel
theorem dX30_run_60 : decode cX30_run 60 = .ok (.putfield 1417, 3) := by decide +kernel
theorem dX30_run_63 : decode cX30_run 63 = .ok (.aload_n 0, 1) := by decide +kernel
theorem dX30_run_64 : decode cX30_run 64 = .ok (.iconst 0, 1) := by decide +kernel
theorem dX30_run_65 : decode cX30_run 65 = .ok (.putfield 1546, 3) := by decide +kernel
theorem dX30_run_68 : decode cX30_run 68 = .ok (.aload_n 0, 1) := by decide +kernel
theorem dX30_run_69 : decode cX30_run 69 = .ok (.iconst 0, 1) := by decide +kernel
theorem dX30_run_70 : decode cX30_run 70 = .ok (.putfield 1375, 3) := by decide +kernel
theorem dX30_run_73 : decode cX30_run 73 = .ok (.aload_n 0, 1) := by decide +kernel
theorem dX30_run_74 : decode cX30_run 74 = .ok (.iconst 0, 1) := by decide +kernel
theorem dX30_run_75 : decode cX30_run 75 = .ok (.putfield 1477, 3) := by decide +kernel
theorem dX30_run_78 : decode cX30_run 78 = .ok (.aload_n 0, 1) := by decide +kernel
theorem dX30_run_79 : decode cX30_run 79 = .ok (.iconst 0, 1) := by decide +kernel
theorem dX30_run_80 : decode cX30_run 80 = .ok (.putfield 1393, 3) := by decide +kernel
theorem dX30_run_83 : decode cX30_run 83 = .ok (.aload_n 0, 1) := by decide +kernel
theorem dX30_run_84 : decode cX30_run 84 = .ok (.iconst 0, 1) := by decide +kernel
theorem dX30_run_85 : decode cX30_run 85 = .ok (.putfield 1396, 3) := by decide +kernel
theorem dX30_run_88 : decode cX30_run 88 = .ok (.aload_n 0, 1) := by decide +kernel
theorem dX30_run_89 : decode cX30_run 89 = .ok (.iconst 0, 1) := by decide +kernel
theorem dX30_run_90 : decode cX30_run 90 = .ok (.putfield 1399, 3) := by decide +kernel
theorem dX30_run_93 : decode cX30_run 93 = .ok (.aload_n 0, 1) := by decide +kernel
theorem dX30_run_94 : decode cX30_run 94 = .ok (.iconst 0, 1) := by decide +kernel
theorem dX30_run_95 : decode cX30_run 95 = .ok (.putfield 1480, 3) := by decide +kernel
theorem dX30_run_98 : decode cX30_run 98 = .ok (.aload_n 0, 1) := by decide +kernel
theorem dX30_run_99 : decode cX30_run 99 = .ok (.iconst 0, 1) := by decide +kernel
theorem dX30_run_100 : decode cX30_run 100 = .ok (.putfield 1486, 3) := by decide +kernel
theorem dX30_run_103 : decode cX30_run 103 = .ok (.aload_n 0, 1) := by decide +kernel
theorem dX30_run_104 : decode cX30_run 104 = .ok (.iconst (-1), 1) := by decide +kernel
theorem dX30_run_105 : decode cX30_run 105 = .ok (.putfield 1496, 3) := by decide +kernel
theorem dX30_run_108 : decode cX30_run 108 = .ok (.aload_n 0, 1) := by decide +kernel
theorem dX30_run_109 : decode cX30_run 109 = .ok (.iconst 0, 1) := by decide +kernel
theorem dX30_run_110 : decode cX30_run 110 = .ok (.putfield 1425, 3) := by decide +kernel
theorem dX30_run_113 : decode cX30_run 113 = .ok (.aload_n 0, 1) := by decide +kernel
theorem dX30_run_114 : decode cX30_run 114 = .ok (.iconst (-1), 1) := by decide +kernel
theorem dX30_run_115 : decode cX30_run 115 = .ok (.putfield 1428, 3) := by decide +kernel
theorem dX30_run_118 : decode cX30_run 118 = .ok (.aload_n 0, 1) := by decide +kernel
theorem dX30_run_119 : decode cX30_run 119 = .ok (.iconst 0, 1) := by decide +kernel
theorem dX30_run_120 : decode cX30_run 120 = .ok (.putfield 1493, 3) := by decide +kernel
theorem dX30_run_123 : decode cX30_run 123 = .ok (.aload_n 0, 1) := by decide +kernel
theorem dX30_run_124 : decode cX30_run 124 = .ok (.iconst 0, 1) := by decide +kernel
theorem dX30_run_125 : decode cX30_run 125 = .ok (.putfield 1499, 3) := by decide +kernel
theorem dX30_run_128 : decode cX30_run 128 = .ok (.aload_n 0, 1) := by decide +kernel
theorem dX30_run_129 : decode cX30_run 129 = .ok (.iconst 0, 1) := by decide +kernel
theorem dX30_run_130 : decode cX30_run 130 = .ok (.putfield 1422, 3) := by decide +kernel
theorem dX30_run_133 : decode cX30_run 133 = .ok (.aload_n 0, 1) := by decide +kernel
theorem dX30_run_134 : decode cX30_run 134 = .ok (.iconst 1, 1) := by decide +kernel
theorem dX30_run_135 : decode cX30_run 135 = .ok (.putfield 1431, 3) := by decide +kernel
theorem dX30_run_138 : decode cX30_run 138 = .ok (.aload_n 0, 1) := by decide +kernel
theorem dX30_run_139 : decode cX30_run 139 = .ok (.invokevirtual 1549, 3) := by decide +kernel
theorem dX30_run_142 : decode cX30_run 142 = .ok (.astore_n 2, 1) := by decide +kernel
theorem dX30_run_143 : decode cX30_run 143 = .ok (.aload_n 0, 1) := by decide +kernel
theorem dX30_run_144 : decode cX30_run 144 = .ok (.getfield 169, 3) := by decide +kernel
theorem dX30_run_147 : decode cX30_run 147 = .ok (.iconst 1, 1) := by decide +kernel
theorem dX30_run_148 : decode cX30_run 148 = .ok (.aload_n 2, 1) := by decide +kernel
theorem dX30_run_149 : decode cX30_run 149 = .ok (.aastore, 1) := by decide +kernel
theorem dX30_run_150 : decode cX30_run 150 = .ok (.aload_n 0, 1) := by decide +kernel
theorem dX30_run_151 : decode cX30_run 151 = .ok (.getfield 175, 3) := by decide +kernel
theorem dX30_run_154 : decode cX30_run 154 = .ok (.iconst 1, 1) := by decide +kernel
theorem dX30_run_155 : decode cX30_run 155 = .ok (.aconst_null, 1) := by decide +kernel
theorem dX30_run_156 : decode cX30_run 156 = .ok (.aastore, 1) := by decide +kernel
theorem dX30_run_157 : decode cX30_run 157 = .ok (.aload_n 0, 1) := by decide +kernel
theorem dX30_run_158 : decode cX30_run 158 = .ok (.getfield 179, 3) := by decide +kernel
theorem dX30_run_161 : decode cX30_run 161 = .ok (.iconst 1, 1) := by decide +kernel
theorem dX30_run_162 : decode cX30_run 162 = .ok (.iconst 0, 1) := by decide +kernel
theorem dX30_run_163 : decode cX30_run 163 = .ok (.iastore, 1) := by decide +kernel
theorem dX30_run_164 : decode cX30_run 164 = .ok (.aload_n 0, 1) := by decide +kernel
theorem dX30_run_165 : decode cX30_run 165 = .ok (.getfield 182, 3) := by decide +kernel
theorem dX30_run_168 : decode cX30_run 168 = .ok (.iconst 1, 1) := by decide +kernel
theorem dX30_run_169 : decode cX30_run 169 = .ok (.iconst 0, 1) := by decide +kernel
theorem dX30_run_170 : decode cX30_run 170 = .ok (.iastore, 1) := by decide +kernel
theorem dX30_run_171 : decode cX30_run 171 = .ok (.aload_n 0, 1) := by decide +kernel
theorem dX30_run_172 : decode cX30_run 172 = .ok (.getfield 107, 3) := by decide +kernel
theorem dX30_run_175 : decode cX30_run 175 = .ok (.aload_n 2, 1) := by decide +kernel
theorem dX30_run_176 : decode cX30_run 176 = .ok (.getfield 504, 3) := by decide +kernel
theorem dX30_run_179 : decode cX30_run 179 = .ok (.invokevirtual 627, 3) := by decide +kernel
theorem dX30_run_182 : decode cX30_run 182 = .ok (.checkcast 173, 3) := by decide +kernel
theorem dX30_run_185 : decode cX30_run 185 = .ok (.astore_n 3, 1) := by decide +kernel
theorem dX30_run_186 : decode cX30_run 186 = .ok (.aload_n 3, 1) := by decide +kernel
theorem dX30_run_187 : decode cX30_run 187 = .ok (.ifnull 13, 3) := by decide +kernel
theorem dX30_run_190 : decode cX30_run 190 = .ok (.aload_n 0, 1) := by decide +kernel
theorem dX30_run_191 : decode cX30_run 191 = .ok (.aload_n 3, 1) := by decide +kernel
theorem dX30_run_192 : decode cX30_run 192 = .ok (.iload_n 1, 1) := by decide +kernel
theorem dX30_run_193 : decode cX30_run 193 = .ok (.invokevirtual 1553, 3) := by decide +kernel
theorem dX30_run_196 : decode cX30_run 196 = .ok (.astore_n 3, 1) := by decide +kernel
theorem dX30_run_197 : decode cX30_run 197 = .ok (.goto (-11), 3) := by decide +kernel
theorem dX30_run_200 : decode cX30_run 200 = .ok (.aload_n 0, 1) := by decide +kernel
theorem dX30_run_201 : decode cX30_run 201 = .ok (.getfield 1425, 3) := by decide +kernel
theorem dX30_run_204 : decode cX30_run 204 = .ok (.ifCond .eq 12, 3) := by decide +kernel
theorem dX30_run_207 : decode cX30_run 207 = .ok (.aload_n 0, 1) := by decide +kernel
theorem dX30_run_208 : decode cX30_run 208 = .ok (.iconst 1, 1) := by decide +kernel
theorem dX30_run_209 : decode cX30_run 209 = .ok (.putfield 1496, 3) := by decide +kernel
theorem dX30_run_212 : decode cX30_run 212 = .ok (.aload_n 0, 1) := by decide +kernel
theorem dX30_run_213 : decode cX30_run 213 = .ok (.invokevirtual 1557, 3) := by decide +kernel
theorem dX30_run_216 : decode cX30_run 216 = .ok (.aload_n 0, 1) := by decide +kernel
theorem dX30_run_217 : decode cX30_run 217 = .ok (.getfield 1496, 3) := by decide +kernel
theorem dX30_run_220 : decode cX30_run 220 = .ok (.iconst 2, 1) := by decide +kernel
theorem dX30_run_221 : decode cX30_run 221 = .ok (.if_icmp .eq 26, 3) := by decide +kernel
theorem dX30_run_224 : decode cX30_run 224 = .ok (.aload_n 0, 1) := by decide +kernel
theorem dX30_run_225 : decode cX30_run 225 = .ok (.aload_n 0, 1) := by decide +kernel
theorem dX30_run_226 : decode cX30_run 226 = .ok (.getfield 1477, 3) := by decide +kernel
theorem dX30_run_229 : decode cX30_run 229 = .ok (.aload_n 0, 1) := by decide +kernel
theorem dX30_run_230 : decode cX30_run 230 = .ok (.getfield 1393, 3) := by decide +kernel
theorem dX30_run_233 : decode cX30_run 233 = .ok (.isub, 1) := by decide +kernel
theorem dX30_run_234 : decode cX30_run 234 = .ok (.aload_n 0, 1) := by decide +kernel
theorem dX30_run_235 : decode cX30_run 235 = .ok (.getfield 1396, 3) := by decide +kernel
theorem dX30_run_238 : decode cX30_run 238 = .ok (.iadd, 1) := by decide +kernel
theorem dX30_run_239 : decode cX30_run 239 = .ok (.aload_n 0, 1) := by decide +kernel
theorem dX30_run_240 : decode cX30_run 240 = .ok (.getfield 1399, 3) := by decide +kernel
theorem dX30_run_243 : decode cX30_run 243 = .ok (.iadd, 1) := by decide +kernel
theorem dX30_run_244 : decode cX30_run 244 = .ok (.putfield 1546, 3) := by decide +kernel
theorem dX30_run_247 : decode cX30_run 247 = .ok (.aload_n 0, 1) := by decide +kernel
theorem dX30_run_248 : decode cX30_run 248 = .ok (.iconst 1, 1) := by decide +kernel
theorem dX30_run_249 : decode cX30_run 249 = .ok (.putfield 1253, 3) := by decide +kernel
theorem dX30_run_252 : decode cX30_run 252 = .ok (.aload_n 0, 1) := by decide +kernel
theorem dX30_run_253 : decode cX30_run 253 = .ok (.getfield 1496, 3) := by decide +kernel
theorem dX30_run_256 : decode cX30_run 256 = .ok (.ireturn, 1) := by decide +kernel
theorem dX30_about_0 : decode cX30_about 0 = .ok (.aload_n 0, 1) := by decide +kernel
theorem dX30_about_1 : decode cX30_about 1 = .ok (.getfield 1253, 3) := by decide +kernel
theorem dX30_about_4 : decode cX30_about 4 = .ok (.ifCond .ne 5, 3) := by decide +kernel
theorem dX30_about_7 : decode cX30_about 7 = .ok (.iconst (-1), 1) := by decide +kernel
theorem dX30_about_8 : decode cX30_about 8 = .ok (.ireturn, 1) := by decide +kernel
theorem dX30_about_9 : decode cX30_about 9 = .ok (.iload_n 1, 1) := by decide +kernel
theorem dX30_about_10 : decode cX30_about 10 = .ok (.tableswitch 128 0 9 #[54, 59, 76, 93, 98, 103, 108, 113, 118, 123], 54) := by decide +kernel
theorem dX30_about_64 : decode cX30_about 64 = .ok (.aload_n 0, 1) := by decide +kernel
theorem dX30_about_65 : decode cX30_about 65 = .ok (.getfield 1496, 3) := by decide +kernel
theorem dX30_about_68 : decode cX30_about 68 = .ok (.ireturn, 1) := by decide +kernel
theorem dX30_about_69 : decode cX30_about 69 = .ok (.aload_n 0, 1) := by decide +kernel
theorem dX30_about_70 : decode cX30_about 70 = .ok (.getfield 1496, 3) := by decide +kernel
theorem dX30_about_73 : decode cX30_about 73 = .ok (.iconst 1, 1) := by decide +kernel
theorem dX30_about_74 : decode cX30_about 74 = .ok (.if_icmp .ne 10, 3) := by decide +kernel
theorem dX30_about_77 : decode cX30_about 77 = .ok (.aload_n 0, 1) := by decide +kernel
theorem dX30_about_78 : decode cX30_about 78 = .ok (.getfield 1428, 3) := by decide +kernel
theorem dX30_about_81 : decode cX30_about 81 = .ok (.goto 4, 3) := by decide +kernel
theorem dX30_about_84 : decode cX30_about 84 = .ok (.iconst (-1), 1) := by decide +kernel
theorem dX30_about_85 : decode cX30_about 85 = .ok (.ireturn, 1) := by decide +kernel
theorem dX30_about_86 : decode cX30_about 86 = .ok (.aload_n 0, 1) := by decide +kernel
theorem dX30_about_87 : decode cX30_about 87 = .ok (.getfield 1496, 3) := by decide +kernel
theorem dX30_about_90 : decode cX30_about 90 = .ok (.iconst 1, 1) := by decide +kernel
theorem dX30_about_91 : decode cX30_about 91 = .ok (.if_icmp .ne 10, 3) := by decide +kernel
theorem dX30_about_94 : decode cX30_about 94 = .ok (.aload_n 0, 1) := by decide +kernel
theorem dX30_about_95 : decode cX30_about 95 = .ok (.getfield 1425, 3) := by decide +kernel
theorem dX30_about_98 : decode cX30_about 98 = .ok (.goto 4, 3) := by decide +kernel
theorem dX30_about_101 : decode cX30_about 101 = .ok (.iconst (-1), 1) := by decide +kernel
theorem dX30_about_102 : decode cX30_about 102 = .ok (.ireturn, 1) := by decide +kernel
theorem dX30_about_103 : decode cX30_about 103 = .ok (.aload_n 0, 1) := by decide +kernel
theorem dX30_about_104 : decode cX30_about 104 = .ok (.getfield 1493, 3) := by decide +kernel
theorem dX30_about_107 : decode cX30_about 107 = .ok (.ireturn, 1) := by decide +kernel
theorem dX30_about_108 : decode cX30_about 108 = .ok (.aload_n 0, 1) := by decide +kernel
theorem dX30_about_109 : decode cX30_about 109 = .ok (.getfield 1375, 3) := by decide +kernel
theorem dX30_about_112 : decode cX30_about 112 = .ok (.ireturn, 1) := by decide +kernel
theorem dX30_about_113 : decode cX30_about 113 = .ok (.aload_n 0, 1) := by decide +kernel
theorem dX30_about_114 : decode cX30_about 114 = .ok (.getfield 1477, 3) := by decide +kernel
theorem dX30_about_117 : decode cX30_about 117 = .ok (.ireturn, 1) := by decide +kernel
theorem dX30_about_118 : decode cX30_about 118 = .ok (.aload_n 0, 1) := by decide +kernel
theorem dX30_about_119 : decode cX30_about 119 = .ok (.getfield 1393, 3) := by decide +kernel
theorem dX30_about_122 : decode cX30_about 122 = .ok (.ireturn, 1) := by decide +kernel
theorem dX30_about_123 : decode cX30_about 123 = .ok (.aload_n 0, 1) := by decide +kernel
theorem dX30_about_124 : decode cX30_about 124 = .ok (.getfield 1480, 3) := by decide +kernel
theorem dX30_about_127 : decode cX30_about 127 = .ok (.ireturn, 1) := by decide +kernel
theorem dX30_about_128 : decode cX30_about 128 = .ok (.aload_n 0, 1) := by decide +kernel
theorem dX30_about_129 : decode cX30_about 129 = .ok (.getfield 1486, 3) := by decide +kernel
theorem dX30_about_132 : decode cX30_about 132 = .ok (.ireturn, 1) := by decide +kernel
theorem dX30_about_133 : decode cX30_about 133 = .ok (.aload_n 0, 1) := by decide +kernel
theorem dX30_about_134 : decode cX30_about 134 = .ok (.getfield 1499, 3) := by decide +kernel
theorem dX30_about_137 : decode cX30_about 137 = .ok (.ireturn, 1) := by decide +kernel
theorem dX30_about_138 : decode cX30_about 138 = .ok (.iconst (-1), 1) := by decide +kernel
theorem dX30_about_139 : decode cX30_about 139 = .ok (.ireturn, 1) := by decide +kernel
theorem dX30_out_0 : decode cX30_out 0 = .ok (.aload_n 0, 1) := by decide +kernel
theorem dX30_out_1 : decode cX30_out 1 = .ok (.getfield 1375, 3) := by decide +kernel
theorem dX30_out_4 : decode cX30_out 4 = .ok (.sipush 1000, 3) := by decide +kernel
theorem dX30_out_7 : decode cX30_out 7 = .ok (.if_icmp .ne 4, 3) := by decide +kernel
theorem dX30_out_10 : decode cX30_out 10 = .ok (.return_, 1) := by decide +kernel
theorem dX30_out_11 : decode cX30_out 11 = .ok (.aload_n 0, 1) := by decide +kernel
theorem dX30_out_12 : decode cX30_out 12 = .ok (.getfield 152, 3) := by decide +kernel
theorem dX30_out_15 : decode cX30_out 15 = .ok (.aload_n 0, 1) := by decide +kernel
theorem dX30_out_16 : decode cX30_out 16 = .ok (.getfield 1375, 3) := by decide +kernel
theorem dX30_out_19 : decode cX30_out 19 = .ok (.iload_n 1, 1) := by decide +kernel
theorem dX30_out_20 : decode cX30_out 20 = .ok (.iastore, 1) := by decide +kernel
theorem dX30_out_21 : decode cX30_out 21 = .ok (.aload_n 0, 1) := by decide +kernel
theorem dX30_out_22 : decode cX30_out 22 = .ok (.getfield 155, 3) := by decide +kernel
theorem dX30_out_25 : decode cX30_out 25 = .ok (.aload_n 0, 1) := by decide +kernel
theorem dX30_out_26 : decode cX30_out 26 = .ok (.getfield 1375, 3) := by decide +kernel
theorem dX30_out_29 : decode cX30_out 29 = .ok (.lload_n 2, 1) := by decide +kernel
theorem dX30_out_30 : decode cX30_out 30 = .ok (.lastore, 1) := by decide +kernel
theorem dX30_out_31 : decode cX30_out 31 = .ok (.aload_n 0, 1) := by decide +kernel
theorem dX30_out_32 : decode cX30_out 32 = .ok (.dup, 1) := by decide +kernel
theorem dX30_out_33 : decode cX30_out 33 = .ok (.getfield 1375, 3) := by decide +kernel
theorem dX30_out_36 : decode cX30_out 36 = .ok (.iconst 1, 1) := by decide +kernel
theorem dX30_out_37 : decode cX30_out 37 = .ok (.iadd, 1) := by decide +kernel
theorem dX30_out_38 : decode cX30_out 38 = .ok (.putfield 1375, 3) := by decide +kernel
theorem dX30_out_41 : decode cX30_out 41 = .ok (.return_, 1) := by decide +kernel
theorem dX30_count_0 : decode cX30_count 0 = .ok (.iload_n 1, 1) := by decide +kernel
theorem dX30_count_1 : decode cX30_count 1 = .ok (.ifCond .lt 8, 3) := by decide +kernel
theorem dX30_count_4 : decode cX30_count 4 = .ok (.iload_n 1, 1) := by decide +kernel
theorem dX30_count_5 : decode cX30_count 5 = .ok (.iconst 3, 1) := by decide +kernel
theorem dX30_count_6 : decode cX30_count 6 = .ok (.if_icmp .le 5, 3) := by decide +kernel
theorem dX30_count_9 : decode cX30_count 9 = .ok (.iconst (-1), 1) := by decide +kernel
theorem dX30_count_10 : decode cX30_count 10 = .ok (.ireturn, 1) := by decide +kernel
theorem dX30_count_11 : decode cX30_count 11 = .ok (.aload_n 0, 1) := by decide +kernel
theorem dX30_count_12 : decode cX30_count 12 = .ok (.getfield 1250, 3) := by decide +kernel
theorem dX30_count_15 : decode cX30_count 15 = .ok (.ifnonnull 5, 3) := by decide +kernel
theorem dX30_count_18 : decode cX30_count 18 = .ok (.iconst 0, 1) := by decide +kernel
theorem dX30_count_19 : decode cX30_count 19 = .ok (.ireturn, 1) := by decide +kernel
theorem dX30_count_20 : decode cX30_count 20 = .ok (.iload_n 1, 1) := by decide +kernel
theorem dX30_count_21 : decode cX30_count 21 = .ok (.ifCond .ne 16, 3) := by decide +kernel
theorem dX30_count_24 : decode cX30_count 24 = .ok (.aload_n 0, 1) := by decide +kernel
theorem dX30_count_25 : decode cX30_count 25 = .ok (.getfield 1250, 3) := by decide +kernel
theorem dX30_count_28 : decode cX30_count 28 = .ok (.getfield 399, 3) := by decide +kernel
theorem dX30_count_31 : decode cX30_count 31 = .ok (.invokevirtual 404, 3) := by decide +kernel
theorem dX30_count_34 : decode cX30_count 34 = .ok (.goto 49, 3) := by decide +kernel
theorem dX30_count_37 : decode cX30_count 37 = .ok (.iload_n 1, 1) := by decide +kernel
theorem dX30_count_38 : decode cX30_count 38 = .ok (.iconst 1, 1) := by decide +kernel
theorem dX30_count_39 : decode cX30_count 39 = .ok (.if_icmp .ne 16, 3) := by decide +kernel
theorem dX30_count_42 : decode cX30_count 42 = .ok (.aload_n 0, 1) := by decide +kernel
theorem dX30_count_43 : decode cX30_count 43 = .ok (.getfield 1250, 3) := by decide +kernel
theorem dX30_count_46 : decode cX30_count 46 = .ok (.getfield 501, 3) := by decide +kernel
theorem dX30_count_49 : decode cX30_count 49 = .ok (.invokevirtual 404, 3) := by decide +kernel
theorem dX30_count_52 : decode cX30_count 52 = .ok (.goto 31, 3) := by decide +kernel
theorem dX30_count_55 : decode cX30_count 55 = .ok (.iload_n 1, 1) := by decide +kernel
theorem dX30_count_56 : decode cX30_count 56 = .ok (.iconst 2, 1) := by decide +kernel
theorem dX30_count_57 : decode cX30_count 57 = .ok (.if_icmp .ne 16, 3) := by decide +kernel
theorem dX30_count_60 : decode cX30_count 60 = .ok (.aload_n 0, 1) := by decide +kernel
theorem dX30_count_61 : decode cX30_count 61 = .ok (.getfield 1250, 3) := by decide +kernel
theorem dX30_count_64 : decode cX30_count 64 = .ok (.getfield 724, 3) := by decide +kernel
theorem dX30_count_67 : decode cX30_count 67 = .ok (.invokevirtual 404, 3) := by decide +kernel
theorem dX30_count_70 : decode cX30_count 70 = .ok (.goto 13, 3) := by decide +kernel
theorem dX30_count_73 : decode cX30_count 73 = .ok (.aload_n 0, 1) := by decide +kernel
theorem dX30_count_74 : decode cX30_count 74 = .ok (.getfield 1250, 3) := by decide +kernel
theorem dX30_count_77 : decode cX30_count 77 = .ok (.getfield 1256, 3) := by decide +kernel
theorem dX30_count_80 : decode cX30_count 80 = .ok (.invokevirtual 404, 3) := by decide +kernel
theorem dX30_count_83 : decode cX30_count 83 = .ok (.ireturn, 1) := by decide +kernel
theorem dX30_place_0 : decode cX30_place 0 = .ok (.aload_n 0, 1) := by decide +kernel
theorem dX30_place_1 : decode cX30_place 1 = .ok (.getfield 66, 3) := by decide +kernel
theorem dX30_place_4 : decode cX30_place 4 = .ok (.invokevirtual 404, 3) := by decide +kernel
theorem dX30_place_7 : decode cX30_place 7 = .ok (.iconst 1, 1) := by decide +kernel
theorem dX30_place_8 : decode cX30_place 8 = .ok (.isub, 1) := by decide +kernel
theorem dX30_place_9 : decode cX30_place 9 = .ok (.istore_n 3, 1) := by decide +kernel
theorem dX30_place_10 : decode cX30_place 10 = .ok (.iload_n 3, 1) := by decide +kernel
theorem dX30_place_11 : decode cX30_place 11 = .ok (.ifCond .lt 55, 3) := by decide +kernel
theorem dX30_place_14 : decode cX30_place 14 = .ok (.aload_n 1, 1) := by decide +kernel
theorem dX30_place_15 : decode cX30_place 15 = .ok (.getfield 928, 3) := by decide +kernel
theorem dX30_place_18 : decode cX30_place 18 = .ok (.ifnonnull 48, 3) := by decide +kernel
theorem dX30_place_21 : decode cX30_place 21 = .ok (.aload_n 0, 1) := by decide +kernel
theorem dX30_place_22 : decode cX30_place 22 = .ok (.getfield 66, 3) := by decide +kernel
theorem dX30_place_25 : decode cX30_place 25 = .ok (.iload_n 3, 1) := by decide +kernel
theorem dX30_place_26 : decode cX30_place 26 = .ok (.invokevirtual 627, 3) := by decide +kernel
theorem dX30_place_29 : decode cX30_place 29 = .ok (.checkcast 827, 3) := by decide +kernel
theorem dX30_place_32 : decode cX30_place 32 = .ok (.getfield 830, 3) := by decide +kernel
theorem dX30_place_35 : decode cX30_place 35 = .ok (.aload_n 1, 1) := by decide +kernel
theorem dX30_place_36 : decode cX30_place 36 = .ok (.getfield 721, 3) := by decide +kernel
theorem dX30_place_39 : decode cX30_place 39 = .ok (.invokevirtual 287, 3) := by decide +kernel
theorem dX30_place_42 : decode cX30_place 42 = .ok (.ifCond .eq 18, 3) := by decide +kernel
theorem dX30_place_45 : decode cX30_place 45 = .ok (.aload_n 1, 1) := by decide +kernel
theorem dX30_place_46 : decode cX30_place 46 = .ok (.aload_n 0, 1) := by decide +kernel
theorem dX30_place_47 : decode cX30_place 47 = .ok (.getfield 66, 3) := by decide +kernel
theorem dX30_place_50 : decode cX30_place 50 = .ok (.iload_n 3, 1) := by decide +kernel
theorem dX30_place_51 : decode cX30_place 51 = .ok (.invokevirtual 627, 3) := by decide +kernel
theorem dX30_place_54 : decode cX30_place 54 = .ok (.checkcast 827, 3) := by decide +kernel
theorem dX30_place_57 : decode cX30_place 57 = .ok (.putfield 928, 3) := by decide +kernel
theorem dX30_place_60 : decode cX30_place 60 = .ok (.iinc 3 (-1), 3) := by decide +kernel
theorem dX30_place_63 : decode cX30_place 63 = .ok (.goto (-53), 3) := by decide +kernel
theorem dX30_place_66 : decode cX30_place 66 = .ok (.aload_n 1, 1) := by decide +kernel
theorem dX30_place_67 : decode cX30_place 67 = .ok (.getfield 928, 3) := by decide +kernel
theorem dX30_place_70 : decode cX30_place 70 = .ok (.ifnonnull 11, 3) := by decide +kernel
theorem dX30_place_73 : decode cX30_place 73 = .ok (.aload_n 0, 1) := by decide +kernel
theorem dX30_place_74 : decode cX30_place 74 = .ok (.aload_n 1, 1) := by decide +kernel
theorem dX30_place_75 : decode cX30_place 75 = .ok (.getfield 720, 3) := by decide +kernel
theorem dX30_place_78 : decode cX30_place 78 = .ok (.invokevirtual 746, 3) := by decide +kernel
theorem dX30_place_81 : decode cX30_place 81 = .ok (.aload_n 1, 1) := by decide +kernel
theorem dX30_place_82 : decode cX30_place 82 = .ok (.getfield 928, 3) := by decide +kernel
theorem dX30_place_85 : decode cX30_place 85 = .ok (.ifnonnull 7, 3) := by decide +kernel
theorem dX30_place_88 : decode cX30_place 88 = .ok (.aconst_null, 1) := by decide +kernel
theorem dX30_place_89 : decode cX30_place 89 = .ok (.goto 10, 3) := by decide +kernel
theorem dX30_place_92 : decode cX30_place 92 = .ok (.aload_n 1, 1) := by decide +kernel
theorem dX30_place_93 : decode cX30_place 93 = .ok (.getfield 928, 3) := by decide +kernel
theorem dX30_place_96 : decode cX30_place 96 = .ok (.getfield 832, 3) := by decide +kernel
theorem dX30_place_99 : decode cX30_place 99 = .ok (.astore_n 3, 1) := by decide +kernel
theorem dX30_place_100 : decode cX30_place 100 = .ok (.iconst 0, 1) := by decide +kernel
theorem dX30_place_101 : decode cX30_place 101 = .ok (.istore 4, 2) := by decide +kernel
theorem dX30_place_103 : decode cX30_place 103 = .ok (.iconst 1, 1) := by decide +kernel
theorem dX30_place_104 : decode cX30_place 104 = .ok (.istore 5, 2) := by decide +kernel
theorem dX30_place_106 : decode cX30_place 106 = .ok (.iconst 0, 1) := by decide +kernel
theorem dX30_place_107 : decode cX30_place 107 = .ok (.istore 6, 2) := by decide +kernel
theorem dX30_place_109 : decode cX30_place 109 = .ok (.iload 6, 2) := by decide +kernel
theorem dX30_place_111 : decode cX30_place 111 = .ok (.aload_n 1, 1) := by decide +kernel
theorem dX30_place_112 : decode cX30_place 112 = .ok (.getfield 741, 3) := by decide +kernel
theorem dX30_place_115 : decode cX30_place 115 = .ok (.invokevirtual 404, 3) := by decide +kernel
theorem dX30_place_118 : decode cX30_place 118 = .ok (.if_icmp .ge 199, 3) := by decide +kernel
theorem dX30_place_121 : decode cX30_place 121 = .ok (.aload_n 1, 1) := by decide +kernel
theorem dX30_place_122 : decode cX30_place 122 = .ok (.getfield 741, 3) := by decide +kernel
theorem dX30_place_125 : decode cX30_place 125 = .ok (.iload 6, 2) := by decide +kernel
theorem dX30_place_127 : decode cX30_place 127 = .ok (.invokevirtual 627, 3) := by decide +kernel
theorem dX30_place_130 : decode cX30_place 130 = .ok (.checkcast 731, 3) := by decide +kernel
theorem dX30_place_133 : decode cX30_place 133 = .ok (.astore 7, 2) := by decide +kernel
theorem dX30_place_135 : decode cX30_place 135 = .ok (.aload 7, 2) := by decide +kernel
theorem dX30_place_137 : decode cX30_place 137 = .ok (.aload_n 3, 1) := by decide +kernel
theorem dX30_place_138 : decode cX30_place 138 = .ok (.putfield 929, 3) := by decide +kernel
theorem dX30_place_141 : decode cX30_place 141 = .ok (.aload 7, 2) := by decide +kernel
theorem dX30_place_143 : decode cX30_place 143 = .ok (.getfield 736, 3) := by decide +kernel
theorem dX30_place_146 : decode cX30_place 146 = .ok (.iconst 2, 1) := by decide +kernel
theorem dX30_place_147 : decode cX30_place 147 = .ok (.if_icmp .ne 38, 3) := by decide +kernel
theorem dX30_place_150 : decode cX30_place 150 = .ok (.aload_n 0, 1) := by decide +kernel
theorem dX30_place_151 : decode cX30_place 151 = .ok (.aload 7, 2) := by decide +kernel
theorem dX30_place_153 : decode cX30_place 153 = .ok (.getfield 739, 3) := by decide +kernel
theorem dX30_place_156 : decode cX30_place 156 = .ok (.iconst 1, 1) := by decide +kernel
theorem dX30_place_157 : decode cX30_place 157 = .ok (.invokevirtual 894, 3) := by decide +kernel
theorem dX30_place_160 : decode cX30_place 160 = .ok (.aload_n 0, 1) := by decide +kernel
theorem dX30_place_161 : decode cX30_place 161 = .ok (.aload 7, 2) := by decide +kernel
theorem dX30_place_163 : decode cX30_place 163 = .ok (.getfield 739, 3) := by decide +kernel
theorem dX30_place_166 : decode cX30_place 166 = .ok (.iconst 0, 1) := by decide +kernel
theorem dX30_place_167 : decode cX30_place 167 = .ok (.invokevirtual 911, 3) := by decide +kernel
theorem dX30_place_170 : decode cX30_place 170 = .ok (.ifCond .ne 15, 3) := by decide +kernel
theorem dX30_place_173 : decode cX30_place 173 = .ok (.aload_n 0, 1) := by decide +kernel
theorem dX30_place_174 : decode cX30_place 174 = .ok (.aload 7, 2) := by decide +kernel
theorem dX30_place_176 : decode cX30_place 176 = .ok (.getfield 739, 3) := by decide +kernel
theorem dX30_place_179 : decode cX30_place 179 = .ok (.getfield 665, 3) := by decide +kernel
theorem dX30_place_182 : decode cX30_place 182 = .ok (.invokevirtual 746, 3) := by decide +kernel
theorem dX30_place_185 : decode cX30_place 185 = .ok (.iload 4, 2) := by decide +kernel
theorem dX30_place_187 : decode cX30_place 187 = .ok (.ifCond .ne 24, 3) := by decide +kernel
theorem dX30_place_190 : decode cX30_place 190 = .ok (.aload 7, 2) := by decide +kernel
theorem dX30_place_192 : decode cX30_place 192 = .ok (.getfield 736, 3) := by decide +kernel
theorem dX30_place_195 : decode cX30_place 195 = .ok (.iconst 1, 1) := by decide +kernel
theorem dX30_place_196 : decode cX30_place 196 = .ok (.if_icmp .ne 19, 3) := by decide +kernel
theorem dX30_place_199 : decode cX30_place 199 = .ok (.aload_n 3, 1) := by decide +kernel
theorem dX30_place_200 : decode cX30_place 200 = .ok (.ifnull 15, 3) := by decide +kernel
theorem dX30_place_203 : decode cX30_place 203 = .ok (.aload_n 3, 1) := by decide +kernel
theorem dX30_place_204 : decode cX30_place 204 = .ok (.getfield 769, 3) := by decide +kernel
theorem dX30_place_207 : decode cX30_place 207 = .ok (.iconst 5, 1) := by decide +kernel
theorem dX30_place_208 : decode cX30_place 208 = .ok (.if_icmp .ne 7, 3) := by decide +kernel
theorem dX30_place_211 : decode cX30_place 211 = .ok (.iconst 1, 1) := by decide +kernel
theorem dX30_place_212 : decode cX30_place 212 = .ok (.goto 4, 3) := by decide +kernel
theorem dX30_place_215 : decode cX30_place 215 = .ok (.iconst 0, 1) := by decide +kernel
theorem dX30_place_216 : decode cX30_place 216 = .ok (.istore 4, 2) := by decide +kernel
theorem dX30_place_218 : decode cX30_place 218 = .ok (.iload 5, 2) := by decide +kernel
theorem dX30_place_220 : decode cX30_place 220 = .ok (.ifCond .eq 36, 3) := by decide +kernel
theorem dX30_place_223 : decode cX30_place 223 = .ok (.aload 7, 2) := by decide +kernel
theorem dX30_place_225 : decode cX30_place 225 = .ok (.getfield 736, 3) := by decide +kernel
theorem dX30_place_228 : decode cX30_place 228 = .ok (.ifCond .ne 28, 3) := by decide +kernel
theorem dX30_place_231 : decode cX30_place 231 = .ok (.aload_n 3, 1) := by decide +kernel
theorem dX30_place_232 : decode cX30_place 232 = .ok (.ifnull 20, 3) := by decide +kernel
theorem dX30_place_235 : decode cX30_place 235 = .ok (.aload_n 3, 1) := by decide +kernel
theorem dX30_place_236 : decode cX30_place 236 = .ok (.invokevirtual 930, 3) := by decide +kernel
theorem dX30_place_239 : decode cX30_place 239 = .ok (.ifCond .eq 13, 3) := by decide +kernel
theorem dX30_place_242 : decode cX30_place 242 = .ok (.aload_n 3, 1) := by decide +kernel
theorem dX30_place_243 : decode cX30_place 243 = .ok (.getfield 801, 3) := by decide +kernel
theorem dX30_place_246 : decode cX30_place 246 = .ok (.getfield 369, 3) := by decide +kernel
theorem dX30_place_249 : decode cX30_place 249 = .ok (.ifCond .ne 7, 3) := by decide +kernel
theorem dX30_place_252 : decode cX30_place 252 = .ok (.iconst 1, 1) := by decide +kernel
theorem dX30_place_253 : decode cX30_place 253 = .ok (.goto 4, 3) := by decide +kernel
theorem dX30_place_256 : decode cX30_place 256 = .ok (.iconst 0, 1) := by decide +kernel
theorem dX30_place_257 : decode cX30_place 257 = .ok (.istore 5, 2) := by decide +kernel
theorem dX30_place_259 : decode cX30_place 259 = .ok (.aload_n 3, 1) := by decide +kernel
theorem dX30_place_260 : decode cX30_place 260 = .ok (.ifnonnull 7, 3) := by decide +kernel
theorem dX30_place_263 : decode cX30_place 263 = .ok (.aconst_null, 1) := by decide +kernel
theorem dX30_place_264 : decode cX30_place 264 = .ok (.goto 10, 3) := by decide +kernel
theorem dX30_place_267 : decode cX30_place 267 = .ok (.aload_n 0, 1) := by decide +kernel
theorem dX30_place_268 : decode cX30_place 268 = .ok (.aload 7, 2) := by decide +kernel
theorem dX30_place_270 : decode cX30_place 270 = .ok (.aload_n 3, 1) := by decide +kernel
theorem dX30_place_271 : decode cX30_place 271 = .ok (.invokevirtual 933, 3) := by decide +kernel
theorem dX30_place_274 : decode cX30_place 274 = .ok (.astore_n 3, 1) := by decide +kernel
theorem dX30_place_275 : decode cX30_place 275 = .ok (.aload 7, 2) := by decide +kernel
theorem dX30_place_277 : decode cX30_place 277 = .ok (.getfield 736, 3) := by decide +kernel
theorem dX30_place_280 : decode cX30_place 280 = .ok (.iconst 2, 1) := by decide +kernel
theorem dX30_place_281 : decode cX30_place 281 = .ok (.if_icmp .ne 30, 3) := by decide +kernel
theorem dX30_place_284 : decode cX30_place 284 = .ok (.aload 7, 2) := by decide +kernel
theorem dX30_place_286 : decode cX30_place 286 = .ok (.getfield 739, 3) := by decide +kernel
theorem dX30_place_289 : decode cX30_place 289 = .ok (.getfield 893, 3) := by decide +kernel
theorem dX30_place_292 : decode cX30_place 292 = .ok (.ifnull 17, 3) := by decide +kernel
theorem dX30_place_295 : decode cX30_place 295 = .ok (.aload 7, 2) := by decide +kernel
theorem dX30_place_297 : decode cX30_place 297 = .ok (.getfield 739, 3) := by decide +kernel
theorem dX30_place_300 : decode cX30_place 300 = .ok (.getfield 893, 3) := by decide +kernel
theorem dX30_place_303 : decode cX30_place 303 = .ok (.getfield 769, 3) := by decide +kernel
theorem dX30_place_306 : decode cX30_place 306 = .ok (.ifCond .eq 5, 3) := by decide +kernel
theorem dX30_place_309 : decode cX30_place 309 = .ok (.aconst_null, 1) := by decide +kernel
theorem dX30_place_310 : decode cX30_place 310 = .ok (.astore_n 3, 1) := by decide +kernel
theorem dX30_place_311 : decode cX30_place 311 = .ok (.iinc 6 1, 3) := by decide +kernel
theorem dX30_place_314 : decode cX30_place 314 = .ok (.goto (-205), 3) := by decide +kernel
theorem dX30_place_317 : decode cX30_place 317 = .ok (.aload_n 1, 1) := by decide +kernel
theorem dX30_place_318 : decode cX30_place 318 = .ok (.aload_n 3, 1) := by decide +kernel
theorem dX30_place_319 : decode cX30_place 319 = .ok (.putfield 908, 3) := by decide +kernel
theorem dX30_place_322 : decode cX30_place 322 = .ok (.aload_n 1, 1) := by decide +kernel
theorem dX30_place_323 : decode cX30_place 323 = .ok (.iload_n 2, 1) := by decide +kernel
theorem dX30_place_324 : decode cX30_place 324 = .ok (.putfield 937, 3) := by decide +kernel
theorem dX30_place_327 : decode cX30_place 327 = .ok (.iload_n 2, 1) := by decide +kernel
theorem dX30_place_328 : decode cX30_place 328 = .ok (.iconst 1, 1) := by decide +kernel
theorem dX30_place_329 : decode cX30_place 329 = .ok (.if_icmp .ne 19, 3) := by decide +kernel
theorem dX30_place_332 : decode cX30_place 332 = .ok (.aload_n 3, 1) := by decide +kernel
theorem dX30_place_333 : decode cX30_place 333 = .ok (.ifnull 15, 3) := by decide +kernel
theorem dX30_place_336 : decode cX30_place 336 = .ok (.aload_n 3, 1) := by decide +kernel
theorem dX30_place_337 : decode cX30_place 337 = .ok (.invokevirtual 940, 3) := by decide +kernel
theorem dX30_place_340 : decode cX30_place 340 = .ok (.ifCond .eq 8, 3) := by decide +kernel
theorem dX30_place_343 : decode cX30_place 343 = .ok (.aload_n 1, 1) := by decide +kernel
theorem dX30_place_344 : decode cX30_place 344 = .ok (.iconst 0, 1) := by decide +kernel
theorem dX30_place_345 : decode cX30_place 345 = .ok (.putfield 937, 3) := by decide +kernel
theorem dX30_place_348 : decode cX30_place 348 = .ok (.aload_n 1, 1) := by decide +kernel
theorem dX30_place_349 : decode cX30_place 349 = .ok (.getfield 937, 3) := by decide +kernel
theorem dX30_place_352 : decode cX30_place 352 = .ok (.ifCond .eq 27, 3) := by decide +kernel
theorem dX30_place_355 : decode cX30_place 355 = .ok (.aload_n 1, 1) := by decide +kernel
theorem dX30_place_356 : decode cX30_place 356 = .ok (.getfield 937, 3) := by decide +kernel
theorem dX30_place_359 : decode cX30_place 359 = .ok (.iconst 2, 1) := by decide +kernel
theorem dX30_place_360 : decode cX30_place 360 = .ok (.if_icmp .eq 19, 3) := by decide +kernel
theorem dX30_place_363 : decode cX30_place 363 = .ok (.aload_n 1, 1) := by decide +kernel
theorem dX30_place_364 : decode cX30_place 364 = .ok (.getfield 937, 3) := by decide +kernel
theorem dX30_place_367 : decode cX30_place 367 = .ok (.iconst 1, 1) := by decide +kernel
theorem dX30_place_368 : decode cX30_place 368 = .ok (.if_icmp .ne 7, 3) := by decide +kernel
theorem dX30_place_371 : decode cX30_place 371 = .ok (.aload_n 3, 1) := by decide +kernel
theorem dX30_place_372 : decode cX30_place 372 = .ok (.ifnull 7, 3) := by decide +kernel
theorem dX30_place_375 : decode cX30_place 375 = .ok (.iconst 1, 1) := by decide +kernel
theorem dX30_place_376 : decode cX30_place 376 = .ok (.goto 4, 3) := by decide +kernel
theorem dX30_place_379 : decode cX30_place 379 = .ok (.iconst 0, 1) := by decide +kernel
theorem dX30_place_380 : decode cX30_place 380 = .ok (.istore 6, 2) := by decide +kernel
theorem dX30_place_382 : decode cX30_place 382 = .ok (.iload 6, 2) := by decide +kernel
theorem dX30_place_384 : decode cX30_place 384 = .ok (.ifCond .eq 34, 3) := by decide +kernel
theorem dX30_place_387 : decode cX30_place 387 = .ok (.aload_n 1, 1) := by decide +kernel
theorem dX30_place_388 : decode cX30_place 388 = .ok (.getfield 937, 3) := by decide +kernel
theorem dX30_place_391 : decode cX30_place 391 = .ok (.iconst 1, 1) := by decide +kernel
theorem dX30_place_392 : decode cX30_place 392 = .ok (.if_icmp .ne 8, 3) := by decide +kernel
theorem dX30_place_395 : decode cX30_place 395 = .ok (.iload 5, 2) := by decide +kernel
theorem dX30_place_397 : decode cX30_place 397 = .ok (.ifCond .eq 8, 3) := by decide +kernel
theorem dX30_place_400 : decode cX30_place 400 = .ok (.iload 4, 2) := by decide +kernel
theorem dX30_place_402 : decode cX30_place 402 = .ok (.ifCond .eq 16, 3) := by decide +kernel
theorem dX30_place_405 : decode cX30_place 405 = .ok (.aload_n 0, 1) := by decide +kernel
theorem dX30_place_406 : decode cX30_place 406 = .ok (.aload_n 1, 1) := by decide +kernel
theorem dX30_place_407 : decode cX30_place 407 = .ok (.getfield 720, 3) := by decide +kernel
theorem dX30_place_410 : decode cX30_place 410 = .ok (.invokevirtual 746, 3) := by decide +kernel
theorem dX30_place_413 : decode cX30_place 413 = .ok (.aload_n 1, 1) := by decide +kernel
theorem dX30_place_414 : decode cX30_place 414 = .ok (.aconst_null, 1) := by decide +kernel
theorem dX30_place_415 : decode cX30_place 415 = .ok (.putfield 908, 3) := by decide +kernel
theorem dX30_place_418 : decode cX30_place 418 = .ok (.aload_n 1, 1) := by decide +kernel
theorem dX30_place_419 : decode cX30_place 419 = .ok (.getfield 727, 3) := by decide +kernel
theorem dX30_place_422 : decode cX30_place 422 = .ok (.sipush 400, 3) := by decide +kernel
theorem dX30_place_425 : decode cX30_place 425 = .ok (.if_icmp .lt 8, 3) := by decide +kernel
theorem dX30_place_428 : decode cX30_place 428 = .ok (.aload_n 1, 1) := by decide +kernel
theorem dX30_place_429 : decode cX30_place 429 = .ok (.aconst_null, 1) := by decide +kernel
theorem dX30_place_430 : decode cX30_place 430 = .ok (.putfield 908, 3) := by decide +kernel
theorem dX30_place_433 : decode cX30_place 433 = .ok (.return_, 1) := by decide +kernel
theorem dX30_loan_0 : decode cX30_loan 0 = .ok (.aload_n 0, 1) := by decide +kernel
theorem dX30_loan_1 : decode cX30_loan 1 = .ok (.getfield 1250, 3) := by decide +kernel
theorem dX30_loan_4 : decode cX30_loan 4 = .ok (.ifnull 20, 3) := by decide +kernel
theorem dX30_loan_7 : decode cX30_loan 7 = .ok (.iload_n 1, 1) := by decide +kernel
theorem dX30_loan_8 : decode cX30_loan 8 = .ok (.aload_n 0, 1) := by decide +kernel
theorem dX30_loan_9 : decode cX30_loan 9 = .ok (.getfield 1250, 3) := by decide +kernel
theorem dX30_loan_12 : decode cX30_loan 12 = .ok (.getfield 1256, 3) := by decide +kernel
theorem dX30_loan_15 : decode cX30_loan 15 = .ok (.invokevirtual 404, 3) := by decide +kernel
theorem dX30_loan_18 : decode cX30_loan 18 = .ok (.invokestatic 1560, 3) := by decide +kernel
theorem dX30_loan_21 : decode cX30_loan 21 = .ok (.ifCond .ne 5, 3) := by decide +kernel
theorem dX30_loan_24 : decode cX30_loan 24 = .ok (.iconst (-1), 1) := by decide +kernel
theorem dX30_loan_25 : decode cX30_loan 25 = .ok (.ireturn, 1) := by decide +kernel
theorem dX30_loan_26 : decode cX30_loan 26 = .ok (.aload_n 0, 1) := by decide +kernel
theorem dX30_loan_27 : decode cX30_loan 27 = .ok (.getfield 1250, 3) := by decide +kernel
theorem dX30_loan_30 : decode cX30_loan 30 = .ok (.getfield 1256, 3) := by decide +kernel
theorem dX30_loan_33 : decode cX30_loan 33 = .ok (.iload_n 1, 1) := by decide +kernel
theorem dX30_loan_34 : decode cX30_loan 34 = .ok (.invokevirtual 627, 3) := by decide +kernel
theorem dX30_loan_37 : decode cX30_loan 37 = .ok (.checkcast 876, 3) := by decide +kernel
theorem dX30_loan_40 : decode cX30_loan 40 = .ok (.astore_n 3, 1) := by decide +kernel
theorem dX30_loan_41 : decode cX30_loan 41 = .ok (.iload_n 2, 1) := by decide +kernel
theorem dX30_loan_42 : decode cX30_loan 42 = .ok (.tableswitch 61 0 3 #[30, 35, 48, 56], 30) := by decide +kernel
theorem dX30_loan_72 : decode cX30_loan 72 = .ok (.aload_n 3, 1) := by decide +kernel
theorem dX30_loan_73 : decode cX30_loan 73 = .ok (.getfield 878, 3) := by decide +kernel
theorem dX30_loan_76 : decode cX30_loan 76 = .ok (.ireturn, 1) := by decide +kernel
theorem dX30_loan_77 : decode cX30_loan 77 = .ok (.aload_n 3, 1) := by decide +kernel
theorem dX30_loan_78 : decode cX30_loan 78 = .ok (.getfield 980, 3) := by decide +kernel
theorem dX30_loan_81 : decode cX30_loan 81 = .ok (.ifCond .eq 7, 3) := by decide +kernel
theorem dX30_loan_84 : decode cX30_loan 84 = .ok (.iconst 1, 1) := by decide +kernel
theorem dX30_loan_85 : decode cX30_loan 85 = .ok (.goto 4, 3) := by decide +kernel
theorem dX30_loan_88 : decode cX30_loan 88 = .ok (.iconst 0, 1) := by decide +kernel
theorem dX30_loan_89 : decode cX30_loan 89 = .ok (.ireturn, 1) := by decide +kernel
theorem dX30_loan_90 : decode cX30_loan 90 = .ok (.aload_n 3, 1) := by decide +kernel
theorem dX30_loan_91 : decode cX30_loan 91 = .ok (.getfield 983, 3) := by decide +kernel
theorem dX30_loan_94 : decode cX30_loan 94 = .ok (.getfield 727, 3) := by decide +kernel
theorem dX30_loan_97 : decode cX30_loan 97 = .ok (.ireturn, 1) := by decide +kernel
theorem dX30_loan_98 : decode cX30_loan 98 = .ok (.aload_n 3, 1) := by decide +kernel
theorem dX30_loan_99 : decode cX30_loan 99 = .ok (.getfield 1223, 3) := by decide +kernel
theorem dX30_loan_102 : decode cX30_loan 102 = .ok (.ireturn, 1) := by decide +kernel
theorem dX30_loan_103 : decode cX30_loan 103 = .ok (.iconst (-1), 1) := by decide +kernel
theorem dX30_loan_104 : decode cX30_loan 104 = .ok (.ireturn, 1) := by decide +kernel
theorem dX30_force_0 : decode cX30_force 0 = .ok (.aload_n 0, 1) := by decide +kernel
theorem dX30_force_1 : decode cX30_force 1 = .ok (.getfield 1250, 3) := by decide +kernel
theorem dX30_force_4 : decode cX30_force 4 = .ok (.ifnull 37, 3) := by decide +kernel
theorem dX30_force_7 : decode cX30_force 7 = .ok (.iload_n 1, 1) := by decide +kernel
theorem dX30_force_8 : decode cX30_force 8 = .ok (.aload_n 0, 1) := by decide +kernel
theorem dX30_force_9 : decode cX30_force 9 = .ok (.getfield 1250, 3) := by decide +kernel
theorem dX30_force_12 : decode cX30_force 12 = .ok (.getfield 1256, 3) := by decide +kernel
theorem dX30_force_15 : decode cX30_force 15 = .ok (.invokevirtual 404, 3) := by decide +kernel
theorem dX30_force_18 : decode cX30_force 18 = .ok (.invokestatic 1560, 3) := by decide +kernel
theorem dX30_force_21 : decode cX30_force 21 = .ok (.ifCond .eq 20, 3) := by decide +kernel
theorem dX30_force_24 : decode cX30_force 24 = .ok (.iload_n 2, 1) := by decide +kernel
theorem dX30_force_25 : decode cX30_force 25 = .ok (.aload_n 0, 1) := by decide +kernel
theorem dX30_force_26 : decode cX30_force 26 = .ok (.getfield 1250, 3) := by decide +kernel
theorem dX30_force_29 : decode cX30_force 29 = .ok (.getfield 724, 3) := by decide +kernel
theorem dX30_force_32 : decode cX30_force 32 = .ok (.invokevirtual 404, 3) := by decide +kernel
theorem dX30_force_35 : decode cX30_force 35 = .ok (.invokestatic 1560, 3) := by decide +kernel
theorem dX30_force_38 : decode cX30_force 38 = .ok (.ifCond .ne 5, 3) := by decide +kernel
theorem dX30_force_41 : decode cX30_force 41 = .ok (.iconst (-1), 1) := by decide +kernel
theorem dX30_force_42 : decode cX30_force 42 = .ok (.ireturn, 1) := by decide +kernel
theorem dX30_force_43 : decode cX30_force 43 = .ok (.aload_n 0, 1) := by decide +kernel
theorem dX30_force_44 : decode cX30_force 44 = .ok (.getfield 123, 3) := by decide +kernel
theorem dX30_force_47 : decode cX30_force 47 = .ok (.bipush 7, 2) := by decide +kernel
theorem dX30_force_49 : decode cX30_force 49 = .ok (.iload_n 1, 1) := by decide +kernel
theorem dX30_force_50 : decode cX30_force 50 = .ok (.imul, 1) := by decide +kernel
theorem dX30_force_51 : decode cX30_force 51 = .ok (.iload_n 2, 1) := by decide +kernel
theorem dX30_force_52 : decode cX30_force 52 = .ok (.bipush 64, 2) := by decide +kernel
theorem dX30_force_54 : decode cX30_force 54 = .ok (.idiv, 1) := by decide +kernel
theorem dX30_force_55 : decode cX30_force 55 = .ok (.iadd, 1) := by decide +kernel
theorem dX30_force_56 : decode cX30_force 56 = .ok (.laload, 1) := by decide +kernel
theorem dX30_force_57 : decode cX30_force 57 = .ok (.iload_n 2, 1) := by decide +kernel
theorem dX30_force_58 : decode cX30_force 58 = .ok (.bipush 64, 2) := by decide +kernel
theorem dX30_force_60 : decode cX30_force 60 = .ok (.irem, 1) := by decide +kernel
theorem dX30_force_61 : decode cX30_force 61 = .ok (.lushr, 1) := by decide +kernel
theorem dX30_force_62 : decode cX30_force 62 = .ok (.lconst 1, 1) := by decide +kernel
theorem dX30_force_63 : decode cX30_force 63 = .ok (.land, 1) := by decide +kernel
theorem dX30_force_64 : decode cX30_force 64 = .ok (.l2i, 1) := by decide +kernel
theorem dX30_force_65 : decode cX30_force 65 = .ok (.ireturn, 1) := by decide +kernel
theorem dX30_function_0 : decode cX30_function 0 = .ok (.aload_n 0, 1) := by decide +kernel
theorem dX30_function_1 : decode cX30_function 1 = .ok (.getfield 1250, 3) := by decide +kernel
theorem dX30_function_4 : decode cX30_function 4 = .ok (.ifnull 20, 3) := by decide +kernel
theorem dX30_function_7 : decode cX30_function 7 = .ok (.iload_n 1, 1) := by decide +kernel
theorem dX30_function_8 : decode cX30_function 8 = .ok (.aload_n 0, 1) := by decide +kernel
theorem dX30_function_9 : decode cX30_function 9 = .ok (.getfield 1250, 3) := by decide +kernel
theorem dX30_function_12 : decode cX30_function 12 = .ok (.getfield 501, 3) := by decide +kernel
theorem dX30_function_15 : decode cX30_function 15 = .ok (.invokevirtual 404, 3) := by decide +kernel
theorem dX30_function_18 : decode cX30_function 18 = .ok (.invokestatic 1560, 3) := by decide +kernel
theorem dX30_function_21 : decode cX30_function 21 = .ok (.ifCond .ne 5, 3) := by decide +kernel
theorem dX30_function_24 : decode cX30_function 24 = .ok (.iconst (-1), 1) := by decide +kernel
theorem dX30_function_25 : decode cX30_function 25 = .ok (.ireturn, 1) := by decide +kernel
theorem dX30_function_26 : decode cX30_function 26 = .ok (.aload_n 0, 1) := by decide +kernel
theorem dX30_function_27 : decode cX30_function 27 = .ok (.getfield 1250, 3) := by decide +kernel
theorem dX30_function_30 : decode cX30_function 30 = .ok (.getfield 501, 3) := by decide +kernel
theorem dX30_function_33 : decode cX30_function 33 = .ok (.iload_n 1, 1) := by decide +kernel
theorem dX30_function_34 : decode cX30_function 34 = .ok (.invokevirtual 627, 3) := by decide +kernel
theorem dX30_function_37 : decode cX30_function 37 = .ok (.checkcast 167, 3) := by decide +kernel
theorem dX30_function_40 : decode cX30_function 40 = .ok (.astore_n 3, 1) := by decide +kernel
theorem dX30_function_41 : decode cX30_function 41 = .ok (.iload_n 2, 1) := by decide +kernel
theorem dX30_function_42 : decode cX30_function 42 = .ok (.tableswitch 56 0 3 #[30, 38, 43, 48], 30) := by decide +kernel
theorem dX30_function_72 : decode cX30_function 72 = .ok (.aload_n 3, 1) := by decide +kernel
theorem dX30_function_73 : decode cX30_function 73 = .ok (.getfield 836, 3) := by decide +kernel
theorem dX30_function_76 : decode cX30_function 76 = .ok (.invokevirtual 404, 3) := by decide +kernel
theorem dX30_function_79 : decode cX30_function 79 = .ok (.ireturn, 1) := by decide +kernel
theorem dX30_function_80 : decode cX30_function 80 = .ok (.aload_n 3, 1) := by decide +kernel
theorem dX30_function_81 : decode cX30_function 81 = .ok (.getfield 840, 3) := by decide +kernel
theorem dX30_function_84 : decode cX30_function 84 = .ok (.ireturn, 1) := by decide +kernel
theorem dX30_function_85 : decode cX30_function 85 = .ok (.aload_n 3, 1) := by decide +kernel
theorem dX30_function_86 : decode cX30_function 86 = .ok (.getfield 1150, 3) := by decide +kernel
theorem dX30_function_89 : decode cX30_function 89 = .ok (.ireturn, 1) := by decide +kernel
theorem dX30_function_90 : decode cX30_function 90 = .ok (.aload_n 3, 1) := by decide +kernel
theorem dX30_function_91 : decode cX30_function 91 = .ok (.getfield 873, 3) := by decide +kernel
theorem dX30_function_94 : decode cX30_function 94 = .ok (.invokevirtual 404, 3) := by decide +kernel
theorem dX30_function_97 : decode cX30_function 97 = .ok (.ireturn, 1) := by decide +kernel
theorem dX30_function_98 : decode cX30_function 98 = .ok (.iconst (-1), 1) := by decide +kernel
theorem dX30_function_99 : decode cX30_function 99 = .ok (.ireturn, 1) := by decide +kernel
theorem dX30_size_0 : decode cX30_size 0 = .ok (.aload_n 0, 1) := by decide +kernel
theorem dX30_size_1 : decode cX30_size 1 = .ok (.getfield 1250, 3) := by decide +kernel
theorem dX30_size_4 : decode cX30_size 4 = .ok (.ifnull 20, 3) := by decide +kernel
theorem dX30_size_7 : decode cX30_size 7 = .ok (.iload_n 1, 1) := by decide +kernel
theorem dX30_size_8 : decode cX30_size 8 = .ok (.aload_n 0, 1) := by decide +kernel
theorem dX30_size_9 : decode cX30_size 9 = .ok (.getfield 1250, 3) := by decide +kernel
theorem dX30_size_12 : decode cX30_size 12 = .ok (.getfield 399, 3) := by decide +kernel
theorem dX30_size_15 : decode cX30_size 15 = .ok (.invokevirtual 404, 3) := by decide +kernel
theorem dX30_size_18 : decode cX30_size 18 = .ok (.invokestatic 1560, 3) := by decide +kernel
theorem dX30_size_21 : decode cX30_size 21 = .ok (.ifCond .ne 7, 3) := by decide +kernel
theorem dX30_size_24 : decode cX30_size 24 = .ok (.iconst (-1), 1) := by decide +kernel
theorem dX30_size_25 : decode cX30_size 25 = .ok (.goto 20, 3) := by decide +kernel
theorem dX30_size_28 : decode cX30_size 28 = .ok (.aload_n 0, 1) := by decide +kernel
theorem dX30_size_29 : decode cX30_size 29 = .ok (.getfield 1250, 3) := by decide +kernel
theorem dX30_size_32 : decode cX30_size 32 = .ok (.getfield 399, 3) := by decide +kernel
theorem dX30_size_35 : decode cX30_size 35 = .ok (.iload_n 1, 1) := by decide +kernel
theorem dX30_size_36 : decode cX30_size 36 = .ok (.invokevirtual 627, 3) := by decide +kernel
theorem dX30_size_39 : decode cX30_size 39 = .ok (.checkcast 348, 3) := by decide +kernel
theorem dX30_size_42 : decode cX30_size 42 = .ok (.getfield 776, 3) := by decide +kernel
theorem dX30_size_45 : decode cX30_size 45 = .ok (.ireturn, 1) := by decide +kernel
theorem dX30_strays_0 : decode cX30_strays 0 = .ok (.aload_n 0, 1) := by decide +kernel
theorem dX30_strays_1 : decode cX30_strays 1 = .ok (.getfield 1359, 3) := by decide +kernel
theorem dX30_strays_4 : decode cX30_strays 4 = .ok (.ireturn, 1) := by decide +kernel
theorem dX30_twices_0 : decode cX30_twices 0 = .ok (.aload_n 0, 1) := by decide +kernel
theorem dX30_twices_1 : decode cX30_twices 1 = .ok (.getfield 1387, 3) := by decide +kernel
theorem dX30_twices_4 : decode cX30_twices 4 = .ok (.ireturn, 1) := by decide +kernel
theorem dX30_lefts_0 : decode cX30_lefts 0 = .ok (.aload_n 0, 1) := by decide +kernel
theorem dX30_lefts_1 : decode cX30_lefts 1 = .ok (.getfield 1546, 3) := by decide +kernel
theorem dX30_lefts_4 : decode cX30_lefts 4 = .ok (.ireturn, 1) := by decide +kernel
theorem dX30_clashes_0 : decode cX30_clashes 0 = .ok (.aload_n 0, 1) := by decide +kernel
theorem dX30_clashes_1 : decode cX30_clashes 1 = .ok (.getfield 983, 3) := by decide +kernel
theorem dX30_clashes_4 : decode cX30_clashes 4 = .ok (.getfield 928, 3) := by decide +kernel
theorem dX30_clashes_7 : decode cX30_clashes 7 = .ok (.aload_n 1, 1) := by decide +kernel
theorem dX30_clashes_8 : decode cX30_clashes 8 = .ok (.getfield 928, 3) := by decide +kernel
theorem dX30_clashes_11 : decode cX30_clashes 11 = .ok (.if_acmp .ne 25, 3) := by decide +kernel
theorem dX30_clashes_14 : decode cX30_clashes 14 = .ok (.aload_n 0, 1) := by decide +kernel
theorem dX30_clashes_15 : decode cX30_clashes 15 = .ok (.getfield 980, 3) := by decide +kernel
theorem dX30_clashes_18 : decode cX30_clashes 18 = .ok (.ifCond .ne 20, 3) := by decide +kernel
theorem dX30_clashes_21 : decode cX30_clashes 21 = .ok (.aload_n 1, 1) := by decide +kernel
theorem dX30_clashes_22 : decode cX30_clashes 22 = .ok (.getfield 937, 3) := by decide +kernel
theorem dX30_clashes_25 : decode cX30_clashes 25 = .ok (.ifCond .eq 11, 3) := by decide +kernel
theorem dX30_clashes_28 : decode cX30_clashes 28 = .ok (.aload_n 1, 1) := by decide +kernel
theorem dX30_clashes_29 : decode cX30_clashes 29 = .ok (.getfield 937, 3) := by decide +kernel
theorem dX30_clashes_32 : decode cX30_clashes 32 = .ok (.iconst 2, 1) := by decide +kernel
theorem dX30_clashes_33 : decode cX30_clashes 33 = .ok (.if_icmp .ne 5, 3) := by decide +kernel
theorem dX30_clashes_36 : decode cX30_clashes 36 = .ok (.iconst 0, 1) := by decide +kernel
theorem dX30_clashes_37 : decode cX30_clashes 37 = .ok (.ireturn, 1) := by decide +kernel
theorem dX30_clashes_38 : decode cX30_clashes 38 = .ok (.aload_n 0, 1) := by decide +kernel
theorem dX30_clashes_39 : decode cX30_clashes 39 = .ok (.getfield 983, 3) := by decide +kernel
theorem dX30_clashes_42 : decode cX30_clashes 42 = .ok (.aload_n 1, 1) := by decide +kernel
theorem dX30_clashes_43 : decode cX30_clashes 43 = .ok (.invokestatic 1204, 3) := by decide +kernel
theorem dX30_clashes_46 : decode cX30_clashes 46 = .ok (.ifCond .eq 34, 3) := by decide +kernel
theorem dX30_clashes_49 : decode cX30_clashes 49 = .ok (.aload_n 1, 1) := by decide +kernel
theorem dX30_clashes_50 : decode cX30_clashes 50 = .ok (.getfield 937, 3) := by decide +kernel
theorem dX30_clashes_53 : decode cX30_clashes 53 = .ok (.iconst 4, 1) := by decide +kernel
theorem dX30_clashes_54 : decode cX30_clashes 54 = .ok (.if_icmp .ne 20, 3) := by decide +kernel
theorem dX30_clashes_57 : decode cX30_clashes 57 = .ok (.aload_n 0, 1) := by decide +kernel
theorem dX30_clashes_58 : decode cX30_clashes 58 = .ok (.getfield 983, 3) := by decide +kernel
theorem dX30_clashes_61 : decode cX30_clashes 61 = .ok (.aload_n 1, 1) := by decide +kernel
theorem dX30_clashes_62 : decode cX30_clashes 62 = .ok (.getfield 741, 3) := by decide +kernel
theorem dX30_clashes_65 : decode cX30_clashes 65 = .ok (.invokevirtual 404, 3) := by decide +kernel
theorem dX30_clashes_68 : decode cX30_clashes 68 = .ok (.invokestatic 1207, 3) := by decide +kernel
theorem dX30_clashes_71 : decode cX30_clashes 71 = .ok (.ifCond .ne 7, 3) := by decide +kernel
theorem dX30_clashes_74 : decode cX30_clashes 74 = .ok (.iconst 1, 1) := by decide +kernel
theorem dX30_clashes_75 : decode cX30_clashes 75 = .ok (.goto 4, 3) := by decide +kernel
theorem dX30_clashes_78 : decode cX30_clashes 78 = .ok (.iconst 0, 1) := by decide +kernel
theorem dX30_clashes_79 : decode cX30_clashes 79 = .ok (.ireturn, 1) := by decide +kernel
theorem dX30_clashes_80 : decode cX30_clashes 80 = .ok (.aload_n 1, 1) := by decide +kernel
theorem dX30_clashes_81 : decode cX30_clashes 81 = .ok (.aload_n 0, 1) := by decide +kernel
theorem dX30_clashes_82 : decode cX30_clashes 82 = .ok (.getfield 983, 3) := by decide +kernel
theorem dX30_clashes_85 : decode cX30_clashes 85 = .ok (.invokestatic 1204, 3) := by decide +kernel
theorem dX30_clashes_88 : decode cX30_clashes 88 = .ok (.ireturn, 1) := by decide +kernel
theorem dX26_init_0 : decode cX26_init 0 = .ok (.aload_n 0, 1) := by decide +kernel
theorem dX26_init_1 : decode cX26_init 1 = .ok (.invokespecial 3, 3) := by decide +kernel
theorem dX26_init_4 : decode cX26_init 4 = .ok (.aload_n 0, 1) := by decide +kernel
theorem dX26_init_5 : decode cX26_init 5 = .ok (.iload_n 1, 1) := by decide +kernel
theorem dX26_init_6 : decode cX26_init 6 = .ok (.putfield 9, 3) := by decide +kernel
theorem dX26_init_9 : decode cX26_init 9 = .ok (.aload_n 0, 1) := by decide +kernel
theorem dX26_init_10 : decode cX26_init 10 = .ok (.aload_n 2, 1) := by decide +kernel
theorem dX26_init_11 : decode cX26_init 11 = .ok (.putfield 15, 3) := by decide +kernel
theorem dX26_init_14 : decode cX26_init 14 = .ok (.aload_n 0, 1) := by decide +kernel
theorem dX26_init_15 : decode cX26_init 15 = .ok (.aload_n 3, 1) := by decide +kernel
theorem dX26_init_16 : decode cX26_init 16 = .ok (.putfield 19, 3) := by decide +kernel
theorem dX26_init_19 : decode cX26_init 19 = .ok (.return_, 1) := by decide +kernel
theorem dX23_init_0 : decode cX23_init 0 = .ok (.aload_n 0, 1) := by decide +kernel
theorem dX23_init_1 : decode cX23_init 1 = .ok (.invokespecial 1, 3) := by decide +kernel
theorem dX23_init_4 : decode cX23_init 4 = .ok (.aload_n 0, 1) := by decide +kernel
theorem dX23_init_5 : decode cX23_init 5 = .ok (.new 7, 3) := by decide +kernel
theorem dX23_init_8 : decode cX23_init 8 = .ok (.dup, 1) := by decide +kernel
theorem dX23_init_9 : decode cX23_init 9 = .ok (.invokespecial 9, 3) := by decide +kernel
theorem dX23_init_12 : decode cX23_init 12 = .ok (.putfield 10, 3) := by decide +kernel
theorem dX23_init_15 : decode cX23_init 15 = .ok (.aload_n 0, 1) := by decide +kernel
theorem dX23_init_16 : decode cX23_init 16 = .ok (.new 7, 3) := by decide +kernel
theorem dX23_init_19 : decode cX23_init 19 = .ok (.dup, 1) := by decide +kernel
theorem dX23_init_20 : decode cX23_init 20 = .ok (.invokespecial 9, 3) := by decide +kernel
theorem dX23_init_23 : decode cX23_init 23 = .ok (.putfield 16, 3) := by decide +kernel
theorem dX23_init_26 : decode cX23_init 26 = .ok (.aload_n 0, 1) := by decide +kernel
theorem dX23_init_27 : decode cX23_init 27 = .ok (.new 7, 3) := by decide +kernel
theorem dX23_init_30 : decode cX23_init 30 = .ok (.dup, 1) := by decide +kernel
theorem dX23_init_31 : decode cX23_init 31 = .ok (.invokespecial 9, 3) := by decide +kernel
theorem dX23_init_34 : decode cX23_init 34 = .ok (.putfield 19, 3) := by decide +kernel
theorem dX23_init_37 : decode cX23_init 37 = .ok (.aload_n 0, 1) := by decide +kernel
theorem dX23_init_38 : decode cX23_init 38 = .ok (.new 7, 3) := by decide +kernel
theorem dX23_init_41 : decode cX23_init 41 = .ok (.dup, 1) := by decide +kernel
theorem dX23_init_42 : decode cX23_init 42 = .ok (.invokespecial 9, 3) := by decide +kernel
theorem dX23_init_45 : decode cX23_init 45 = .ok (.putfield 22, 3) := by decide +kernel
theorem dX23_init_48 : decode cX23_init 48 = .ok (.return_, 1) := by decide +kernel
theorem dJ5_init_d00df_0 : decode cJ5_init_d00df 0 = .ok (.aload_n 0, 1) := by decide +kernel
theorem dJ5_init_d00df_1 : decode cJ5_init_d00df 1 = .ok (.invokespecial 3, 3) := by decide +kernel
theorem dJ5_init_d00df_4 : decode cJ5_init_d00df 4 = .ok (.getstatic 18, 3) := by decide +kernel
theorem dJ5_init_d00df_7 : decode cJ5_init_d00df 7 = .ok (.ifCond .eq 18, 3) := by decide +kernel
theorem dJ5_init_d00df_10 : decode cJ5_init_d00df 10 = .ok (.aload_n 0, 1) := by decide +kernel
theorem dJ5_init_d00df_11 : decode cJ5_init_d00df 11 = .ok (.iload_n 1, 1) := by decide +kernel
theorem dJ5_init_d00df_12 : decode cJ5_init_d00df 12 = .ok (.newarray .byte, 2) := by decide +kernel
theorem dJ5_init_d00df_14 : decode cJ5_init_d00df 14 = .ok (.putfield 15, 3) := by decide +kernel
theorem dJ5_init_d00df_17 : decode cJ5_init_d00df 17 = .ok (.aload_n 0, 1) := by decide +kernel
theorem dJ5_init_d00df_18 : decode cJ5_init_d00df 18 = .ok (.iconst 0, 1) := by decide +kernel
theorem dJ5_init_d00df_19 : decode cJ5_init_d00df 19 = .ok (.putfield 22, 3) := by decide +kernel
theorem dJ5_init_d00df_22 : decode cJ5_init_d00df 22 = .ok (.goto 16, 3) := by decide +kernel
theorem dJ5_init_d00df_25 : decode cJ5_init_d00df 25 = .ok (.aload_n 0, 1) := by decide +kernel
theorem dJ5_init_d00df_26 : decode cJ5_init_d00df 26 = .ok (.iload_n 1, 1) := by decide +kernel
theorem dJ5_init_d00df_27 : decode cJ5_init_d00df 27 = .ok (.invokestatic 26, 3) := by decide +kernel
theorem dJ5_init_d00df_30 : decode cJ5_init_d00df 30 = .ok (.putfield 15, 3) := by decide +kernel
theorem dJ5_init_d00df_33 : decode cJ5_init_d00df 33 = .ok (.aload_n 0, 1) := by decide +kernel
theorem dJ5_init_d00df_34 : decode cJ5_init_d00df 34 = .ok (.iconst 1, 1) := by decide +kernel
theorem dJ5_init_d00df_35 : decode cJ5_init_d00df 35 = .ok (.putfield 22, 3) := by decide +kernel
theorem dJ5_init_d00df_38 : decode cJ5_init_d00df 38 = .ok (.return_, 1) := by decide +kernel
theorem dJ5_length_8abf5_0 : decode cJ5_length_8abf5 0 = .ok (.aload_n 0, 1) := by decide +kernel
theorem dJ5_length_8abf5_1 : decode cJ5_length_8abf5 1 = .ok (.getfield 79, 3) := by decide +kernel
theorem dJ5_length_8abf5_4 : decode cJ5_length_8abf5 4 = .ok (.ireturn, 1) := by decide +kernel
theorem dJ5_ensureCapacityInternal_d00df_0 : decode cJ5_ensureCapacityInternal_d00df 0 = .ok (.aload_n 0, 1) := by decide +kernel
theorem dJ5_ensureCapacityInternal_d00df_1 : decode cJ5_ensureCapacityInternal_d00df 1 = .ok (.getfield 15, 3) := by decide +kernel
theorem dJ5_ensureCapacityInternal_d00df_4 : decode cJ5_ensureCapacityInternal_d00df 4 = .ok (.arraylength, 1) := by decide +kernel
theorem dJ5_ensureCapacityInternal_d00df_5 : decode cJ5_ensureCapacityInternal_d00df 5 = .ok (.aload_n 0, 1) := by decide +kernel
theorem dJ5_ensureCapacityInternal_d00df_6 : decode cJ5_ensureCapacityInternal_d00df 6 = .ok (.getfield 22, 3) := by decide +kernel
theorem dJ5_ensureCapacityInternal_d00df_9 : decode cJ5_ensureCapacityInternal_d00df 9 = .ok (.ishr, 1) := by decide +kernel
theorem dJ5_ensureCapacityInternal_d00df_10 : decode cJ5_ensureCapacityInternal_d00df 10 = .ok (.istore_n 2, 1) := by decide +kernel
theorem dJ5_ensureCapacityInternal_d00df_11 : decode cJ5_ensureCapacityInternal_d00df 11 = .ok (.iload_n 1, 1) := by decide +kernel
theorem dJ5_ensureCapacityInternal_d00df_12 : decode cJ5_ensureCapacityInternal_d00df 12 = .ok (.iload_n 2, 1) := by decide +kernel
theorem dJ5_ensureCapacityInternal_d00df_13 : decode cJ5_ensureCapacityInternal_d00df 13 = .ok (.isub, 1) := by decide +kernel
theorem dJ5_ensureCapacityInternal_d00df_14 : decode cJ5_ensureCapacityInternal_d00df 14 = .ok (.ifCond .le 24, 3) := by decide +kernel
theorem dJ5_ensureCapacityInternal_d00df_17 : decode cJ5_ensureCapacityInternal_d00df 17 = .ok (.aload_n 0, 1) := by decide +kernel
theorem dJ5_ensureCapacityInternal_d00df_18 : decode cJ5_ensureCapacityInternal_d00df 18 = .ok (.aload_n 0, 1) := by decide +kernel
theorem dJ5_ensureCapacityInternal_d00df_19 : decode cJ5_ensureCapacityInternal_d00df 19 = .ok (.getfield 15, 3) := by decide +kernel
theorem dJ5_ensureCapacityInternal_d00df_22 : decode cJ5_ensureCapacityInternal_d00df 22 = .ok (.aload_n 0, 1) := by decide +kernel
theorem dJ5_ensureCapacityInternal_d00df_23 : decode cJ5_ensureCapacityInternal_d00df 23 = .ok (.iload_n 1, 1) := by decide +kernel
theorem dJ5_ensureCapacityInternal_d00df_24 : decode cJ5_ensureCapacityInternal_d00df 24 = .ok (.invokevirtual 104, 3) := by decide +kernel
theorem dJ5_ensureCapacityInternal_d00df_27 : decode cJ5_ensureCapacityInternal_d00df 27 = .ok (.aload_n 0, 1) := by decide +kernel
theorem dJ5_ensureCapacityInternal_d00df_28 : decode cJ5_ensureCapacityInternal_d00df 28 = .ok (.getfield 22, 3) := by decide +kernel
theorem dJ5_ensureCapacityInternal_d00df_31 : decode cJ5_ensureCapacityInternal_d00df 31 = .ok (.ishl, 1) := by decide +kernel
theorem dJ5_ensureCapacityInternal_d00df_32 : decode cJ5_ensureCapacityInternal_d00df 32 = .ok (.invokestatic 108, 3) := by decide +kernel
theorem dJ5_ensureCapacityInternal_d00df_35 : decode cJ5_ensureCapacityInternal_d00df 35 = .ok (.putfield 15, 3) := by decide +kernel
theorem dJ5_ensureCapacityInternal_d00df_38 : decode cJ5_ensureCapacityInternal_d00df 38 = .ok (.return_, 1) := by decide +kernel
theorem dJ5_setLength_d00df_0 : decode cJ5_setLength_d00df 0 = .ok (.iload_n 1, 1) := by decide +kernel
theorem dJ5_setLength_d00df_1 : decode cJ5_setLength_d00df 1 = .ok (.ifCond .ge 12, 3) := by decide +kernel
theorem dJ5_setLength_d00df_4 : decode cJ5_setLength_d00df 4 = .ok (.new 129, 3) := by decide +kernel
theorem dJ5_setLength_d00df_7 : decode cJ5_setLength_d00df 7 = .ok (.dup, 1) := by decide +kernel
theorem dJ5_setLength_d00df_8 : decode cJ5_setLength_d00df 8 = .ok (.iload_n 1, 1) := by decide +kernel
theorem dJ5_setLength_d00df_9 : decode cJ5_setLength_d00df 9 = .ok (.invokespecial 131, 3) := by decide +kernel
theorem dJ5_setLength_d00df_12 : decode cJ5_setLength_d00df 12 = .ok (.athrow, 1) := by decide +kernel
theorem dJ5_setLength_d00df_13 : decode cJ5_setLength_d00df 13 = .ok (.aload_n 0, 1) := by decide +kernel
theorem dJ5_setLength_d00df_14 : decode cJ5_setLength_d00df 14 = .ok (.iload_n 1, 1) := by decide +kernel
theorem dJ5_setLength_d00df_15 : decode cJ5_setLength_d00df 15 = .ok (.invokevirtual 100, 3) := by decide +kernel
theorem dJ5_setLength_d00df_18 : decode cJ5_setLength_d00df 18 = .ok (.aload_n 0, 1) := by decide +kernel
theorem dJ5_setLength_d00df_19 : decode cJ5_setLength_d00df 19 = .ok (.getfield 79, 3) := by decide +kernel
theorem dJ5_setLength_d00df_22 : decode cJ5_setLength_d00df 22 = .ok (.iload_n 1, 1) := by decide +kernel
theorem dJ5_setLength_d00df_23 : decode cJ5_setLength_d00df 23 = .ok (.if_icmp .ge 40, 3) := by decide +kernel
theorem dJ5_setLength_d00df_26 : decode cJ5_setLength_d00df 26 = .ok (.aload_n 0, 1) := by decide +kernel
theorem dJ5_setLength_d00df_27 : decode cJ5_setLength_d00df 27 = .ok (.invokevirtual 83, 3) := by decide +kernel
theorem dJ5_setLength_d00df_30 : decode cJ5_setLength_d00df 30 = .ok (.ifCond .eq 18, 3) := by decide +kernel
theorem dJ5_setLength_d00df_33 : decode cJ5_setLength_d00df 33 = .ok (.aload_n 0, 1) := by decide +kernel
theorem dJ5_setLength_d00df_34 : decode cJ5_setLength_d00df 34 = .ok (.getfield 15, 3) := by decide +kernel
theorem dJ5_setLength_d00df_37 : decode cJ5_setLength_d00df 37 = .ok (.aload_n 0, 1) := by decide +kernel
theorem dJ5_setLength_d00df_38 : decode cJ5_setLength_d00df 38 = .ok (.getfield 79, 3) := by decide +kernel
theorem dJ5_setLength_d00df_41 : decode cJ5_setLength_d00df 41 = .ok (.iload_n 1, 1) := by decide +kernel
theorem dJ5_setLength_d00df_42 : decode cJ5_setLength_d00df 42 = .ok (.invokestatic 133, 3) := by decide +kernel
theorem dJ5_setLength_d00df_45 : decode cJ5_setLength_d00df 45 = .ok (.goto 31, 3) := by decide +kernel
theorem dJ5_setLength_d00df_48 : decode cJ5_setLength_d00df 48 = .ok (.aload_n 0, 1) := by decide +kernel
theorem dJ5_setLength_d00df_49 : decode cJ5_setLength_d00df 49 = .ok (.getfield 15, 3) := by decide +kernel
theorem dJ5_setLength_d00df_52 : decode cJ5_setLength_d00df 52 = .ok (.aload_n 0, 1) := by decide +kernel
theorem dJ5_setLength_d00df_53 : decode cJ5_setLength_d00df 53 = .ok (.getfield 79, 3) := by decide +kernel
theorem dJ5_setLength_d00df_56 : decode cJ5_setLength_d00df 56 = .ok (.iload_n 1, 1) := by decide +kernel
theorem dJ5_setLength_d00df_57 : decode cJ5_setLength_d00df 57 = .ok (.invokestatic 137, 3) := by decide +kernel
theorem dJ5_setLength_d00df_60 : decode cJ5_setLength_d00df 60 = .ok (.goto 16, 3) := by decide +kernel
theorem dJ5_setLength_d00df_63 : decode cJ5_setLength_d00df 63 = .ok (.aload_n 0, 1) := by decide +kernel
theorem dJ5_setLength_d00df_64 : decode cJ5_setLength_d00df 64 = .ok (.getfield 79, 3) := by decide +kernel
theorem dJ5_setLength_d00df_67 : decode cJ5_setLength_d00df 67 = .ok (.iload_n 1, 1) := by decide +kernel
theorem dJ5_setLength_d00df_68 : decode cJ5_setLength_d00df 68 = .ok (.if_icmp .le 8, 3) := by decide +kernel
theorem dJ5_setLength_d00df_71 : decode cJ5_setLength_d00df 71 = .ok (.aload_n 0, 1) := by decide +kernel
theorem dJ5_setLength_d00df_72 : decode cJ5_setLength_d00df 72 = .ok (.iconst 1, 1) := by decide +kernel
theorem dJ5_setLength_d00df_73 : decode cJ5_setLength_d00df 73 = .ok (.putfield 73, 3) := by decide +kernel
theorem dJ5_setLength_d00df_76 : decode cJ5_setLength_d00df 76 = .ok (.aload_n 0, 1) := by decide +kernel
theorem dJ5_setLength_d00df_77 : decode cJ5_setLength_d00df 77 = .ok (.iload_n 1, 1) := by decide +kernel
theorem dJ5_setLength_d00df_78 : decode cJ5_setLength_d00df 78 = .ok (.putfield 79, 3) := by decide +kernel
theorem dJ5_setLength_d00df_81 : decode cJ5_setLength_d00df 81 = .ok (.return_, 1) := by decide +kernel
theorem dJ5_getValue_6d5f1_0 : decode cJ5_getValue_6d5f1 0 = .ok (.aload_n 0, 1) := by decide +kernel
theorem dJ5_getValue_6d5f1_1 : decode cJ5_getValue_6d5f1 1 = .ok (.getfield 15, 3) := by decide +kernel
theorem dJ5_getValue_6d5f1_4 : decode cJ5_getValue_6d5f1 4 = .ok (.areturn, 1) := by decide +kernel
theorem dJ5_isLatin1_aae02_0 : decode cJ5_isLatin1_aae02 0 = .ok (.getstatic 18, 3) := by decide +kernel
theorem dJ5_isLatin1_aae02_3 : decode cJ5_isLatin1_aae02 3 = .ok (.ifCond .eq 14, 3) := by decide +kernel
theorem dJ5_isLatin1_aae02_6 : decode cJ5_isLatin1_aae02 6 = .ok (.aload_n 0, 1) := by decide +kernel
theorem dJ5_isLatin1_aae02_7 : decode cJ5_isLatin1_aae02 7 = .ok (.getfield 22, 3) := by decide +kernel
theorem dJ5_isLatin1_aae02_10 : decode cJ5_isLatin1_aae02 10 = .ok (.ifCond .ne 7, 3) := by decide +kernel
theorem dJ5_isLatin1_aae02_13 : decode cJ5_isLatin1_aae02 13 = .ok (.iconst 1, 1) := by decide +kernel
theorem dJ5_isLatin1_aae02_14 : decode cJ5_isLatin1_aae02 14 = .ok (.goto 4, 3) := by decide +kernel
theorem dJ5_isLatin1_aae02_17 : decode cJ5_isLatin1_aae02 17 = .ok (.iconst 0, 1) := by decide +kernel
theorem dJ5_isLatin1_aae02_18 : decode cJ5_isLatin1_aae02 18 = .ok (.ireturn, 1) := by decide +kernel
theorem dJ4_init_d00df_0 : decode cJ4_init_d00df 0 = .ok (.aload_n 0, 1) := by decide +kernel
theorem dJ4_init_d00df_1 : decode cJ4_init_d00df 1 = .ok (.iload_n 1, 1) := by decide +kernel
theorem dJ4_init_d00df_2 : decode cJ4_init_d00df 2 = .ok (.invokespecial 1, 3) := by decide +kernel
theorem dJ4_init_d00df_5 : decode cJ4_init_d00df 5 = .ok (.return_, 1) := by decide +kernel
theorem dJ4_toString_0e30d_0 : decode cJ4_toString_0e30d 0 = .ok (.new 18, 3) := by decide +kernel
theorem dJ4_toString_0e30d_3 : decode cJ4_toString_0e30d 3 = .ok (.dup, 1) := by decide +kernel
theorem dJ4_toString_0e30d_4 : decode cJ4_toString_0e30d 4 = .ok (.aload_n 0, 1) := by decide +kernel
theorem dJ4_toString_0e30d_5 : decode cJ4_toString_0e30d 5 = .ok (.invokespecial 137, 3) := by decide +kernel
theorem dJ4_toString_0e30d_8 : decode cJ4_toString_0e30d 8 = .ok (.areturn, 1) := by decide +kernel
theorem dJ4_setLength_d00df_0 : decode cJ4_setLength_d00df 0 = .ok (.aload_n 0, 1) := by decide +kernel
theorem dJ4_setLength_d00df_1 : decode cJ4_setLength_d00df 1 = .ok (.iload_n 1, 1) := by decide +kernel
theorem dJ4_setLength_d00df_2 : decode cJ4_setLength_d00df 2 = .ok (.invokespecial 333, 3) := by decide +kernel
theorem dJ4_setLength_d00df_5 : decode cJ4_setLength_d00df 5 = .ok (.return_, 1) := by decide +kernel
theorem dJ4_length_8abf5_0 : decode cJ4_length_8abf5 0 = .ok (.aload_n 0, 1) := by decide +kernel
theorem dJ4_length_8abf5_1 : decode cJ4_length_8abf5 1 = .ok (.invokespecial 343, 3) := by decide +kernel
theorem dJ4_length_8abf5_4 : decode cJ4_length_8abf5 4 = .ok (.ireturn, 1) := by decide +kernel
theorem dJ0_init_81219_0 : decode cJ0_init_81219 0 = .ok (.aload_n 0, 1) := by decide +kernel
theorem dJ0_init_81219_1 : decode cJ0_init_81219 1 = .ok (.aload_n 1, 1) := by decide +kernel
theorem dJ0_init_81219_2 : decode cJ0_init_81219 2 = .ok (.aconst_null, 1) := by decide +kernel
theorem dJ0_init_81219_3 : decode cJ0_init_81219 3 = .ok (.invokespecial 489, 3) := by decide +kernel
theorem dJ0_init_81219_6 : decode cJ0_init_81219 6 = .ok (.return_, 1) := by decide +kernel
theorem dJ0_init_db425_0 : decode cJ0_init_db425 0 = .ok (.aload_n 0, 1) := by decide +kernel
theorem dJ0_init_db425_1 : decode cJ0_init_db425 1 = .ok (.invokespecial 1, 3) := by decide +kernel
theorem dJ0_init_db425_4 : decode cJ0_init_db425 4 = .ok (.aload_n 1, 1) := by decide +kernel
theorem dJ0_init_db425_5 : decode cJ0_init_db425 5 = .ok (.invokevirtual 552, 3) := by decide +kernel
theorem dJ0_init_db425_8 : decode cJ0_init_db425 8 = .ok (.astore_n 3, 1) := by decide +kernel
theorem dJ0_init_db425_9 : decode cJ0_init_db425 9 = .ok (.aload_n 1, 1) := by decide +kernel
theorem dJ0_init_db425_10 : decode cJ0_init_db425 10 = .ok (.invokevirtual 549, 3) := by decide +kernel
theorem dJ0_init_db425_13 : decode cJ0_init_db425 13 = .ok (.istore 4, 2) := by decide +kernel
theorem dJ0_init_db425_15 : decode cJ0_init_db425 15 = .ok (.aload_n 1, 1) := by decide +kernel
theorem dJ0_init_db425_16 : decode cJ0_init_db425 16 = .ok (.invokevirtual 1047, 3) := by decide +kernel
theorem dJ0_init_db425_19 : decode cJ0_init_db425 19 = .ok (.ifCond .eq 22, 3) := by decide +kernel
theorem dJ0_init_db425_22 : decode cJ0_init_db425 22 = .ok (.aload_n 0, 1) := by decide +kernel
theorem dJ0_init_db425_23 : decode cJ0_init_db425 23 = .ok (.iconst 0, 1) := by decide +kernel
theorem dJ0_init_db425_24 : decode cJ0_init_db425 24 = .ok (.putfield 15, 3) := by decide +kernel
theorem dJ0_init_db425_27 : decode cJ0_init_db425 27 = .ok (.aload_n 0, 1) := by decide +kernel
theorem dJ0_init_db425_28 : decode cJ0_init_db425 28 = .ok (.aload_n 3, 1) := by decide +kernel
theorem dJ0_init_db425_29 : decode cJ0_init_db425 29 = .ok (.iconst 0, 1) := by decide +kernel
theorem dJ0_init_db425_30 : decode cJ0_init_db425 30 = .ok (.iload 4, 2) := by decide +kernel
theorem dJ0_init_db425_32 : decode cJ0_init_db425 32 = .ok (.invokestatic 54, 3) := by decide +kernel
theorem dJ0_init_db425_35 : decode cJ0_init_db425 35 = .ok (.putfield 9, 3) := by decide +kernel
theorem dJ0_init_db425_38 : decode cJ0_init_db425 38 = .ok (.goto 59, 3) := by decide +kernel
theorem dJ0_init_db425_41 : decode cJ0_init_db425 41 = .ok (.getstatic 38, 3) := by decide +kernel
theorem dJ0_init_db425_44 : decode cJ0_init_db425 44 = .ok (.ifCond .eq 35, 3) := by decide +kernel
theorem dJ0_init_db425_47 : decode cJ0_init_db425 47 = .ok (.aload_n 1, 1) := by decide +kernel
theorem dJ0_init_db425_48 : decode cJ0_init_db425 48 = .ok (.getfield 1048, 3) := by decide +kernel
theorem dJ0_init_db425_51 : decode cJ0_init_db425 51 = .ok (.ifCond .eq 28, 3) := by decide +kernel
theorem dJ0_init_db425_54 : decode cJ0_init_db425 54 = .ok (.aload_n 0, 1) := by decide +kernel
theorem dJ0_init_db425_55 : decode cJ0_init_db425 55 = .ok (.aload_n 3, 1) := by decide +kernel
theorem dJ0_init_db425_56 : decode cJ0_init_db425 56 = .ok (.iconst 0, 1) := by decide +kernel
theorem dJ0_init_db425_57 : decode cJ0_init_db425 57 = .ok (.iload 4, 2) := by decide +kernel
theorem dJ0_init_db425_59 : decode cJ0_init_db425 59 = .ok (.invokestatic 1051, 3) := by decide +kernel
theorem dJ0_init_db425_62 : decode cJ0_init_db425 62 = .ok (.putfield 9, 3) := by decide +kernel
theorem dJ0_init_db425_65 : decode cJ0_init_db425 65 = .ok (.aload_n 0, 1) := by decide +kernel
theorem dJ0_init_db425_66 : decode cJ0_init_db425 66 = .ok (.aload_n 0, 1) := by decide +kernel
theorem dJ0_init_db425_67 : decode cJ0_init_db425 67 = .ok (.getfield 9, 3) := by decide +kernel
theorem dJ0_init_db425_70 : decode cJ0_init_db425 70 = .ok (.iload 4, 2) := by decide +kernel
theorem dJ0_init_db425_72 : decode cJ0_init_db425 72 = .ok (.invokestatic 47, 3) := by decide +kernel
theorem dJ0_init_db425_75 : decode cJ0_init_db425 75 = .ok (.putfield 15, 3) := by decide +kernel
theorem dJ0_init_db425_78 : decode cJ0_init_db425 78 = .ok (.return_, 1) := by decide +kernel
theorem dJ0_init_db425_79 : decode cJ0_init_db425 79 = .ok (.aload_n 0, 1) := by decide +kernel
theorem dJ0_init_db425_80 : decode cJ0_init_db425 80 = .ok (.iconst 1, 1) := by decide +kernel
theorem dJ0_init_db425_81 : decode cJ0_init_db425 81 = .ok (.putfield 15, 3) := by decide +kernel
theorem dJ0_init_db425_84 : decode cJ0_init_db425 84 = .ok (.aload_n 0, 1) := by decide +kernel
theorem dJ0_init_db425_85 : decode cJ0_init_db425 85 = .ok (.aload_n 3, 1) := by decide +kernel
theorem dJ0_init_db425_86 : decode cJ0_init_db425 86 = .ok (.iconst 0, 1) := by decide +kernel
theorem dJ0_init_db425_87 : decode cJ0_init_db425 87 = .ok (.iload 4, 2) := by decide +kernel
theorem dJ0_init_db425_89 : decode cJ0_init_db425 89 = .ok (.iconst 1, 1) := by decide +kernel
theorem dJ0_init_db425_90 : decode cJ0_init_db425 90 = .ok (.ishl, 1) := by decide +kernel
theorem dJ0_init_db425_91 : decode cJ0_init_db425 91 = .ok (.invokestatic 54, 3) := by decide +kernel
theorem dJ0_init_db425_94 : decode cJ0_init_db425 94 = .ok (.putfield 9, 3) := by decide +kernel
theorem dJ0_init_db425_97 : decode cJ0_init_db425 97 = .ok (.return_, 1) := by decide +kernel
theorem dJ0_length_8abf5_0 : decode cJ0_length_8abf5 0 = .ok (.aload_n 0, 1) := by decide +kernel
theorem dJ0_length_8abf5_1 : decode cJ0_length_8abf5 1 = .ok (.getfield 9, 3) := by decide +kernel
theorem dJ0_length_8abf5_4 : decode cJ0_length_8abf5 4 = .ok (.arraylength, 1) := by decide +kernel
theorem dJ0_length_8abf5_5 : decode cJ0_length_8abf5 5 = .ok (.aload_n 0, 1) := by decide +kernel
theorem dJ0_length_8abf5_6 : decode cJ0_length_8abf5 6 = .ok (.invokevirtual 335, 3) := by decide +kernel
theorem dJ0_length_8abf5_9 : decode cJ0_length_8abf5 9 = .ok (.ishr, 1) := by decide +kernel
theorem dJ0_length_8abf5_10 : decode cJ0_length_8abf5 10 = .ok (.ireturn, 1) := by decide +kernel
theorem dJ0_charAt_5068e_0 : decode cJ0_charAt_5068e 0 = .ok (.aload_n 0, 1) := by decide +kernel
theorem dJ0_charAt_5068e_1 : decode cJ0_charAt_5068e 1 = .ok (.invokevirtual 492, 3) := by decide +kernel
theorem dJ0_charAt_5068e_4 : decode cJ0_charAt_5068e 4 = .ok (.ifCond .eq 12, 3) := by decide +kernel
theorem dJ0_charAt_5068e_7 : decode cJ0_charAt_5068e 7 = .ok (.aload_n 0, 1) := by decide +kernel
theorem dJ0_charAt_5068e_8 : decode cJ0_charAt_5068e 8 = .ok (.getfield 9, 3) := by decide +kernel
theorem dJ0_charAt_5068e_11 : decode cJ0_charAt_5068e 11 = .ok (.iload_n 1, 1) := by decide +kernel
theorem dJ0_charAt_5068e_12 : decode cJ0_charAt_5068e 12 = .ok (.invokestatic 495, 3) := by decide +kernel
theorem dJ0_charAt_5068e_15 : decode cJ0_charAt_5068e 15 = .ok (.ireturn, 1) := by decide +kernel
theorem dJ0_charAt_5068e_16 : decode cJ0_charAt_5068e 16 = .ok (.aload_n 0, 1) := by decide +kernel
theorem dJ0_charAt_5068e_17 : decode cJ0_charAt_5068e 17 = .ok (.getfield 9, 3) := by decide +kernel
theorem dJ0_charAt_5068e_20 : decode cJ0_charAt_5068e 20 = .ok (.iload_n 1, 1) := by decide +kernel
theorem dJ0_charAt_5068e_21 : decode cJ0_charAt_5068e 21 = .ok (.invokestatic 498, 3) := by decide +kernel
theorem dJ0_charAt_5068e_24 : decode cJ0_charAt_5068e 24 = .ok (.ireturn, 1) := by decide +kernel
theorem dJ0_coder_7d493_0 : decode cJ0_coder_7d493 0 = .ok (.getstatic 38, 3) := by decide +kernel
theorem dJ0_coder_7d493_3 : decode cJ0_coder_7d493 3 = .ok (.ifCond .eq 10, 3) := by decide +kernel
theorem dJ0_coder_7d493_6 : decode cJ0_coder_7d493 6 = .ok (.aload_n 0, 1) := by decide +kernel
theorem dJ0_coder_7d493_7 : decode cJ0_coder_7d493 7 = .ok (.getfield 15, 3) := by decide +kernel
theorem dJ0_coder_7d493_10 : decode cJ0_coder_7d493 10 = .ok (.goto 4, 3) := by decide +kernel
theorem dJ0_coder_7d493_13 : decode cJ0_coder_7d493 13 = .ok (.iconst 1, 1) := by decide +kernel
theorem dJ0_coder_7d493_14 : decode cJ0_coder_7d493 14 = .ok (.ireturn, 1) := by decide +kernel
theorem dJ0_isLatin1_aae02_0 : decode cJ0_isLatin1_aae02 0 = .ok (.getstatic 38, 3) := by decide +kernel
theorem dJ0_isLatin1_aae02_3 : decode cJ0_isLatin1_aae02 3 = .ok (.ifCond .eq 14, 3) := by decide +kernel
theorem dJ0_isLatin1_aae02_6 : decode cJ0_isLatin1_aae02 6 = .ok (.aload_n 0, 1) := by decide +kernel
theorem dJ0_isLatin1_aae02_7 : decode cJ0_isLatin1_aae02 7 = .ok (.getfield 15, 3) := by decide +kernel
theorem dJ0_isLatin1_aae02_10 : decode cJ0_isLatin1_aae02 10 = .ok (.ifCond .ne 7, 3) := by decide +kernel
theorem dJ0_isLatin1_aae02_13 : decode cJ0_isLatin1_aae02 13 = .ok (.iconst 1, 1) := by decide +kernel
theorem dJ0_isLatin1_aae02_14 : decode cJ0_isLatin1_aae02 14 = .ok (.goto 4, 3) := by decide +kernel
theorem dJ0_isLatin1_aae02_17 : decode cJ0_isLatin1_aae02 17 = .ok (.iconst 0, 1) := by decide +kernel
theorem dJ0_isLatin1_aae02_18 : decode cJ0_isLatin1_aae02 18 = .ok (.ireturn, 1) := by decide +kernel
theorem dJ0_checkIndex_df160_0 : decode cJ0_checkIndex_df160 0 = .ok (.iload_n 0, 1) := by decide +kernel
theorem dJ0_checkIndex_df160_1 : decode cJ0_checkIndex_df160 1 = .ok (.iload_n 1, 1) := by decide +kernel
theorem dJ0_checkIndex_df160_2 : decode cJ0_checkIndex_df160 2 = .ok (.getstatic 1053, 3) := by decide +kernel
theorem dJ0_checkIndex_df160_5 : decode cJ0_checkIndex_df160 5 = .ok (.invokestatic 1059, 3) := by decide +kernel
theorem dJ0_checkIndex_df160_8 : decode cJ0_checkIndex_df160 8 = .ok (.pop, 1) := by decide +kernel
theorem dJ0_checkIndex_df160_9 : decode cJ0_checkIndex_df160 9 = .ok (.return_, 1) := by decide +kernel
theorem dJ1_charAt_3b067_0 : decode cJ1_charAt_3b067 0 = .ok (.iload_n 1, 1) := by decide +kernel
theorem dJ1_charAt_3b067_1 : decode cJ1_charAt_3b067 1 = .ok (.aload_n 0, 1) := by decide +kernel
theorem dJ1_charAt_3b067_2 : decode cJ1_charAt_3b067 2 = .ok (.arraylength, 1) := by decide +kernel
theorem dJ1_charAt_3b067_3 : decode cJ1_charAt_3b067 3 = .ok (.invokestatic 9, 3) := by decide +kernel
theorem dJ1_charAt_3b067_6 : decode cJ1_charAt_3b067 6 = .ok (.aload_n 0, 1) := by decide +kernel
theorem dJ1_charAt_3b067_7 : decode cJ1_charAt_3b067 7 = .ok (.iload_n 1, 1) := by decide +kernel
theorem dJ1_charAt_3b067_8 : decode cJ1_charAt_3b067 8 = .ok (.baload, 1) := by decide +kernel
theorem dJ1_charAt_3b067_9 : decode cJ1_charAt_3b067 9 = .ok (.sipush 255, 3) := by decide +kernel
theorem dJ1_charAt_3b067_12 : decode cJ1_charAt_3b067 12 = .ok (.iand, 1) := by decide +kernel
theorem dJ1_charAt_3b067_13 : decode cJ1_charAt_3b067 13 = .ok (.i2c, 1) := by decide +kernel
theorem dJ1_charAt_3b067_14 : decode cJ1_charAt_3b067 14 = .ok (.ireturn, 1) := by decide +kernel
theorem dJ3_checkIndex_8e157_0 : decode cJ3_checkIndex_8e157 0 = .ok (.iload_n 0, 1) := by decide +kernel
theorem dJ3_checkIndex_8e157_1 : decode cJ3_checkIndex_8e157 1 = .ok (.ifCond .lt 8, 3) := by decide +kernel
theorem dJ3_checkIndex_8e157_4 : decode cJ3_checkIndex_8e157 4 = .ok (.iload_n 0, 1) := by decide +kernel
theorem dJ3_checkIndex_8e157_5 : decode cJ3_checkIndex_8e157 5 = .ok (.iload_n 1, 1) := by decide +kernel
theorem dJ3_checkIndex_8e157_6 : decode cJ3_checkIndex_8e157 6 = .ok (.if_icmp .lt 10, 3) := by decide +kernel
theorem dJ3_checkIndex_8e157_9 : decode cJ3_checkIndex_8e157 9 = .ok (.aload_n 2, 1) := by decide +kernel
theorem dJ3_checkIndex_8e157_10 : decode cJ3_checkIndex_8e157 10 = .ok (.iload_n 0, 1) := by decide +kernel
theorem dJ3_checkIndex_8e157_11 : decode cJ3_checkIndex_8e157 11 = .ok (.iload_n 1, 1) := by decide +kernel
theorem dJ3_checkIndex_8e157_12 : decode cJ3_checkIndex_8e157 12 = .ok (.invokestatic 95, 3) := by decide +kernel
theorem dJ3_checkIndex_8e157_15 : decode cJ3_checkIndex_8e157 15 = .ok (.athrow, 1) := by decide +kernel
theorem dJ3_checkIndex_8e157_16 : decode cJ3_checkIndex_8e157 16 = .ok (.iload_n 0, 1) := by decide +kernel
theorem dJ3_checkIndex_8e157_17 : decode cJ3_checkIndex_8e157 17 = .ok (.ireturn, 1) := by decide +kernel
theorem dJ7_copyOfRange_39247_0 : decode cJ7_copyOfRange_39247 0 = .ok (.iload_n 1, 1) := by decide +kernel
theorem dJ7_copyOfRange_39247_1 : decode cJ7_copyOfRange_39247 1 = .ok (.ifCond .ne 9, 3) := by decide +kernel
theorem dJ7_copyOfRange_39247_4 : decode cJ7_copyOfRange_39247 4 = .ok (.iload_n 2, 1) := by decide +kernel
theorem dJ7_copyOfRange_39247_5 : decode cJ7_copyOfRange_39247 5 = .ok (.aload_n 0, 1) := by decide +kernel
theorem dJ7_copyOfRange_39247_6 : decode cJ7_copyOfRange_39247 6 = .ok (.arraylength, 1) := by decide +kernel
theorem dJ7_copyOfRange_39247_7 : decode cJ7_copyOfRange_39247 7 = .ok (.if_icmp .eq 10, 3) := by decide +kernel
theorem dJ7_copyOfRange_39247_10 : decode cJ7_copyOfRange_39247 10 = .ok (.aload_n 0, 1) := by decide +kernel
theorem dJ7_copyOfRange_39247_11 : decode cJ7_copyOfRange_39247 11 = .ok (.iload_n 1, 1) := by decide +kernel
theorem dJ7_copyOfRange_39247_12 : decode cJ7_copyOfRange_39247 12 = .ok (.iload_n 2, 1) := by decide +kernel
theorem dJ7_copyOfRange_39247_13 : decode cJ7_copyOfRange_39247 13 = .ok (.invokestatic 339, 3) := by decide +kernel
theorem dJ7_copyOfRange_39247_16 : decode cJ7_copyOfRange_39247 16 = .ok (.areturn, 1) := by decide +kernel
theorem dJ7_copyOfRange_39247_17 : decode cJ7_copyOfRange_39247 17 = .ok (.aload_n 0, 1) := by decide +kernel
theorem dJ7_copyOfRange_39247_18 : decode cJ7_copyOfRange_39247 18 = .ok (.invokevirtual 310, 3) := by decide +kernel
theorem dJ7_copyOfRange_39247_21 : decode cJ7_copyOfRange_39247 21 = .ok (.checkcast 311, 3) := by decide +kernel
theorem dJ7_copyOfRange_39247_24 : decode cJ7_copyOfRange_39247 24 = .ok (.areturn, 1) := by decide +kernel
theorem dJ7_copyOfRangeByte_39247_0 : decode cJ7_copyOfRangeByte_39247 0 = .ok (.iload_n 1, 1) := by decide +kernel
theorem dJ7_copyOfRangeByte_39247_1 : decode cJ7_copyOfRangeByte_39247 1 = .ok (.iload_n 2, 1) := by decide +kernel
theorem dJ7_copyOfRangeByte_39247_2 : decode cJ7_copyOfRangeByte_39247 2 = .ok (.invokestatic 343, 3) := by decide +kernel
theorem dJ7_copyOfRangeByte_39247_5 : decode cJ7_copyOfRangeByte_39247 5 = .ok (.iload_n 2, 1) := by decide +kernel
theorem dJ7_copyOfRangeByte_39247_6 : decode cJ7_copyOfRangeByte_39247 6 = .ok (.iload_n 1, 1) := by decide +kernel
theorem dJ7_copyOfRangeByte_39247_7 : decode cJ7_copyOfRangeByte_39247 7 = .ok (.isub, 1) := by decide +kernel
theorem dJ7_copyOfRangeByte_39247_8 : decode cJ7_copyOfRangeByte_39247 8 = .ok (.istore_n 3, 1) := by decide +kernel
theorem dJ7_copyOfRangeByte_39247_9 : decode cJ7_copyOfRangeByte_39247 9 = .ok (.iload_n 3, 1) := by decide +kernel
theorem dJ7_copyOfRangeByte_39247_10 : decode cJ7_copyOfRangeByte_39247 10 = .ok (.newarray .byte, 2) := by decide +kernel
theorem dJ7_copyOfRangeByte_39247_12 : decode cJ7_copyOfRangeByte_39247 12 = .ok (.astore 4, 2) := by decide +kernel
theorem dJ7_copyOfRangeByte_39247_14 : decode cJ7_copyOfRangeByte_39247 14 = .ok (.aload_n 0, 1) := by decide +kernel
theorem dJ7_copyOfRangeByte_39247_15 : decode cJ7_copyOfRangeByte_39247 15 = .ok (.iload_n 1, 1) := by decide +kernel
theorem dJ7_copyOfRangeByte_39247_16 : decode cJ7_copyOfRangeByte_39247 16 = .ok (.aload 4, 2) := by decide +kernel
theorem dJ7_copyOfRangeByte_39247_18 : decode cJ7_copyOfRangeByte_39247 18 = .ok (.iconst 0, 1) := by decide +kernel
theorem dJ7_copyOfRangeByte_39247_19 : decode cJ7_copyOfRangeByte_39247 19 = .ok (.aload_n 0, 1) := by decide +kernel
theorem dJ7_copyOfRangeByte_39247_20 : decode cJ7_copyOfRangeByte_39247 20 = .ok (.arraylength, 1) := by decide +kernel
theorem dJ7_copyOfRangeByte_39247_21 : decode cJ7_copyOfRangeByte_39247 21 = .ok (.iload_n 1, 1) := by decide +kernel
theorem dJ7_copyOfRangeByte_39247_22 : decode cJ7_copyOfRangeByte_39247 22 = .ok (.isub, 1) := by decide +kernel
theorem dJ7_copyOfRangeByte_39247_23 : decode cJ7_copyOfRangeByte_39247 23 = .ok (.iload_n 3, 1) := by decide +kernel
theorem dJ7_copyOfRangeByte_39247_24 : decode cJ7_copyOfRangeByte_39247 24 = .ok (.invokestatic 304, 3) := by decide +kernel
theorem dJ7_copyOfRangeByte_39247_27 : decode cJ7_copyOfRangeByte_39247 27 = .ok (.invokestatic 150, 3) := by decide +kernel
theorem dJ7_copyOfRangeByte_39247_30 : decode cJ7_copyOfRangeByte_39247 30 = .ok (.aload 4, 2) := by decide +kernel
theorem dJ7_copyOfRangeByte_39247_32 : decode cJ7_copyOfRangeByte_39247 32 = .ok (.areturn, 1) := by decide +kernel
theorem dJxa1e45_init_da8c8_0 : decode cJxa1e45_init_da8c8 0 = .ok (.aload_n 0, 1) := by decide +kernel
theorem dJxa1e45_init_da8c8_1 : decode cJxa1e45_init_da8c8 1 = .ok (.invokespecial 1, 3) := by decide +kernel
theorem dJxa1e45_init_da8c8_4 : decode cJxa1e45_init_da8c8 4 = .ok (.return_, 1) := by decide +kernel
theorem dJxc12de_init_da8c8_0 : decode cJxc12de_init_da8c8 0 = .ok (.aload_n 0, 1) := by decide +kernel
theorem dJxc12de_init_da8c8_1 : decode cJxc12de_init_da8c8 1 = .ok (.invokespecial 1, 3) := by decide +kernel
theorem dJxc12de_init_da8c8_4 : decode cJxc12de_init_da8c8 4 = .ok (.aload_n 0, 1) := by decide +kernel
theorem dJxc12de_init_da8c8_5 : decode cJxc12de_init_da8c8 5 = .ok (.iconst 0, 1) := by decide +kernel
theorem dJxc12de_init_da8c8_6 : decode cJxc12de_init_da8c8 6 = .ok (.putfield 7, 3) := by decide +kernel
theorem dJxc12de_init_da8c8_9 : decode cJxc12de_init_da8c8 9 = .ok (.return_, 1) := by decide +kernel
theorem dJx4a65c_init_da8c8_0 : decode cJx4a65c_init_da8c8 0 = .ok (.aload_n 0, 1) := by decide +kernel
theorem dJx4a65c_init_da8c8_1 : decode cJx4a65c_init_da8c8 1 = .ok (.invokespecial 1, 3) := by decide +kernel
theorem dJx4a65c_init_da8c8_4 : decode cJx4a65c_init_da8c8 4 = .ok (.aload_n 0, 1) := by decide +kernel
theorem dJx4a65c_init_da8c8_5 : decode cJx4a65c_init_da8c8 5 = .ok (.getstatic 39, 3) := by decide +kernel
theorem dJx4a65c_init_da8c8_8 : decode cJx4a65c_init_da8c8 8 = .ok (.putfield 9, 3) := by decide +kernel
theorem dJx4a65c_init_da8c8_11 : decode cJx4a65c_init_da8c8 11 = .ok (.return_, 1) := by decide +kernel
theorem dJx4a65c_size_8abf5_0 : decode cJx4a65c_size_8abf5 0 = .ok (.aload_n 0, 1) := by decide +kernel
theorem dJx4a65c_size_8abf5_1 : decode cJx4a65c_size_8abf5 1 = .ok (.getfield 48, 3) := by decide +kernel
theorem dJx4a65c_size_8abf5_4 : decode cJx4a65c_size_8abf5 4 = .ok (.ireturn, 1) := by decide +kernel
theorem dL_law_0 : decode code 0 = .ok (.new 7, 3) := by decide +kernel
theorem dL_law_3 : decode code 3 = .ok (.dup, 1) := by decide +kernel
theorem dL_law_4 : decode code 4 = .ok (.invokespecial 9, 3) := by decide +kernel
theorem dL_law_7 : decode code 7 = .ok (.astore_n 1, 1) := by decide +kernel
theorem dL_law_8 : decode code 8 = .ok (.new 10, 3) := by decide +kernel
theorem dL_law_11 : decode code 11 = .ok (.dup, 1) := by decide +kernel
theorem dL_law_12 : decode code 12 = .ok (.invokespecial 12, 3) := by decide +kernel
theorem dL_law_15 : decode code 15 = .ok (.astore_n 2, 1) := by decide +kernel
theorem dL_law_16 : decode code 16 = .ok (.iconst 0, 1) := by decide +kernel
theorem dL_law_17 : decode code 17 = .ok (.istore_n 3, 1) := by decide +kernel
theorem dL_law_18 : decode code 18 = .ok (.iload_n 3, 1) := by decide +kernel
theorem dL_law_19 : decode code 19 = .ok (.aload_n 0, 1) := by decide +kernel
theorem dL_law_20 : decode code 20 = .ok (.arraylength, 1) := by decide +kernel
theorem dL_law_21 : decode code 21 = .ok (.bipush 6, 2) := by decide +kernel
theorem dL_law_23 : decode code 23 = .ok (.isub, 1) := by decide +kernel
theorem dL_law_24 : decode code 24 = .ok (.if_icmp .gt 570, 3) := by decide +kernel
theorem dL_law_27 : decode code 27 = .ok (.aload_n 0, 1) := by decide +kernel
theorem dL_law_28 : decode code 28 = .ok (.iload_n 3, 1) := by decide +kernel
theorem dL_law_29 : decode code 29 = .ok (.iaload, 1) := by decide +kernel
theorem dL_law_30 : decode code 30 = .ok (.bipush 31, 2) := by decide +kernel
theorem dL_law_32 : decode code 32 = .ok (.iand, 1) := by decide +kernel
theorem dL_law_33 : decode code 33 = .ok (.tableswitch 555 0 16 #[83, 146, 169, 192, 245, 268, 291, 325, 348, 381, 414, 447, 480, 503, 516, 529, 542], 83) := by decide +kernel
theorem dL_law_116 : decode code 116 = .ok (.aload_n 1, 1) := by decide +kernel
theorem dL_law_117 : decode code 117 = .ok (.aload_n 0, 1) := by decide +kernel
theorem dL_law_118 : decode code 118 = .ok (.iload_n 3, 1) := by decide +kernel
theorem dL_law_119 : decode code 119 = .ok (.iconst 1, 1) := by decide +kernel
theorem dL_law_120 : decode code 120 = .ok (.iadd, 1) := by decide +kernel
theorem dL_law_121 : decode code 121 = .ok (.iaload, 1) := by decide +kernel
theorem dL_law_122 : decode code 122 = .ok (.aload_n 0, 1) := by decide +kernel
theorem dL_law_123 : decode code 123 = .ok (.iload_n 3, 1) := by decide +kernel
theorem dL_law_124 : decode code 124 = .ok (.iconst 2, 1) := by decide +kernel
theorem dL_law_125 : decode code 125 = .ok (.iadd, 1) := by decide +kernel
theorem dL_law_126 : decode code 126 = .ok (.iaload, 1) := by decide +kernel
theorem dL_law_127 : decode code 127 = .ok (.aload_n 0, 1) := by decide +kernel
theorem dL_law_128 : decode code 128 = .ok (.iload_n 3, 1) := by decide +kernel
theorem dL_law_129 : decode code 129 = .ok (.iconst 3, 1) := by decide +kernel
theorem dL_law_130 : decode code 130 = .ok (.iadd, 1) := by decide +kernel
theorem dL_law_131 : decode code 131 = .ok (.iaload, 1) := by decide +kernel
theorem dL_law_132 : decode code 132 = .ok (.aload_n 0, 1) := by decide +kernel
theorem dL_law_133 : decode code 133 = .ok (.iload_n 3, 1) := by decide +kernel
theorem dL_law_134 : decode code 134 = .ok (.iconst 4, 1) := by decide +kernel
theorem dL_law_135 : decode code 135 = .ok (.iadd, 1) := by decide +kernel
theorem dL_law_136 : decode code 136 = .ok (.iaload, 1) := by decide +kernel
theorem dL_law_137 : decode code 137 = .ok (.aload_n 0, 1) := by decide +kernel
theorem dL_law_138 : decode code 138 = .ok (.iload_n 3, 1) := by decide +kernel
theorem dL_law_139 : decode code 139 = .ok (.iconst 5, 1) := by decide +kernel
theorem dL_law_140 : decode code 140 = .ok (.iadd, 1) := by decide +kernel
theorem dL_law_141 : decode code 141 = .ok (.iaload, 1) := by decide +kernel
theorem dL_law_142 : decode code 142 = .ok (.invokevirtual 13, 3) := by decide +kernel
theorem dL_law_145 : decode code 145 = .ok (.aload_n 2, 1) := by decide +kernel
theorem dL_law_146 : decode code 146 = .ok (.aload_n 0, 1) := by decide +kernel
theorem dL_law_147 : decode code 147 = .ok (.iload_n 3, 1) := by decide +kernel
theorem dL_law_148 : decode code 148 = .ok (.iconst 1, 1) := by decide +kernel
theorem dL_law_149 : decode code 149 = .ok (.iadd, 1) := by decide +kernel
theorem dL_law_150 : decode code 150 = .ok (.iaload, 1) := by decide +kernel
theorem dL_law_151 : decode code 151 = .ok (.aload_n 0, 1) := by decide +kernel
theorem dL_law_152 : decode code 152 = .ok (.iload_n 3, 1) := by decide +kernel
theorem dL_law_153 : decode code 153 = .ok (.iconst 2, 1) := by decide +kernel
theorem dL_law_154 : decode code 154 = .ok (.iadd, 1) := by decide +kernel
theorem dL_law_155 : decode code 155 = .ok (.iaload, 1) := by decide +kernel
theorem dL_law_156 : decode code 156 = .ok (.aload_n 0, 1) := by decide +kernel
theorem dL_law_157 : decode code 157 = .ok (.iload_n 3, 1) := by decide +kernel
theorem dL_law_158 : decode code 158 = .ok (.iconst 3, 1) := by decide +kernel
theorem dL_law_159 : decode code 159 = .ok (.iadd, 1) := by decide +kernel
theorem dL_law_160 : decode code 160 = .ok (.iaload, 1) := by decide +kernel
theorem dL_law_161 : decode code 161 = .ok (.aload_n 0, 1) := by decide +kernel
theorem dL_law_162 : decode code 162 = .ok (.iload_n 3, 1) := by decide +kernel
theorem dL_law_163 : decode code 163 = .ok (.iconst 4, 1) := by decide +kernel
theorem dL_law_164 : decode code 164 = .ok (.iadd, 1) := by decide +kernel
theorem dL_law_165 : decode code 165 = .ok (.iaload, 1) := by decide +kernel
theorem dL_law_166 : decode code 166 = .ok (.aload_n 0, 1) := by decide +kernel
theorem dL_law_167 : decode code 167 = .ok (.iload_n 3, 1) := by decide +kernel
theorem dL_law_168 : decode code 168 = .ok (.iconst 5, 1) := by decide +kernel
theorem dL_law_169 : decode code 169 = .ok (.iadd, 1) := by decide +kernel
theorem dL_law_170 : decode code 170 = .ok (.iaload, 1) := by decide +kernel
theorem dL_law_171 : decode code 171 = .ok (.invokevirtual 17, 3) := by decide +kernel
theorem dL_law_174 : decode code 174 = .ok (.if_icmp .eq 414, 3) := by decide +kernel
theorem dL_law_177 : decode code 177 = .ok (.iconst 0, 1) := by decide +kernel
theorem dL_law_178 : decode code 178 = .ok (.ireturn, 1) := by decide +kernel
theorem dL_law_179 : decode code 179 = .ok (.aload_n 1, 1) := by decide +kernel
theorem dL_law_180 : decode code 180 = .ok (.aload_n 0, 1) := by decide +kernel
theorem dL_law_181 : decode code 181 = .ok (.iload_n 3, 1) := by decide +kernel
theorem dL_law_182 : decode code 182 = .ok (.iconst 1, 1) := by decide +kernel
theorem dL_law_183 : decode code 183 = .ok (.iadd, 1) := by decide +kernel
theorem dL_law_184 : decode code 184 = .ok (.iaload, 1) := by decide +kernel
theorem dL_law_185 : decode code 185 = .ok (.invokevirtual 18, 3) := by decide +kernel
theorem dL_law_188 : decode code 188 = .ok (.aload_n 2, 1) := by decide +kernel
theorem dL_law_189 : decode code 189 = .ok (.aload_n 0, 1) := by decide +kernel
theorem dL_law_190 : decode code 190 = .ok (.iload_n 3, 1) := by decide +kernel
theorem dL_law_191 : decode code 191 = .ok (.iconst 1, 1) := by decide +kernel
theorem dL_law_192 : decode code 192 = .ok (.iadd, 1) := by decide +kernel
theorem dL_law_193 : decode code 193 = .ok (.iaload, 1) := by decide +kernel
theorem dL_law_194 : decode code 194 = .ok (.invokevirtual 22, 3) := by decide +kernel
theorem dL_law_197 : decode code 197 = .ok (.if_icmp .eq 391, 3) := by decide +kernel
theorem dL_law_200 : decode code 200 = .ok (.iconst 0, 1) := by decide +kernel
theorem dL_law_201 : decode code 201 = .ok (.ireturn, 1) := by decide +kernel
theorem dL_law_202 : decode code 202 = .ok (.aload_n 1, 1) := by decide +kernel
theorem dL_law_203 : decode code 203 = .ok (.aload_n 0, 1) := by decide +kernel
theorem dL_law_204 : decode code 204 = .ok (.iload_n 3, 1) := by decide +kernel
theorem dL_law_205 : decode code 205 = .ok (.iconst 1, 1) := by decide +kernel
theorem dL_law_206 : decode code 206 = .ok (.iadd, 1) := by decide +kernel
theorem dL_law_207 : decode code 207 = .ok (.iaload, 1) := by decide +kernel
theorem dL_law_208 : decode code 208 = .ok (.invokevirtual 23, 3) := by decide +kernel
theorem dL_law_211 : decode code 211 = .ok (.aload_n 2, 1) := by decide +kernel
theorem dL_law_212 : decode code 212 = .ok (.aload_n 0, 1) := by decide +kernel
theorem dL_law_213 : decode code 213 = .ok (.iload_n 3, 1) := by decide +kernel
theorem dL_law_214 : decode code 214 = .ok (.iconst 1, 1) := by decide +kernel
theorem dL_law_215 : decode code 215 = .ok (.iadd, 1) := by decide +kernel
theorem dL_law_216 : decode code 216 = .ok (.iaload, 1) := by decide +kernel
theorem dL_law_217 : decode code 217 = .ok (.invokevirtual 26, 3) := by decide +kernel
theorem dL_law_220 : decode code 220 = .ok (.if_icmp .eq 368, 3) := by decide +kernel
theorem dL_law_223 : decode code 223 = .ok (.iconst 0, 1) := by decide +kernel
theorem dL_law_224 : decode code 224 = .ok (.ireturn, 1) := by decide +kernel
theorem dL_law_225 : decode code 225 = .ok (.aload_n 1, 1) := by decide +kernel
theorem dL_law_226 : decode code 226 = .ok (.aload_n 0, 1) := by decide +kernel
theorem dL_law_227 : decode code 227 = .ok (.iload_n 3, 1) := by decide +kernel
theorem dL_law_228 : decode code 228 = .ok (.iconst 1, 1) := by decide +kernel
theorem dL_law_229 : decode code 229 = .ok (.iadd, 1) := by decide +kernel
theorem dL_law_230 : decode code 230 = .ok (.iaload, 1) := by decide +kernel
theorem dL_law_231 : decode code 231 = .ok (.i2l, 1) := by decide +kernel
theorem dL_law_232 : decode code 232 = .ok (.bipush 32, 2) := by decide +kernel
theorem dL_law_234 : decode code 234 = .ok (.lshl, 1) := by decide +kernel
theorem dL_law_235 : decode code 235 = .ok (.aload_n 0, 1) := by decide +kernel
theorem dL_law_236 : decode code 236 = .ok (.iload_n 3, 1) := by decide +kernel
theorem dL_law_237 : decode code 237 = .ok (.iconst 2, 1) := by decide +kernel
theorem dL_law_238 : decode code 238 = .ok (.iadd, 1) := by decide +kernel
theorem dL_law_239 : decode code 239 = .ok (.iaload, 1) := by decide +kernel
theorem dL_law_240 : decode code 240 = .ok (.i2l, 1) := by decide +kernel
theorem dL_law_241 : decode code 241 = .ok (.ldc2_w 27, 3) := by decide +kernel
theorem dL_law_244 : decode code 244 = .ok (.land, 1) := by decide +kernel
theorem dL_law_245 : decode code 245 = .ok (.lor, 1) := by decide +kernel
theorem dL_law_246 : decode code 246 = .ok (.invokevirtual 29, 3) := by decide +kernel
theorem dL_law_249 : decode code 249 = .ok (.aload_n 2, 1) := by decide +kernel
theorem dL_law_250 : decode code 250 = .ok (.aload_n 0, 1) := by decide +kernel
theorem dL_law_251 : decode code 251 = .ok (.iload_n 3, 1) := by decide +kernel
theorem dL_law_252 : decode code 252 = .ok (.iconst 1, 1) := by decide +kernel
theorem dL_law_253 : decode code 253 = .ok (.iadd, 1) := by decide +kernel
theorem dL_law_254 : decode code 254 = .ok (.iaload, 1) := by decide +kernel
theorem dL_law_255 : decode code 255 = .ok (.i2l, 1) := by decide +kernel
theorem dL_law_256 : decode code 256 = .ok (.bipush 32, 2) := by decide +kernel
theorem dL_law_258 : decode code 258 = .ok (.lshl, 1) := by decide +kernel
theorem dL_law_259 : decode code 259 = .ok (.aload_n 0, 1) := by decide +kernel
theorem dL_law_260 : decode code 260 = .ok (.iload_n 3, 1) := by decide +kernel
theorem dL_law_261 : decode code 261 = .ok (.iconst 2, 1) := by decide +kernel
theorem dL_law_262 : decode code 262 = .ok (.iadd, 1) := by decide +kernel
theorem dL_law_263 : decode code 263 = .ok (.iaload, 1) := by decide +kernel
theorem dL_law_264 : decode code 264 = .ok (.i2l, 1) := by decide +kernel
theorem dL_law_265 : decode code 265 = .ok (.ldc2_w 27, 3) := by decide +kernel
theorem dL_law_268 : decode code 268 = .ok (.land, 1) := by decide +kernel
theorem dL_law_269 : decode code 269 = .ok (.lor, 1) := by decide +kernel
theorem dL_law_270 : decode code 270 = .ok (.invokevirtual 33, 3) := by decide +kernel
theorem dL_law_273 : decode code 273 = .ok (.if_icmp .eq 315, 3) := by decide +kernel
theorem dL_law_276 : decode code 276 = .ok (.iconst 0, 1) := by decide +kernel
theorem dL_law_277 : decode code 277 = .ok (.ireturn, 1) := by decide +kernel
theorem dL_law_278 : decode code 278 = .ok (.aload_n 1, 1) := by decide +kernel
theorem dL_law_279 : decode code 279 = .ok (.aload_n 0, 1) := by decide +kernel
theorem dL_law_280 : decode code 280 = .ok (.iload_n 3, 1) := by decide +kernel
theorem dL_law_281 : decode code 281 = .ok (.iconst 1, 1) := by decide +kernel
theorem dL_law_282 : decode code 282 = .ok (.iadd, 1) := by decide +kernel
theorem dL_law_283 : decode code 283 = .ok (.iaload, 1) := by decide +kernel
theorem dL_law_284 : decode code 284 = .ok (.invokevirtual 34, 3) := by decide +kernel
theorem dL_law_287 : decode code 287 = .ok (.aload_n 2, 1) := by decide +kernel
theorem dL_law_288 : decode code 288 = .ok (.aload_n 0, 1) := by decide +kernel
theorem dL_law_289 : decode code 289 = .ok (.iload_n 3, 1) := by decide +kernel
theorem dL_law_290 : decode code 290 = .ok (.iconst 1, 1) := by decide +kernel
theorem dL_law_291 : decode code 291 = .ok (.iadd, 1) := by decide +kernel
theorem dL_law_292 : decode code 292 = .ok (.iaload, 1) := by decide +kernel
theorem dL_law_293 : decode code 293 = .ok (.invokevirtual 37, 3) := by decide +kernel
theorem dL_law_296 : decode code 296 = .ok (.if_icmp .eq 292, 3) := by decide +kernel
theorem dL_law_299 : decode code 299 = .ok (.iconst 0, 1) := by decide +kernel
theorem dL_law_300 : decode code 300 = .ok (.ireturn, 1) := by decide +kernel
theorem dL_law_301 : decode code 301 = .ok (.aload_n 1, 1) := by decide +kernel
theorem dL_law_302 : decode code 302 = .ok (.aload_n 0, 1) := by decide +kernel
theorem dL_law_303 : decode code 303 = .ok (.iload_n 3, 1) := by decide +kernel
theorem dL_law_304 : decode code 304 = .ok (.iconst 1, 1) := by decide +kernel
theorem dL_law_305 : decode code 305 = .ok (.iadd, 1) := by decide +kernel
theorem dL_law_306 : decode code 306 = .ok (.iaload, 1) := by decide +kernel
theorem dL_law_307 : decode code 307 = .ok (.invokevirtual 38, 3) := by decide +kernel
theorem dL_law_310 : decode code 310 = .ok (.aload_n 2, 1) := by decide +kernel
theorem dL_law_311 : decode code 311 = .ok (.aload_n 0, 1) := by decide +kernel
theorem dL_law_312 : decode code 312 = .ok (.iload_n 3, 1) := by decide +kernel
theorem dL_law_313 : decode code 313 = .ok (.iconst 1, 1) := by decide +kernel
theorem dL_law_314 : decode code 314 = .ok (.iadd, 1) := by decide +kernel
theorem dL_law_315 : decode code 315 = .ok (.iaload, 1) := by decide +kernel
theorem dL_law_316 : decode code 316 = .ok (.invokevirtual 41, 3) := by decide +kernel
theorem dL_law_319 : decode code 319 = .ok (.if_icmp .eq 269, 3) := by decide +kernel
theorem dL_law_322 : decode code 322 = .ok (.iconst 0, 1) := by decide +kernel
theorem dL_law_323 : decode code 323 = .ok (.ireturn, 1) := by decide +kernel
theorem dL_law_324 : decode code 324 = .ok (.aload_n 1, 1) := by decide +kernel
theorem dL_law_325 : decode code 325 = .ok (.aload_n 0, 1) := by decide +kernel
theorem dL_law_326 : decode code 326 = .ok (.iload_n 3, 1) := by decide +kernel
theorem dL_law_327 : decode code 327 = .ok (.iconst 1, 1) := by decide +kernel
theorem dL_law_328 : decode code 328 = .ok (.iadd, 1) := by decide +kernel
theorem dL_law_329 : decode code 329 = .ok (.iaload, 1) := by decide +kernel
theorem dL_law_330 : decode code 330 = .ok (.aload_n 0, 1) := by decide +kernel
theorem dL_law_331 : decode code 331 = .ok (.iload_n 3, 1) := by decide +kernel
theorem dL_law_332 : decode code 332 = .ok (.iconst 2, 1) := by decide +kernel
theorem dL_law_333 : decode code 333 = .ok (.iadd, 1) := by decide +kernel
theorem dL_law_334 : decode code 334 = .ok (.iaload, 1) := by decide +kernel
theorem dL_law_335 : decode code 335 = .ok (.invokevirtual 42, 3) := by decide +kernel
theorem dL_law_338 : decode code 338 = .ok (.aload_n 2, 1) := by decide +kernel
theorem dL_law_339 : decode code 339 = .ok (.aload_n 0, 1) := by decide +kernel
theorem dL_law_340 : decode code 340 = .ok (.iload_n 3, 1) := by decide +kernel
theorem dL_law_341 : decode code 341 = .ok (.iconst 1, 1) := by decide +kernel
theorem dL_law_342 : decode code 342 = .ok (.iadd, 1) := by decide +kernel
theorem dL_law_343 : decode code 343 = .ok (.iaload, 1) := by decide +kernel
theorem dL_law_344 : decode code 344 = .ok (.aload_n 0, 1) := by decide +kernel
theorem dL_law_345 : decode code 345 = .ok (.iload_n 3, 1) := by decide +kernel
theorem dL_law_346 : decode code 346 = .ok (.iconst 2, 1) := by decide +kernel
theorem dL_law_347 : decode code 347 = .ok (.iadd, 1) := by decide +kernel
theorem dL_law_348 : decode code 348 = .ok (.iaload, 1) := by decide +kernel
theorem dL_law_349 : decode code 349 = .ok (.invokevirtual 46, 3) := by decide +kernel
theorem dL_law_352 : decode code 352 = .ok (.lcmp, 1) := by decide +kernel
theorem dL_law_353 : decode code 353 = .ok (.ifCond .eq 235, 3) := by decide +kernel
theorem dL_law_356 : decode code 356 = .ok (.iconst 0, 1) := by decide +kernel
theorem dL_law_357 : decode code 357 = .ok (.ireturn, 1) := by decide +kernel
theorem dL_law_358 : decode code 358 = .ok (.aload_n 1, 1) := by decide +kernel
theorem dL_law_359 : decode code 359 = .ok (.aload_n 0, 1) := by decide +kernel
theorem dL_law_360 : decode code 360 = .ok (.iload_n 3, 1) := by decide +kernel
theorem dL_law_361 : decode code 361 = .ok (.iconst 1, 1) := by decide +kernel
theorem dL_law_362 : decode code 362 = .ok (.iadd, 1) := by decide +kernel
theorem dL_law_363 : decode code 363 = .ok (.iaload, 1) := by decide +kernel
theorem dL_law_364 : decode code 364 = .ok (.invokevirtual 47, 3) := by decide +kernel
theorem dL_law_367 : decode code 367 = .ok (.aload_n 2, 1) := by decide +kernel
theorem dL_law_368 : decode code 368 = .ok (.aload_n 0, 1) := by decide +kernel
theorem dL_law_369 : decode code 369 = .ok (.iload_n 3, 1) := by decide +kernel
theorem dL_law_370 : decode code 370 = .ok (.iconst 1, 1) := by decide +kernel
theorem dL_law_371 : decode code 371 = .ok (.iadd, 1) := by decide +kernel
theorem dL_law_372 : decode code 372 = .ok (.iaload, 1) := by decide +kernel
theorem dL_law_373 : decode code 373 = .ok (.invokevirtual 50, 3) := by decide +kernel
theorem dL_law_376 : decode code 376 = .ok (.if_icmp .eq 212, 3) := by decide +kernel
theorem dL_law_379 : decode code 379 = .ok (.iconst 0, 1) := by decide +kernel
theorem dL_law_380 : decode code 380 = .ok (.ireturn, 1) := by decide +kernel
theorem dL_law_381 : decode code 381 = .ok (.aload_n 1, 1) := by decide +kernel
theorem dL_law_382 : decode code 382 = .ok (.aload_n 0, 1) := by decide +kernel
theorem dL_law_383 : decode code 383 = .ok (.iload_n 3, 1) := by decide +kernel
theorem dL_law_384 : decode code 384 = .ok (.iconst 1, 1) := by decide +kernel
theorem dL_law_385 : decode code 385 = .ok (.iadd, 1) := by decide +kernel
theorem dL_law_386 : decode code 386 = .ok (.iaload, 1) := by decide +kernel
theorem dL_law_387 : decode code 387 = .ok (.aload_n 0, 1) := by decide +kernel
theorem dL_law_388 : decode code 388 = .ok (.iload_n 3, 1) := by decide +kernel
theorem dL_law_389 : decode code 389 = .ok (.iconst 2, 1) := by decide +kernel
theorem dL_law_390 : decode code 390 = .ok (.iadd, 1) := by decide +kernel
theorem dL_law_391 : decode code 391 = .ok (.iaload, 1) := by decide +kernel
theorem dL_law_392 : decode code 392 = .ok (.invokevirtual 51, 3) := by decide +kernel
theorem dL_law_395 : decode code 395 = .ok (.aload_n 2, 1) := by decide +kernel
theorem dL_law_396 : decode code 396 = .ok (.aload_n 0, 1) := by decide +kernel
theorem dL_law_397 : decode code 397 = .ok (.iload_n 3, 1) := by decide +kernel
theorem dL_law_398 : decode code 398 = .ok (.iconst 1, 1) := by decide +kernel
theorem dL_law_399 : decode code 399 = .ok (.iadd, 1) := by decide +kernel
theorem dL_law_400 : decode code 400 = .ok (.iaload, 1) := by decide +kernel
theorem dL_law_401 : decode code 401 = .ok (.aload_n 0, 1) := by decide +kernel
theorem dL_law_402 : decode code 402 = .ok (.iload_n 3, 1) := by decide +kernel
theorem dL_law_403 : decode code 403 = .ok (.iconst 2, 1) := by decide +kernel
theorem dL_law_404 : decode code 404 = .ok (.iadd, 1) := by decide +kernel
theorem dL_law_405 : decode code 405 = .ok (.iaload, 1) := by decide +kernel
theorem dL_law_406 : decode code 406 = .ok (.invokevirtual 55, 3) := by decide +kernel
theorem dL_law_409 : decode code 409 = .ok (.if_icmp .eq 179, 3) := by decide +kernel
theorem dL_law_412 : decode code 412 = .ok (.iconst 0, 1) := by decide +kernel
theorem dL_law_413 : decode code 413 = .ok (.ireturn, 1) := by decide +kernel
theorem dL_law_414 : decode code 414 = .ok (.aload_n 1, 1) := by decide +kernel
theorem dL_law_415 : decode code 415 = .ok (.aload_n 0, 1) := by decide +kernel
theorem dL_law_416 : decode code 416 = .ok (.iload_n 3, 1) := by decide +kernel
theorem dL_law_417 : decode code 417 = .ok (.iconst 1, 1) := by decide +kernel
theorem dL_law_418 : decode code 418 = .ok (.iadd, 1) := by decide +kernel
theorem dL_law_419 : decode code 419 = .ok (.iaload, 1) := by decide +kernel
theorem dL_law_420 : decode code 420 = .ok (.aload_n 0, 1) := by decide +kernel
theorem dL_law_421 : decode code 421 = .ok (.iload_n 3, 1) := by decide +kernel
theorem dL_law_422 : decode code 422 = .ok (.iconst 2, 1) := by decide +kernel
theorem dL_law_423 : decode code 423 = .ok (.iadd, 1) := by decide +kernel
theorem dL_law_424 : decode code 424 = .ok (.iaload, 1) := by decide +kernel
theorem dL_law_425 : decode code 425 = .ok (.invokevirtual 56, 3) := by decide +kernel
theorem dL_law_428 : decode code 428 = .ok (.aload_n 2, 1) := by decide +kernel
theorem dL_law_429 : decode code 429 = .ok (.aload_n 0, 1) := by decide +kernel
theorem dL_law_430 : decode code 430 = .ok (.iload_n 3, 1) := by decide +kernel
theorem dL_law_431 : decode code 431 = .ok (.iconst 1, 1) := by decide +kernel
theorem dL_law_432 : decode code 432 = .ok (.iadd, 1) := by decide +kernel
theorem dL_law_433 : decode code 433 = .ok (.iaload, 1) := by decide +kernel
theorem dL_law_434 : decode code 434 = .ok (.aload_n 0, 1) := by decide +kernel
theorem dL_law_435 : decode code 435 = .ok (.iload_n 3, 1) := by decide +kernel
theorem dL_law_436 : decode code 436 = .ok (.iconst 2, 1) := by decide +kernel
theorem dL_law_437 : decode code 437 = .ok (.iadd, 1) := by decide +kernel
theorem dL_law_438 : decode code 438 = .ok (.iaload, 1) := by decide +kernel
theorem dL_law_439 : decode code 439 = .ok (.invokevirtual 59, 3) := by decide +kernel
theorem dL_law_442 : decode code 442 = .ok (.if_icmp .eq 146, 3) := by decide +kernel
theorem dL_law_445 : decode code 445 = .ok (.iconst 0, 1) := by decide +kernel
theorem dL_law_446 : decode code 446 = .ok (.ireturn, 1) := by decide +kernel
theorem dL_law_447 : decode code 447 = .ok (.aload_n 1, 1) := by decide +kernel
theorem dL_law_448 : decode code 448 = .ok (.aload_n 0, 1) := by decide +kernel
theorem dL_law_449 : decode code 449 = .ok (.iload_n 3, 1) := by decide +kernel
theorem dL_law_450 : decode code 450 = .ok (.iconst 1, 1) := by decide +kernel
theorem dL_law_451 : decode code 451 = .ok (.iadd, 1) := by decide +kernel
theorem dL_law_452 : decode code 452 = .ok (.iaload, 1) := by decide +kernel
theorem dL_law_453 : decode code 453 = .ok (.aload_n 0, 1) := by decide +kernel
theorem dL_law_454 : decode code 454 = .ok (.iload_n 3, 1) := by decide +kernel
theorem dL_law_455 : decode code 455 = .ok (.iconst 2, 1) := by decide +kernel
theorem dL_law_456 : decode code 456 = .ok (.iadd, 1) := by decide +kernel
theorem dL_law_457 : decode code 457 = .ok (.iaload, 1) := by decide +kernel
theorem dL_law_458 : decode code 458 = .ok (.invokevirtual 60, 3) := by decide +kernel
theorem dL_law_461 : decode code 461 = .ok (.aload_n 2, 1) := by decide +kernel
theorem dL_law_462 : decode code 462 = .ok (.aload_n 0, 1) := by decide +kernel
theorem dL_law_463 : decode code 463 = .ok (.iload_n 3, 1) := by decide +kernel
theorem dL_law_464 : decode code 464 = .ok (.iconst 1, 1) := by decide +kernel
theorem dL_law_465 : decode code 465 = .ok (.iadd, 1) := by decide +kernel
theorem dL_law_466 : decode code 466 = .ok (.iaload, 1) := by decide +kernel
theorem dL_law_467 : decode code 467 = .ok (.aload_n 0, 1) := by decide +kernel
theorem dL_law_468 : decode code 468 = .ok (.iload_n 3, 1) := by decide +kernel
theorem dL_law_469 : decode code 469 = .ok (.iconst 2, 1) := by decide +kernel
theorem dL_law_470 : decode code 470 = .ok (.iadd, 1) := by decide +kernel
theorem dL_law_471 : decode code 471 = .ok (.iaload, 1) := by decide +kernel
theorem dL_law_472 : decode code 472 = .ok (.invokevirtual 63, 3) := by decide +kernel
theorem dL_law_475 : decode code 475 = .ok (.if_icmp .eq 113, 3) := by decide +kernel
theorem dL_law_478 : decode code 478 = .ok (.iconst 0, 1) := by decide +kernel
theorem dL_law_479 : decode code 479 = .ok (.ireturn, 1) := by decide +kernel
theorem dL_law_480 : decode code 480 = .ok (.aload_n 1, 1) := by decide +kernel
theorem dL_law_481 : decode code 481 = .ok (.aload_n 0, 1) := by decide +kernel
theorem dL_law_482 : decode code 482 = .ok (.iload_n 3, 1) := by decide +kernel
theorem dL_law_483 : decode code 483 = .ok (.iconst 1, 1) := by decide +kernel
theorem dL_law_484 : decode code 484 = .ok (.iadd, 1) := by decide +kernel
theorem dL_law_485 : decode code 485 = .ok (.iaload, 1) := by decide +kernel
theorem dL_law_486 : decode code 486 = .ok (.aload_n 0, 1) := by decide +kernel
theorem dL_law_487 : decode code 487 = .ok (.iload_n 3, 1) := by decide +kernel
theorem dL_law_488 : decode code 488 = .ok (.iconst 2, 1) := by decide +kernel
theorem dL_law_489 : decode code 489 = .ok (.iadd, 1) := by decide +kernel
theorem dL_law_490 : decode code 490 = .ok (.iaload, 1) := by decide +kernel
theorem dL_law_491 : decode code 491 = .ok (.invokevirtual 64, 3) := by decide +kernel
theorem dL_law_494 : decode code 494 = .ok (.aload_n 2, 1) := by decide +kernel
theorem dL_law_495 : decode code 495 = .ok (.aload_n 0, 1) := by decide +kernel
theorem dL_law_496 : decode code 496 = .ok (.iload_n 3, 1) := by decide +kernel
theorem dL_law_497 : decode code 497 = .ok (.iconst 1, 1) := by decide +kernel
theorem dL_law_498 : decode code 498 = .ok (.iadd, 1) := by decide +kernel
theorem dL_law_499 : decode code 499 = .ok (.iaload, 1) := by decide +kernel
theorem dL_law_500 : decode code 500 = .ok (.aload_n 0, 1) := by decide +kernel
theorem dL_law_501 : decode code 501 = .ok (.iload_n 3, 1) := by decide +kernel
theorem dL_law_502 : decode code 502 = .ok (.iconst 2, 1) := by decide +kernel
theorem dL_law_503 : decode code 503 = .ok (.iadd, 1) := by decide +kernel
theorem dL_law_504 : decode code 504 = .ok (.iaload, 1) := by decide +kernel
theorem dL_law_505 : decode code 505 = .ok (.invokevirtual 67, 3) := by decide +kernel
theorem dL_law_508 : decode code 508 = .ok (.if_icmp .eq 80, 3) := by decide +kernel
theorem dL_law_511 : decode code 511 = .ok (.iconst 0, 1) := by decide +kernel
theorem dL_law_512 : decode code 512 = .ok (.ireturn, 1) := by decide +kernel
theorem dL_law_513 : decode code 513 = .ok (.aload_n 1, 1) := by decide +kernel
theorem dL_law_514 : decode code 514 = .ok (.aload_n 0, 1) := by decide +kernel
theorem dL_law_515 : decode code 515 = .ok (.iload_n 3, 1) := by decide +kernel
theorem dL_law_516 : decode code 516 = .ok (.iconst 1, 1) := by decide +kernel
theorem dL_law_517 : decode code 517 = .ok (.iadd, 1) := by decide +kernel
theorem dL_law_518 : decode code 518 = .ok (.iaload, 1) := by decide +kernel
theorem dL_law_519 : decode code 519 = .ok (.invokevirtual 68, 3) := by decide +kernel
theorem dL_law_522 : decode code 522 = .ok (.aload_n 2, 1) := by decide +kernel
theorem dL_law_523 : decode code 523 = .ok (.aload_n 0, 1) := by decide +kernel
theorem dL_law_524 : decode code 524 = .ok (.iload_n 3, 1) := by decide +kernel
theorem dL_law_525 : decode code 525 = .ok (.iconst 1, 1) := by decide +kernel
theorem dL_law_526 : decode code 526 = .ok (.iadd, 1) := by decide +kernel
theorem dL_law_527 : decode code 527 = .ok (.iaload, 1) := by decide +kernel
theorem dL_law_528 : decode code 528 = .ok (.invokevirtual 71, 3) := by decide +kernel
theorem dL_law_531 : decode code 531 = .ok (.if_icmp .eq 57, 3) := by decide +kernel
theorem dL_law_534 : decode code 534 = .ok (.iconst 0, 1) := by decide +kernel
theorem dL_law_535 : decode code 535 = .ok (.ireturn, 1) := by decide +kernel
theorem dL_law_536 : decode code 536 = .ok (.aload_n 1, 1) := by decide +kernel
theorem dL_law_537 : decode code 537 = .ok (.invokevirtual 72, 3) := by decide +kernel
theorem dL_law_540 : decode code 540 = .ok (.aload_n 2, 1) := by decide +kernel
theorem dL_law_541 : decode code 541 = .ok (.invokevirtual 76, 3) := by decide +kernel
theorem dL_law_544 : decode code 544 = .ok (.if_icmp .eq 44, 3) := by decide +kernel
theorem dL_law_547 : decode code 547 = .ok (.iconst 0, 1) := by decide +kernel
theorem dL_law_548 : decode code 548 = .ok (.ireturn, 1) := by decide +kernel
theorem dL_law_549 : decode code 549 = .ok (.aload_n 1, 1) := by decide +kernel
theorem dL_law_550 : decode code 550 = .ok (.invokevirtual 77, 3) := by decide +kernel
theorem dL_law_553 : decode code 553 = .ok (.aload_n 2, 1) := by decide +kernel
theorem dL_law_554 : decode code 554 = .ok (.invokevirtual 80, 3) := by decide +kernel
theorem dL_law_557 : decode code 557 = .ok (.if_icmp .eq 31, 3) := by decide +kernel
theorem dL_law_560 : decode code 560 = .ok (.iconst 0, 1) := by decide +kernel
theorem dL_law_561 : decode code 561 = .ok (.ireturn, 1) := by decide +kernel
theorem dL_law_562 : decode code 562 = .ok (.aload_n 1, 1) := by decide +kernel
theorem dL_law_563 : decode code 563 = .ok (.invokevirtual 81, 3) := by decide +kernel
theorem dL_law_566 : decode code 566 = .ok (.aload_n 2, 1) := by decide +kernel
theorem dL_law_567 : decode code 567 = .ok (.invokevirtual 84, 3) := by decide +kernel
theorem dL_law_570 : decode code 570 = .ok (.if_icmp .eq 18, 3) := by decide +kernel
theorem dL_law_573 : decode code 573 = .ok (.iconst 0, 1) := by decide +kernel
theorem dL_law_574 : decode code 574 = .ok (.ireturn, 1) := by decide +kernel
theorem dL_law_575 : decode code 575 = .ok (.aload_n 1, 1) := by decide +kernel
theorem dL_law_576 : decode code 576 = .ok (.invokevirtual 85, 3) := by decide +kernel
theorem dL_law_579 : decode code 579 = .ok (.aload_n 2, 1) := by decide +kernel
theorem dL_law_580 : decode code 580 = .ok (.invokevirtual 88, 3) := by decide +kernel
theorem dL_law_583 : decode code 583 = .ok (.if_icmp .eq 5, 3) := by decide +kernel
theorem dL_law_586 : decode code 586 = .ok (.iconst 0, 1) := by decide +kernel
theorem dL_law_587 : decode code 587 = .ok (.ireturn, 1) := by decide +kernel
theorem dL_law_588 : decode code 588 = .ok (.iinc 3 6, 3) := by decide +kernel
theorem dL_law_591 : decode code 591 = .ok (.goto (-573), 3) := by decide +kernel
theorem dL_law_594 : decode code 594 = .ok (.iconst 1, 1) := by decide +kernel
theorem dL_law_595 : decode code 595 = .ok (.ireturn, 1) := by decide +kernel
def TB0 : List Cond := [.instanceMethod objectInit, .code objectInit ⟨#[0xb1]⟩ 1 none, .code yX12_init cX12_init 1 none, .initialized "LoanHouse", .instanceMethod yX12_init, .methodLink "LoanHouse" 3 objectInit, .arrayClass .byte, .fieldLink "LoanHouse" 9 "LoanHouse" "text" "[B", .arrayClass .long, .fieldLink "LoanHouse" 13 "LoanHouse" "given" "[J", .classLink "LoanHouse" 17 "LoanHouse$Tree", .instantiable "LoanHouse$Tree" 12, .initialized "LoanHouse$Tree", .fieldLink "LoanHouse" 20 "LoanHouse" "tree" "LLoanHouse$Tree;", .classLink "LoanHouse" 24 "LoanHouse$Reader", .instantiable "LoanHouse$Reader" 18, .initialized "LoanHouse$Reader", .fieldLink "LoanHouse" 29 "LoanHouse" "reader" "LLoanHouse$Reader;", .classLink "LoanHouse" 33 "LoanHouse$Checker", .instantiable "LoanHouse$Checker" 11, .initialized "LoanHouse$Checker", .fieldLink "LoanHouse" 36 "LoanHouse" "checker" "LLoanHouse$Checker;", .classLink "LoanHouse" 40 "LoanHouse$Emitter", .instantiable "LoanHouse$Emitter" 10, .initialized "LoanHouse$Emitter", .fieldLink "LoanHouse" 43 "LoanHouse" "emitter" "LLoanHouse$Emitter;", .classLink "LoanHouse" 47 "LoanHouse$Ways", .instantiable "LoanHouse$Ways" 22, .initialized "LoanHouse$Ways", .fieldLink "LoanHouse" 50 "LoanHouse" "ways" "LLoanHouse$Ways;"]
def TB1 : List Cond := [.classLink "LoanHouse" 54 "LoanHouse$Machine", .instantiable "LoanHouse$Machine" 21, .initialized "LoanHouse$Machine", .fieldLink "LoanHouse" 57 "LoanHouse" "machine" "LLoanHouse$Machine;", .classLink "LoanHouse" 61 "LoanHouse$Program", .instantiable "LoanHouse$Program" 15, .initialized "LoanHouse$Program", .fieldLink "LoanHouse" 64 "LoanHouse" "program" "LLoanHouse$Program;", .fieldLink "LoanHouse" 68 "LoanHouse" "faultKind" "I", .fieldLink "LoanHouse" 72 "LoanHouse" "faultPlace" "I", .fieldLink "LoanHouse" 75 "LoanHouse" "faultOther" "I", .code yX12_feed cX12_feed 6 (some .int), .instanceMethod yX12_feed, .selects "LoanHouse" yX12_feed yX12_feed, .fieldLink "LoanHouse" 78 "LoanHouse" "textLength" "I", .methodLink "LoanHouse" 81 yX12_feedNumber, .code yX12_feedNumber cX12_feedNumber 3 none, .instanceMethod yX12_feedNumber, .selects "LoanHouse" yX12_feedNumber yX12_feedNumber, .code yX12_judge cX12_judge 2 (some .int), .instanceMethod yX12_judge, .selects "LoanHouse" yX12_judge yX12_judge, .methodLink "LoanHouse" 89 yX12_judgeTree, .code yX12_judgeTree cX12_judgeTree 3 (some .int), .instanceMethod yX12_judgeTree, .selects "LoanHouse" yX12_judgeTree yX12_judgeTree, .fieldLink "LoanHouse" 96 "LoanHouse" "hasProgram" "Z", .fieldLink "LoanHouse" 100 "LoanHouse" "next" "LLoanHouse$Program;", .code yX12_fault cX12_fault 2 (some .int), .instanceMethod yX12_fault]
def TB2 : List Cond := [.selects "LoanHouse" yX12_fault yX12_fault, .code yX12_give cX12_give 3 (some .int), .instanceMethod yX12_give, .selects "LoanHouse" yX12_give yX12_give, .fieldLink "LoanHouse" 133 "LoanHouse" "givenTotal" "I", .code yX12_run cX12_run 2 (some .int), .instanceMethod yX12_run, .selects "LoanHouse" yX12_run yX12_run, .constant "LoanHouse" 136 (50000), .fieldLink "LoanHouse" 103 "LoanHouse" "hasRun" "Z", .code yX12_about cX12_about 2 (some .int), .instanceMethod yX12_about, .selects "LoanHouse" yX12_about yX12_about, .code yX12_out cX12_out 3 (some .long), .instanceMethod yX12_out, .selects "LoanHouse" yX12_out yX12_out, .code yX12_count cX12_count 2 (some .int), .instanceMethod yX12_count, .selects "LoanHouse" yX12_count yX12_count, .code yX12_place cX12_place 3 (some .int), .instanceMethod yX12_place, .selects "LoanHouse" yX12_place yX12_place, .code yX12_loan cX12_loan 3 (some .int), .instanceMethod yX12_loan, .selects "LoanHouse" yX12_loan yX12_loan, .code yX12_force cX12_force 3 (some .int), .instanceMethod yX12_force, .selects "LoanHouse" yX12_force yX12_force, .code yX12_function cX12_function 3 (some .int), .instanceMethod yX12_function]
def TB3 : List Cond := [.selects "LoanHouse" yX12_function yX12_function, .code yX12_size cX12_size 2 (some .int), .instanceMethod yX12_size, .selects "LoanHouse" yX12_size yX12_size, .code yX12_strays cX12_strays 1 (some .int), .instanceMethod yX12_strays, .selects "LoanHouse" yX12_strays yX12_strays, .code yX12_twices cX12_twices 1 (some .int), .instanceMethod yX12_twices, .selects "LoanHouse" yX12_twices yX12_twices, .code yX12_lefts cX12_lefts 1 (some .int), .instanceMethod yX12_lefts, .selects "LoanHouse" yX12_lefts yX12_lefts, .code yX12_clashes cX12_clashes 1 (some .int), .instanceMethod yX12_clashes, .selects "LoanHouse" yX12_clashes yX12_clashes, .code yX8_init cX8_init 1 none, .instanceMethod yX8_init, .methodLink "LoanHouse$Tree" 3 objectInit, .arrayClass .int, .fieldLink "LoanHouse$Tree" 9 "LoanHouse$Tree" "kind" "[I", .fieldLink "LoanHouse$Tree" 15 "LoanHouse$Tree" "pos" "[I", .fieldLink "LoanHouse$Tree" 18 "LoanHouse$Tree" "from" "[I", .fieldLink "LoanHouse$Tree" 21 "LoanHouse$Tree" "name" "[I", .fieldLink "LoanHouse$Tree" 24 "LoanHouse$Tree" "a" "[I", .fieldLink "LoanHouse$Tree" 27 "LoanHouse$Tree" "b" "[I", .fieldLink "LoanHouse$Tree" 30 "LoanHouse$Tree" "c" "[I", .fieldLink "LoanHouse$Tree" 33 "LoanHouse$Tree" "next" "[I", .fieldLink "LoanHouse$Tree" 36 "LoanHouse$Tree" "value" "[J", .fieldLink "LoanHouse$Tree" 40 "LoanHouse$Tree" "type" "[I"]
def TB4 : List Cond := [.fieldLink "LoanHouse$Tree" 43 "LoanHouse$Tree" "ref" "[I", .fieldLink "LoanHouse$Tree" 46 "LoanHouse$Tree" "total" "I", .code yX8_clear cX8_clear 1 none, .instanceMethod yX8_clear, .selects "LoanHouse$Tree" yX8_clear yX8_clear, .code yX8_add cX8_add 4 (some .int), .instanceMethod yX8_add, .selects "LoanHouse$Tree" yX8_add yX8_add, .code yX6_init cX6_init 3 none, .instanceMethod yX6_init, .methodLink "LoanHouse$Reader" 3 objectInit, .methodLink "LoanHouse$Reader" 11 yJ0_length_8abf5, .fieldLink "LoanHouse$Reader" 17 "LoanHouse$Reader" "pool" "[B", .fieldLink "LoanHouse$Reader" 23 "LoanHouse$Reader" "nameStart" "[I", .fieldLink "LoanHouse$Reader" 27 "LoanHouse$Reader" "nameLength" "[I", .fieldLink "LoanHouse$Reader" 30 "LoanHouse$Reader" "nameNext" "[I", .fieldLink "LoanHouse$Reader" 33 "LoanHouse$Reader" "heads" "[I", .fieldLink "LoanHouse$Reader" 36 "LoanHouse$Reader" "tokenKind" "[I", .fieldLink "LoanHouse$Reader" 39 "LoanHouse$Reader" "tokenPos" "[I", .fieldLink "LoanHouse$Reader" 42 "LoanHouse$Reader" "tokenValue" "[J", .fieldLink "LoanHouse$Reader" 46 "LoanHouse$Reader" "tree" "LLoanHouse$Tree;", .methodLink "LoanHouse$Reader" 50 yJ0_charAt_5068e, .code yX6_read cX6_read 8 (some .int), .instanceMethod yX6_read, .selects "LoanHouse$Reader" yX6_read yX6_read, .methodLink "LoanHouse$Reader" 54 arraycopyName, .static arraycopyName, .native arraycopyName, .initialized "java/lang/System", .fieldLink "LoanHouse$Reader" 60 "LoanHouse$Reader" "at" "I"]
def TB5 : List Cond := [.fieldLink "LoanHouse$Reader" 64 "LoanHouse$Reader" "end" "I", .fieldLink "LoanHouse$Reader" 67 "LoanHouse$Reader" "open" "I", .fieldLink "LoanHouse$Reader" 70 "LoanHouse$Reader" "wrong" "I", .methodLink "LoanHouse$Reader" 73 yX6_takeWords, .methodLink "LoanHouse$Reader" 76 yX6_takeTokens, .fieldLink "LoanHouse$Reader" 84 "LoanHouse$Reader" "current" "I", .methodLink "LoanHouse$Reader" 87 yX6_advance, .fieldLink "LoanHouse$Reader" 94 "LoanHouse$Reader" "kind" "I", .fieldLink "LoanHouse$Reader" 97 "LoanHouse$Reader" "pos" "I", .code yX6_takeWords cX6_takeWords 3 none, .instanceMethod yX6_takeWords, .selects "LoanHouse$Reader" yX6_takeWords yX6_takeWords, .fieldLink "LoanHouse$Reader" 119 "LoanHouse$Reader" "names" "I", .methodLink "LoanHouse$Reader" 122 yX6_nameOf, .code yX6_nameOf cX6_nameOf 6 (some .int), .instanceMethod yX6_nameOf, .selects "LoanHouse$Reader" yX6_nameOf yX6_nameOf, .methodLink "LoanHouse$Reader" 125 yX6_alike, .code yX6_alike cX6_alike 5 (some .boolean), .instanceMethod yX6_alike, .selects "LoanHouse$Reader" yX6_alike yX6_alike, .code yX6_takeTokens cX6_takeTokens 3 none, .instanceMethod yX6_takeTokens, .selects "LoanHouse$Reader" yX6_takeTokens yX6_takeTokens, .fieldLink "LoanHouse$Reader" 129 "LoanHouse$Reader" "tokens" "I", .methodLink "LoanHouse$Reader" 132 yX6_skipBlanks, .code yX6_skipBlanks cX6_skipBlanks 5 none, .instanceMethod yX6_skipBlanks, .selects "LoanHouse$Reader" yX6_skipBlanks yX6_skipBlanks, .code yX6_advance cX6_advance 1 none]
def TB6 : List Cond := [.instanceMethod yX6_advance, .selects "LoanHouse$Reader" yX6_advance yX6_advance, .code yX0_init cX0_init 2 none, .instanceMethod yX0_init, .methodLink "LoanHouse$Checker" 3 objectInit, .fieldLink "LoanHouse$Checker" 9 "LoanHouse$Checker" "tree" "LLoanHouse$Tree;", .code yX0_check cX0_check 6 (some .int), .instanceMethod yX0_check, .selects "LoanHouse$Checker" yX0_check yX0_check, .fieldLink "LoanHouse$Checker" 21 "LoanHouse$Checker" "types" "LLoanHouse$Types;", .fieldLink "LoanHouse$Checker" 26 "LoanHouse$Checker" "functions" "LLoanHouse$Functions;", .fieldLink "LoanHouse$Checker" 31 "LoanHouse$Checker" "variables" "LLoanHouse$Variables;", .fieldLink "LoanHouse$Checker" 36 "LoanHouse$Checker" "places" "LLoanHouse$Places;", .constant "LoanHouse$Checker" 37 (1073741824), .fieldLink "LoanHouse$Checker" 38 "LoanHouse$Checker" "least" "I", .methodLink "LoanHouse$Checker" 48 yX0_declareAll, .methodLink "LoanHouse$Checker" 67 yX0_measures, .methodLink "LoanHouse$Checker" 81 yX0_mainFunction, .code yX0_declareAll cX0_declareAll 4 none, .instanceMethod yX0_declareAll, .selects "LoanHouse$Checker" yX0_declareAll yX0_declareAll, .code yX0_measures cX0_measures 5 none, .instanceMethod yX0_measures, .selects "LoanHouse$Checker" yX0_measures yX0_measures, .methodLink "LoanHouse$Checker" 126 yX0_broken, .code yX0_mainFunction cX0_mainFunction 4 none, .instanceMethod yX0_mainFunction, .selects "LoanHouse$Checker" yX0_mainFunction yX0_mainFunction, .code yX0_broken cX0_broken 2 none, .instanceMethod yX0_broken]
def TB7 : List Cond := [.selects "LoanHouse$Checker" yX0_broken yX0_broken, .methodLink "LoanHouse$Checker" 84 Lib.Math.min.name, .static Lib.Math.min.name, .code Lib.Math.min.name Lib.Math.min.code 2 (some .int), .initialized "java/lang/Math", .code yX1_init cX1_init 2 none, .instanceMethod yX1_init, .methodLink "LoanHouse$Emitter" 3 objectInit, .fieldLink "LoanHouse$Emitter" 9 "LoanHouse$Emitter" "tree" "LLoanHouse$Tree;", .code yX11_init cX11_init 1 none, .instanceMethod yX11_init, .methodLink "LoanHouse$Ways" 5 objectInit, .fieldLink "LoanHouse$Ways" 11 "LoanHouse$Ways" "state" "[J", .fieldLink "LoanHouse$Ways" 15 "LoanHouse$Ways" "labelState" "[J", .arrayClass .boolean, .fieldLink "LoanHouse$Ways" 18 "LoanHouse$Ways" "labelCome" "[Z", .fieldLink "LoanHouse$Ways" 22 "LoanHouse$Ways" "temps" "[J", .fieldLink "LoanHouse$Ways" 25 "LoanHouse$Ways" "matched" "[J", .fieldLink "LoanHouse$Ways" 28 "LoanHouse$Ways" "used" "[J", .fieldLink "LoanHouse$Ways" 31 "LoanHouse$Ways" "met" "[Z", .code yX3_init cX3_init 1 none, .instanceMethod yX3_init, .methodLink "LoanHouse$Machine" 3 objectInit, .classLink "LoanHouse$Machine" 9 "LoanHouse$Store", .instantiable "LoanHouse$Store" 19, .initialized "LoanHouse$Store", .fieldLink "LoanHouse$Machine" 12 "LoanHouse$Machine" "store" "LLoanHouse$Store;", .fieldLink "LoanHouse$Machine" 20 "LoanHouse$Machine" "waiting" "[[J", .fieldLink "LoanHouse$Machine" 23 "LoanHouse$Machine" "parts" "[J", .code yX7_init cX7_init 1 none]
def TB8 : List Cond := [.instanceMethod yX7_init, .methodLink "LoanHouse$Store" 3 objectInit, .fieldLink "LoanHouse$Store" 9 "LoanHouse$Store" "cells" "[J", .fieldLink "LoanHouse$Store" 15 "LoanHouse$Store" "boxUsed" "[Z", .fieldLink "LoanHouse$Store" 19 "LoanHouse$Store" "rowUsed" "[Z", .fieldLink "LoanHouse$Store" 22 "LoanHouse$Store" "rowLength" "[I", .fieldLink "LoanHouse$Store" 26 "LoanHouse$Store" "outKind" "[I", .fieldLink "LoanHouse$Store" 29 "LoanHouse$Store" "outNumber" "[J", .fieldLink "LoanHouse$Store" 32 "LoanHouse$Store" "dropType" "[I", .fieldLink "LoanHouse$Store" 35 "LoanHouse$Store" "dropAt" "[I", .code yX5_init cX5_init 1 none, .instanceMethod yX5_init, .methodLink "LoanHouse$Program" 3 objectInit, .classLink "LoanHouse$Program" 9 "LoanHouse$Types", .instantiable "LoanHouse$Types" 19, .initialized "LoanHouse$Types", .fieldLink "LoanHouse$Program" 12 "LoanHouse$Program" "types" "LLoanHouse$Types;", .classLink "LoanHouse$Program" 18 "LoanHouse$Functions", .instantiable "LoanHouse$Functions" 19, .initialized "LoanHouse$Functions", .fieldLink "LoanHouse$Program" 21 "LoanHouse$Program" "functions" "LLoanHouse$Functions;", .classLink "LoanHouse$Program" 25 "LoanHouse$Variables", .instantiable "LoanHouse$Variables" 12, .initialized "LoanHouse$Variables", .fieldLink "LoanHouse$Program" 28 "LoanHouse$Program" "variables" "LLoanHouse$Variables;", .classLink "LoanHouse$Program" 32 "LoanHouse$Places", .instantiable "LoanHouse$Places" 20, .initialized "LoanHouse$Places", .fieldLink "LoanHouse$Program" 35 "LoanHouse$Program" "places" "LLoanHouse$Places;", .fieldLink "LoanHouse$Program" 39 "LoanHouse$Program" "op" "[I"]
def TB9 : List Cond := [.fieldLink "LoanHouse$Program" 43 "LoanHouse$Program" "x" "[I", .fieldLink "LoanHouse$Program" 46 "LoanHouse$Program" "y" "[I", .fieldLink "LoanHouse$Program" 49 "LoanHouse$Program" "z" "[I", .fieldLink "LoanHouse$Program" 52 "LoanHouse$Program" "pos" "[I", .fieldLink "LoanHouse$Program" 55 "LoanHouse$Program" "label" "[I", .fieldLink "LoanHouse$Program" 58 "LoanHouse$Program" "order" "[I", .code yX5_clear cX5_clear 1 none, .instanceMethod yX5_clear, .selects "LoanHouse$Program" yX5_clear yX5_clear, .fieldLink "LoanHouse$Program" 67 "LoanHouse$Program" "slots" "I", .fieldLink "LoanHouse$Program" 71 "LoanHouse$Program" "labels" "I", .fieldLink "LoanHouse$Program" 74 "LoanHouse$Program" "matches" "I", .fieldLink "LoanHouse$Program" 77 "LoanHouse$Program" "orders" "I", .code yX9_init cX9_init 1 none, .instanceMethod yX9_init, .methodLink "LoanHouse$Types" 3 objectInit, .fieldLink "LoanHouse$Types" 9 "LoanHouse$Types" "kind" "[I", .fieldLink "LoanHouse$Types" 15 "LoanHouse$Types" "arg" "[I", .fieldLink "LoanHouse$Types" 18 "LoanHouse$Types" "declName" "[I", .fieldLink "LoanHouse$Types" 21 "LoanHouse$Types" "declForm" "[I", .fieldLink "LoanHouse$Types" 24 "LoanHouse$Types" "declFirst" "[I", .fieldLink "LoanHouse$Types" 27 "LoanHouse$Types" "declWidth" "[I", .fieldLink "LoanHouse$Types" 30 "LoanHouse$Types" "declCells" "[I", .fieldLink "LoanHouse$Types" 33 "LoanHouse$Types" "declParts" "[I", .fieldLink "LoanHouse$Types" 36 "LoanHouse$Types" "declLeaves" "[I", .fieldLink "LoanHouse$Types" 39 "LoanHouse$Types" "variantName" "[I", .fieldLink "LoanHouse$Types" 42 "LoanHouse$Types" "variantFirst" "[I", .fieldLink "LoanHouse$Types" 45 "LoanHouse$Types" "variantWidth" "[I", .fieldLink "LoanHouse$Types" 48 "LoanHouse$Types" "memberName" "[I", .fieldLink "LoanHouse$Types" 51 "LoanHouse$Types" "memberType" "[I"]
def TB10 : List Cond := [.fieldLink "LoanHouse$Types" 54 "LoanHouse$Types" "memberCell" "[I", .code yX9_clear cX9_clear 1 none, .instanceMethod yX9_clear, .selects "LoanHouse$Types" yX9_clear yX9_clear, .fieldLink "LoanHouse$Types" 57 "LoanHouse$Types" "decls" "I", .fieldLink "LoanHouse$Types" 61 "LoanHouse$Types" "variants" "I", .fieldLink "LoanHouse$Types" 64 "LoanHouse$Types" "members" "I", .fieldLink "LoanHouse$Types" 67 "LoanHouse$Types" "total" "I", .code yX9_measure cX9_measure 4 none, .instanceMethod yX9_measure, .selects "LoanHouse$Types" yX9_measure yX9_measure, .code yX2_init cX2_init 1 none, .instanceMethod yX2_init, .methodLink "LoanHouse$Functions" 3 objectInit, .fieldLink "LoanHouse$Functions" 9 "LoanHouse$Functions" "name" "[I", .fieldLink "LoanHouse$Functions" 15 "LoanHouse$Functions" "node" "[I", .fieldLink "LoanHouse$Functions" 18 "LoanHouse$Functions" "result" "[I", .fieldLink "LoanHouse$Functions" 21 "LoanHouse$Functions" "of" "[J", .fieldLink "LoanHouse$Functions" 25 "LoanHouse$Functions" "params" "[I", .fieldLink "LoanHouse$Functions" 28 "LoanHouse$Functions" "firstParam" "[I", .fieldLink "LoanHouse$Functions" 31 "LoanHouse$Functions" "paramType" "[I", .fieldLink "LoanHouse$Functions" 34 "LoanHouse$Functions" "firstVariable" "[I", .fieldLink "LoanHouse$Functions" 37 "LoanHouse$Functions" "variables" "[I", .fieldLink "LoanHouse$Functions" 40 "LoanHouse$Functions" "firstLeaf" "[I", .fieldLink "LoanHouse$Functions" 43 "LoanHouse$Functions" "leaves" "[I", .fieldLink "LoanHouse$Functions" 46 "LoanHouse$Functions" "splits" "[I", .fieldLink "LoanHouse$Functions" 49 "LoanHouse$Functions" "firstLoan" "[I", .fieldLink "LoanHouse$Functions" 52 "LoanHouse$Functions" "loans" "[I", .fieldLink "LoanHouse$Functions" 55 "LoanHouse$Functions" "entry" "[I", .fieldLink "LoanHouse$Functions" 58 "LoanHouse$Functions" "cells" "[I"]
def TB11 : List Cond := [.code yX2_clear cX2_clear 1 none, .instanceMethod yX2_clear, .selects "LoanHouse$Functions" yX2_clear yX2_clear, .fieldLink "LoanHouse$Functions" 61 "LoanHouse$Functions" "total" "I", .fieldLink "LoanHouse$Functions" 65 "LoanHouse$Functions" "paramTotal" "I", .fieldLink "LoanHouse$Functions" 68 "LoanHouse$Functions" "main" "I", .code yX10_init cX10_init 1 none, .instanceMethod yX10_init, .methodLink "LoanHouse$Variables" 3 objectInit, .fieldLink "LoanHouse$Variables" 9 "LoanHouse$Variables" "name" "[I", .fieldLink "LoanHouse$Variables" 15 "LoanHouse$Variables" "pos" "[I", .fieldLink "LoanHouse$Variables" 18 "LoanHouse$Variables" "type" "[I", .fieldLink "LoanHouse$Variables" 21 "LoanHouse$Variables" "outer" "[I", .fieldLink "LoanHouse$Variables" 24 "LoanHouse$Variables" "firstLeaf" "[I", .fieldLink "LoanHouse$Variables" 27 "LoanHouse$Variables" "leafCount" "[I", .fieldLink "LoanHouse$Variables" 30 "LoanHouse$Variables" "cell" "[I", .fieldLink "LoanHouse$Variables" 33 "LoanHouse$Variables" "loans" "[J", .fieldLink "LoanHouse$Variables" 37 "LoanHouse$Variables" "leafType" "[I", .fieldLink "LoanHouse$Variables" 40 "LoanHouse$Variables" "leafCell" "[I", .code yX10_clear cX10_clear 1 none, .instanceMethod yX10_clear, .selects "LoanHouse$Variables" yX10_clear yX10_clear, .fieldLink "LoanHouse$Variables" 43 "LoanHouse$Variables" "total" "I", .fieldLink "LoanHouse$Variables" 47 "LoanHouse$Variables" "leaves" "I", .code yX4_init cX4_init 1 none, .instanceMethod yX4_init, .methodLink "LoanHouse$Places" 3 objectInit, .fieldLink "LoanHouse$Places" 9 "LoanHouse$Places" "pos" "[I", .fieldLink "LoanHouse$Places" 15 "LoanHouse$Places" "act" "[I", .fieldLink "LoanHouse$Places" 18 "LoanHouse$Places" "fn" "[I"]
def TB12 : List Cond := [.fieldLink "LoanHouse$Places" 21 "LoanHouse$Places" "variable" "[I", .fieldLink "LoanHouse$Places" 24 "LoanHouse$Places" "type" "[I", .fieldLink "LoanHouse$Places" 27 "LoanHouse$Places" "firstStep" "[I", .fieldLink "LoanHouse$Places" 30 "LoanHouse$Places" "steps" "[I", .fieldLink "LoanHouse$Places" 33 "LoanHouse$Places" "leaf" "[I", .fieldLink "LoanHouse$Places" 36 "LoanHouse$Places" "leaves" "[I", .fieldLink "LoanHouse$Places" 39 "LoanHouse$Places" "further" "[Z", .fieldLink "LoanHouse$Places" 43 "LoanHouse$Places" "come" "[Z", .fieldLink "LoanHouse$Places" 46 "LoanHouse$Places" "force" "[J", .fieldLink "LoanHouse$Places" 50 "LoanHouse$Places" "stepKind" "[I", .fieldLink "LoanHouse$Places" 53 "LoanHouse$Places" "stepCell" "[I", .fieldLink "LoanHouse$Places" 56 "LoanHouse$Places" "stepPos" "[I", .fieldLink "LoanHouse$Places" 59 "LoanHouse$Places" "loanPos" "[I", .fieldLink "LoanHouse$Places" 62 "LoanHouse$Places" "loanPlace" "[I", .code yX4_clear cX4_clear 1 none, .instanceMethod yX4_clear, .selects "LoanHouse$Places" yX4_clear yX4_clear, .fieldLink "LoanHouse$Places" 65 "LoanHouse$Places" "total" "I", .fieldLink "LoanHouse$Places" 69 "LoanHouse$Places" "stepTotal" "I", .fieldLink "LoanHouse$Places" 72 "LoanHouse$Places" "loans" "I", .code yX30_init cX30_init 1 none, .initialized "LoanHouseModel", .instanceMethod yX30_init, .methodLink "LoanHouseModel" 3 objectInit, .fieldLink "LoanHouseModel" 9 "LoanHouseModel" "text" "[B", .fieldLink "LoanHouseModel" 13 "LoanHouseModel" "kindOf" "[I", .fieldLink "LoanHouseModel" 17 "LoanHouseModel" "placeOf" "[I", .fieldLink "LoanHouseModel" 20 "LoanHouseModel" "endOf" "[I", .classLink "LoanHouseModel" 23 "java/lang/String", .instantiable "java/lang/String" 4]
def TB13 : List Cond := [.initialized "java/lang/String", .fieldLink "LoanHouseModel" 25 "LoanHouseModel" "wordOf" "[Ljava/lang/String;", .fieldLink "LoanHouseModel" 29 "LoanHouseModel" "late" "[Ljava/lang/String;", .classLink "LoanHouseModel" 32 "java/lang/StringBuilder", .instantiable "java/lang/StringBuilder" 4, .initialized "java/lang/StringBuilder", .methodLink "LoanHouseModel" 34 yJ4_init_d00df, .fieldLink "LoanHouseModel" 37 "LoanHouseModel" "builder" "Ljava/lang/StringBuilder;", .fieldLink "LoanHouseModel" 41 "LoanHouseModel" "ones" "[Ljava/lang/String;", .classLink "LoanHouseModel" 44 "java/util/ArrayList", .instantiable "java/util/ArrayList" 3, .initialized "java/util/ArrayList", .methodLink "LoanHouseModel" 46 yJx4a65c_init_da8c8, .fieldLink "LoanHouseModel" 47 "LoanHouseModel" "exps" "Ljava/util/ArrayList;", .fieldLink "LoanHouseModel" 51 "LoanHouseModel" "takenExps" "Ljava/util/ArrayList;", .classLink "LoanHouseModel" 54 "LoanHouseModel$Type", .instantiable "LoanHouseModel$Type" 3, .initialized "LoanHouseModel$Type", .methodLink "LoanHouseModel" 56 yX26_init, .fieldLink "LoanHouseModel" 59 "LoanHouseModel" "intType" "LLoanHouseModel$Type;", .fieldLink "LoanHouseModel" 63 "LoanHouseModel" "boolType" "LLoanHouseModel$Type;", .fieldLink "LoanHouseModel" 66 "LoanHouseModel" "scope" "Ljava/util/ArrayList;", .fieldLink "LoanHouseModel" 69 "LoanHouseModel" "nodes" "Ljava/util/ArrayList;", .fieldLink "LoanHouseModel" 72 "LoanHouseModel" "live" "Ljava/util/ArrayList;", .fieldLink "LoanHouseModel" 75 "LoanHouseModel" "allNodes" "Ljava/util/ArrayList;", .fieldLink "LoanHouseModel" 78 "LoanHouseModel" "takenNodes" "Ljava/util/ArrayList;", .fieldLink "LoanHouseModel" 81 "LoanHouseModel" "all" "[J", .fieldLink "LoanHouseModel" 85 "LoanHouseModel" "some" "[J", .fieldLink "LoanHouseModel" 88 "LoanHouseModel" "used" "[J", .fieldLink "LoanHouseModel" 91 "LoanHouseModel" "holds" "[J"]
def TB14 : List Cond := [.fieldLink "LoanHouseModel" 94 "LoanHouseModel" "column" "[I", .fieldLink "LoanHouseModel" 97 "LoanHouseModel" "mark" "[Z", .fieldLink "LoanHouseModel" 101 "LoanHouseModel" "now" "[J", .fieldLink "LoanHouseModel" 104 "LoanHouseModel" "forces" "[J", .fieldLink "LoanHouseModel" 107 "LoanHouseModel" "entries" "Ljava/util/ArrayList;", .fieldLink "LoanHouseModel" 110 "LoanHouseModel" "lastFault" "I", .fieldLink "LoanHouseModel" 114 "LoanHouseModel" "lastPlace" "I", .fieldLink "LoanHouseModel" 117 "LoanHouseModel" "lastOther" "I", .fieldLink "LoanHouseModel" 120 "LoanHouseModel" "made" "Ljava/util/ArrayList;", .fieldLink "LoanHouseModel" 123 "LoanHouseModel" "takenForces" "[J", .fieldLink "LoanHouseModel" 126 "LoanHouseModel" "type" "[LLoanHouseModel$Type;", .fieldLink "LoanHouseModel" 130 "LoanHouseModel" "num" "[J", .fieldLink "LoanHouseModel" 133 "LoanHouseModel" "times" "[J", .fieldLink "LoanHouseModel" 136 "LoanHouseModel" "tree" "[J", .fieldLink "LoanHouseModel" 139 "LoanHouseModel" "kin" "[J", .fieldLink "LoanHouseModel" 142 "LoanHouseModel" "by" "[J", .constant "LoanHouseModel" 145 (65536), .fieldLink "LoanHouseModel" 146 "LoanHouseModel" "lentOf" "[I", .fieldLink "LoanHouseModel" 149 "LoanHouseModel" "heap" "[I", .fieldLink "LoanHouseModel" 152 "LoanHouseModel" "outKind" "[I", .fieldLink "LoanHouseModel" 155 "LoanHouseModel" "outNumber" "[J", .fieldLink "LoanHouseModel" 158 "LoanHouseModel" "renamed" "[I", .fieldLink "LoanHouseModel" 161 "LoanHouseModel" "gave" "[J", .fieldLink "LoanHouseModel" 164 "LoanHouseModel" "stack" "[I", .classLink "LoanHouseModel" 167 "LoanHouseModel$Fn", .instantiable "LoanHouseModel$Fn" 17, .initialized "LoanHouseModel$Fn", .fieldLink "LoanHouseModel" 169 "LoanHouseModel" "callFn" "[LLoanHouseModel$Fn;", .classLink "LoanHouseModel" 173 "LoanHouseModel$Node", .instantiable "LoanHouseModel$Node" 15]
def TB15 : List Cond := [.initialized "LoanHouseModel$Node", .fieldLink "LoanHouseModel" 175 "LoanHouseModel" "callBack" "[LLoanHouseModel$Node;", .fieldLink "LoanHouseModel" 179 "LoanHouseModel" "callBase" "[I", .fieldLink "LoanHouseModel" 182 "LoanHouseModel" "actives" "[I", .fieldLink "LoanHouseModel" 185 "LoanHouseModel" "variable" "[I", .fieldLink "LoanHouseModel" 188 "LoanHouseModel" "active" "[I", .fieldLink "LoanHouseModel" 191 "LoanHouseModel" "keptParts" "[I", .code yX30_feed cX30_feed 8 (some .int), .instanceMethod yX30_feed, .selects "LoanHouseModel" yX30_feed yX30_feed, .fieldLink "LoanHouseModel" 1231 "LoanHouseModel" "textSize" "I", .code yX30_judge cX30_judge 4 (some .int), .instanceMethod yX30_judge, .selects "LoanHouseModel" yX30_judge yX30_judge, .fieldLink "LoanHouseModel" 291 "LoanHouseModel" "fault" "I", .fieldLink "LoanHouseModel" 294 "LoanHouseModel" "faultPlace" "I", .fieldLink "LoanHouseModel" 297 "LoanHouseModel" "otherPlace" "I", .methodLink "LoanHouseModel" 1234 yX30_split, .fieldLink "LoanHouseModel" 284 "LoanHouseModel" "at" "I", .fieldLink "LoanHouseModel" 313 "LoanHouseModel" "open" "I", .classLink "LoanHouseModel" 400 "LoanHouseModel$Program", .instantiable "LoanHouseModel$Program" 4, .initialized "LoanHouseModel$Program", .fieldLink "LoanHouseModel" 395 "LoanHouseModel" "program" "LLoanHouseModel$Program;", .fieldLink "LoanHouseModel" 621 "LoanHouseModel" "expsUsed" "I", .fieldLink "LoanHouseModel" 1010 "LoanHouseModel" "nodesUsed" "I", .fieldLink "LoanHouseModel" 489 "LoanHouseModel" "inHand" "LLoanHouseModel$Fn;", .methodLink "LoanHouseModel" 1238 yX30_readText, .methodLink "LoanHouseModel" 1241 yX30_ruleItems, .methodLink "LoanHouseModel" 1244 yX30_ruleFns]
def TB16 : List Cond := [.fieldLink "LoanHouseModel" 1250 "LoanHouseModel" "taken" "LLoanHouseModel$Program;", .fieldLink "LoanHouseModel" 1253 "LoanHouseModel" "wasRun" "Z", .code yX30_split cX30_split 9 none, .instanceMethod yX30_split, .selects "LoanHouseModel" yX30_split yX30_split, .fieldLink "LoanHouseModel" 201 "LoanHouseModel" "tokens" "I", .methodLink "LoanHouseModel" 263 yX30_token, .constantLong "LoanHouseModel" 274 (9223372036854775807), .constantLong "LoanHouseModel" 276 (10), .code yX30_token cX30_token 4 none, .instanceMethod yX30_token, .selects "LoanHouseModel" yX30_token yX30_token, .methodLink "LoanHouseModel" 210 yX30_known, .code yX30_known cX30_known 5 (some (.object "java/lang/String")), .instanceMethod yX30_known, .selects "LoanHouseModel" yX30_known yX30_known, .methodLink "LoanHouseModel" 213 yX30_isLate, .methodLink "LoanHouseModel" 217 yX30_word, .code yX30_isLate cX30_isLate 5 (some .boolean), .instanceMethod yX30_isLate, .selects "LoanHouseModel" yX30_isLate yX30_isLate, .methodLink "LoanHouseModel" 220 yJ0_length_8abf5, .methodLink "LoanHouseModel" 224 yJ0_charAt_5068e, .code yX30_word cX30_word 4 (some (.object "java/lang/String")), .instanceMethod yX30_word, .selects "LoanHouseModel" yX30_word yX30_word, .methodLink "LoanHouseModel" 228 yJ4_setLength_d00df, .methodLink "LoanHouseModel" 235 yJ4_toString_0e30d, .code yX30_readText cX30_readText 1 none, .instanceMethod yX30_readText]
def TB17 : List Cond := [.selects "LoanHouseModel" yX30_readText yX30_readText, .methodLink "LoanHouseModel" 300 yX30_isOver, .code yX30_isOver cX30_isOver 1 (some .boolean), .instanceMethod yX30_isOver, .selects "LoanHouseModel" yX30_isOver yX30_isOver, .code yX30_ruleItems cX30_ruleItems 5 none, .instanceMethod yX30_ruleItems, .selects "LoanHouseModel" yX30_ruleItems yX30_ruleItems, .fieldLink "LoanHouseModel" 399 "LoanHouseModel$Program" "items" "Ljava/util/ArrayList;", .methodLink "LoanHouseModel" 404 yJx4a65c_size_8abf5, .classLink "LoanHouseModel" 348 "LoanHouseModel$Item", .instantiable "LoanHouseModel$Item" 13, .initialized "LoanHouseModel$Item", .fieldLink "LoanHouseModel" 351 "LoanHouseModel$Item" "first" "I", .methodLink "LoanHouseModel" 746 yX30_wrong, .fieldLink "LoanHouseModel" 364 "LoanHouseModel$Item" "name" "Ljava/lang/String;", .fieldLink "LoanHouseModel" 358 "LoanHouseModel$Item" "place" "I", .fieldLink "LoanHouseModel" 383 "LoanHouseModel$Item" "fields" "Ljava/util/ArrayList;", .classLink "LoanHouseModel" 441 "LoanHouseModel$Field", .instantiable "LoanHouseModel$Field" 4, .initialized "LoanHouseModel$Field", .fieldLink "LoanHouseModel" 444 "LoanHouseModel$Field" "place" "I", .fieldLink "LoanHouseModel" 445 "LoanHouseModel$Field" "name" "Ljava/lang/String;", .fieldLink "LoanHouseModel" 448 "LoanHouseModel$Field" "told" "LLoanHouseModel$Told;", .fieldLink "LoanHouseModel" 760 "LoanHouseModel$Field" "type" "LLoanHouseModel$Type;", .fieldLink "LoanHouseModel" 418 "LoanHouseModel$Item" "variants" "Ljava/util/ArrayList;", .fieldLink "LoanHouseModel" 369 "LoanHouseModel$Item" "isTold" "Z", .fieldLink "LoanHouseModel" 769 "LoanHouseModel$Type" "kind" "I", .fieldLink "LoanHouseModel" 773 "LoanHouseModel$Item" "isBad" "Z", .fieldLink "LoanHouseModel" 776 "LoanHouseModel$Item" "size" "I"]
def TB18 : List Cond := [.fieldLink "LoanHouseModel" 778 "LoanHouseModel$Item" "parts" "I", .code yX30_ruleFns cX30_ruleFns 5 none, .instanceMethod yX30_ruleFns, .selects "LoanHouseModel" yX30_ruleFns yX30_ruleFns, .fieldLink "LoanHouseModel" 501 "LoanHouseModel$Program" "fns" "Ljava/util/ArrayList;", .fieldLink "LoanHouseModel" 473 "LoanHouseModel$Fn" "first" "I", .fieldLink "LoanHouseModel" 475 "LoanHouseModel$Fn" "name" "Ljava/lang/String;", .methodLink "LoanHouseModel" 805 yX30_fnOf, .fieldLink "LoanHouseModel" 474 "LoanHouseModel$Fn" "place" "I", .fieldLink "LoanHouseModel" 476 "LoanHouseModel$Fn" "params" "Ljava/util/ArrayList;", .fieldLink "LoanHouseModel" 479 "LoanHouseModel$Fn" "told" "LLoanHouseModel$Told;", .fieldLink "LoanHouseModel" 809 "LoanHouseModel$Fn" "result" "LLoanHouseModel$Type;", .fieldLink "LoanHouseModel" 724 "LoanHouseModel$Program" "places" "Ljava/util/ArrayList;", .classLink "LoanHouseModel" 717 "LoanHouseModel$Place", .instantiable "LoanHouseModel$Place" 11, .initialized "LoanHouseModel$Place", .fieldLink "LoanHouseModel" 720 "LoanHouseModel$Place" "place" "I", .code yX30_fnOf cX30_fnOf 3 (some (.object "LoanHouseModel$Fn")), .instanceMethod yX30_fnOf, .selects "LoanHouseModel" yX30_fnOf yX30_fnOf, .code yX30_wrong cX30_wrong 2 none, .instanceMethod yX30_wrong, .selects "LoanHouseModel" yX30_wrong yX30_wrong, .methodLink "LoanHouseModel" 307 yX30_breaks, .code yX30_breaks cX30_breaks 4 none, .instanceMethod yX30_breaks, .selects "LoanHouseModel" yX30_breaks yX30_breaks, .code yX30_fault cX30_fault 2 (some .int), .instanceMethod yX30_fault, .selects "LoanHouseModel" yX30_fault yX30_fault]
def TB19 : List Cond := [.code yX30_give cX30_give 8 none, .instanceMethod yX30_give, .selects "LoanHouseModel" yX30_give yX30_give, .fieldLink "LoanHouseModel" 839 "LoanHouseModel$Var" "index" "I", .fieldLink "LoanHouseModel" 1172 "LoanHouseModel" "columns" "I", .constantLong "LoanHouseModel" 1117 (-1), .code yX30_run cX30_run 4 (some .int), .instanceMethod yX30_run, .selects "LoanHouseModel" yX30_run yX30_run, .constant "LoanHouseModel" 1545 (50000), .fieldLink "LoanHouseModel" 1294 "LoanHouseModel" "pool" "I", .fieldLink "LoanHouseModel" 1288 "LoanHouseModel" "spare" "I", .fieldLink "LoanHouseModel" 1341 "LoanHouseModel" "time" "J", .fieldLink "LoanHouseModel" 1401 "LoanHouseModel" "lends" "I", .fieldLink "LoanHouseModel" 1359 "LoanHouseModel" "strays" "I", .fieldLink "LoanHouseModel" 1387 "LoanHouseModel" "twices" "I", .fieldLink "LoanHouseModel" 1417 "LoanHouseModel" "clashes" "I", .fieldLink "LoanHouseModel" 1546 "LoanHouseModel" "lefts" "I", .fieldLink "LoanHouseModel" 1375 "LoanHouseModel" "outs" "I", .fieldLink "LoanHouseModel" 1477 "LoanHouseModel" "toldMade" "I", .fieldLink "LoanHouseModel" 1393 "LoanHouseModel" "toldDropped" "I", .fieldLink "LoanHouseModel" 1396 "LoanHouseModel" "boxes" "I", .fieldLink "LoanHouseModel" 1399 "LoanHouseModel" "rows" "I", .fieldLink "LoanHouseModel" 1480 "LoanHouseModel" "mostBoxes" "I", .fieldLink "LoanHouseModel" 1486 "LoanHouseModel" "mostRows" "I", .fieldLink "LoanHouseModel" 1496 "LoanHouseModel" "ended" "I", .fieldLink "LoanHouseModel" 1425 "LoanHouseModel" "failWhy" "I", .fieldLink "LoanHouseModel" 1428 "LoanHouseModel" "failPlace" "I", .fieldLink "LoanHouseModel" 1493 "LoanHouseModel" "steps" "I", .fieldLink "LoanHouseModel" 1499 "LoanHouseModel" "reads" "I"]
def TB20 : List Cond := [.fieldLink "LoanHouseModel" 1422 "LoanHouseModel" "high" "I", .fieldLink "LoanHouseModel" 1431 "LoanHouseModel" "calls" "I", .fieldLink "LoanHouseModel" 504 "LoanHouseModel$Fn" "index" "I", .code yX30_about cX30_about 2 (some .int), .instanceMethod yX30_about, .selects "LoanHouseModel" yX30_about yX30_about, .code yX30_out cX30_out 4 none, .instanceMethod yX30_out, .selects "LoanHouseModel" yX30_out yX30_out, .code yX30_count cX30_count 2 (some .int), .instanceMethod yX30_count, .selects "LoanHouseModel" yX30_count yX30_count, .fieldLink "LoanHouseModel" 1256 "LoanHouseModel$Program" "loans" "Ljava/util/ArrayList;", .code yX30_place cX30_place 8 none, .instanceMethod yX30_place, .selects "LoanHouseModel" yX30_place yX30_place, .fieldLink "LoanHouseModel" 928 "LoanHouseModel$Place" "var" "LLoanHouseModel$Var;", .classLink "LoanHouseModel" 827 "LoanHouseModel$Var", .instantiable "LoanHouseModel$Var" 7, .initialized "LoanHouseModel$Var", .fieldLink "LoanHouseModel" 830 "LoanHouseModel$Var" "name" "Ljava/lang/String;", .fieldLink "LoanHouseModel" 721 "LoanHouseModel$Place" "name" "Ljava/lang/String;", .fieldLink "LoanHouseModel" 832 "LoanHouseModel$Var" "type" "LLoanHouseModel$Type;", .fieldLink "LoanHouseModel" 741 "LoanHouseModel$Place" "parts" "Ljava/util/ArrayList;", .classLink "LoanHouseModel" 731 "LoanHouseModel$Part", .instantiable "LoanHouseModel$Part" 7, .initialized "LoanHouseModel$Part", .fieldLink "LoanHouseModel" 929 "LoanHouseModel$Part" "of" "LLoanHouseModel$Type;", .fieldLink "LoanHouseModel" 736 "LoanHouseModel$Part" "kind" "I", .fieldLink "LoanHouseModel" 739 "LoanHouseModel$Part" "index" "LLoanHouseModel$Exp;"]
def TB21 : List Cond := [.fieldLink "LoanHouseModel" 665 "LoanHouseModel$Exp" "first" "I", .fieldLink "LoanHouseModel" 801 "LoanHouseModel$Type" "item" "LLoanHouseModel$Item;", .fieldLink "LoanHouseModel" 893 "LoanHouseModel$Exp" "type" "LLoanHouseModel$Type;", .fieldLink "LoanHouseModel" 908 "LoanHouseModel$Place" "type" "LLoanHouseModel$Type;", .fieldLink "LoanHouseModel" 937 "LoanHouseModel$Place" "act" "I", .fieldLink "LoanHouseModel" 727 "LoanHouseModel$Place" "number" "I", .code yX30_loan cX30_loan 4 (some .int), .instanceMethod yX30_loan, .selects "LoanHouseModel" yX30_loan yX30_loan, .classLink "LoanHouseModel" 876 "LoanHouseModel$Loan", .instantiable "LoanHouseModel$Loan" 6, .initialized "LoanHouseModel$Loan", .fieldLink "LoanHouseModel" 878 "LoanHouseModel$Loan" "sign" "I", .fieldLink "LoanHouseModel" 980 "LoanHouseModel$Loan" "isSole" "Z", .fieldLink "LoanHouseModel" 983 "LoanHouseModel$Loan" "place" "LLoanHouseModel$Place;", .fieldLink "LoanHouseModel" 1223 "LoanHouseModel$Loan" "acts" "I", .code yX30_force cX30_force 3 (some .int), .instanceMethod yX30_force, .selects "LoanHouseModel" yX30_force yX30_force, .code yX30_function cX30_function 4 (some .int), .instanceMethod yX30_function, .selects "LoanHouseModel" yX30_function yX30_function, .fieldLink "LoanHouseModel" 836 "LoanHouseModel$Fn" "vars" "Ljava/util/ArrayList;", .fieldLink "LoanHouseModel" 840 "LoanHouseModel$Fn" "leaves" "I", .fieldLink "LoanHouseModel" 1150 "LoanHouseModel$Fn" "torn" "I", .fieldLink "LoanHouseModel" 873 "LoanHouseModel$Fn" "loans" "Ljava/util/ArrayList;", .code yX30_size cX30_size 2 (some .int), .instanceMethod yX30_size, .selects "LoanHouseModel" yX30_size yX30_size, .code yX30_strays cX30_strays 1 (some .int)]
def TB22 : List Cond := [.instanceMethod yX30_strays, .selects "LoanHouseModel" yX30_strays yX30_strays, .code yX30_twices cX30_twices 1 (some .int), .instanceMethod yX30_twices, .selects "LoanHouseModel" yX30_twices yX30_twices, .code yX30_lefts cX30_lefts 1 (some .int), .instanceMethod yX30_lefts, .selects "LoanHouseModel" yX30_lefts yX30_lefts, .code yX30_clashes cX30_clashes 2 (some .boolean), .static yX30_clashes, .code yX26_init cX26_init 4 none, .instanceMethod yX26_init, .methodLink "LoanHouseModel$Type" 3 objectInit, .fieldLink "LoanHouseModel$Type" 9 "LoanHouseModel$Type" "kind" "I", .fieldLink "LoanHouseModel$Type" 15 "LoanHouseModel$Type" "item" "LLoanHouseModel$Item;", .fieldLink "LoanHouseModel$Type" 19 "LoanHouseModel$Type" "of" "LLoanHouseModel$Type;", .code yX23_init cX23_init 1 none, .instanceMethod yX23_init, .methodLink "LoanHouseModel$Program" 1 objectInit, .classLink "LoanHouseModel$Program" 7 "java/util/ArrayList", .methodLink "LoanHouseModel$Program" 9 yJx4a65c_init_da8c8, .fieldLink "LoanHouseModel$Program" 10 "LoanHouseModel$Program" "items" "Ljava/util/ArrayList;", .fieldLink "LoanHouseModel$Program" 16 "LoanHouseModel$Program" "fns" "Ljava/util/ArrayList;", .fieldLink "LoanHouseModel$Program" 19 "LoanHouseModel$Program" "places" "Ljava/util/ArrayList;", .fieldLink "LoanHouseModel$Program" 22 "LoanHouseModel$Program" "loans" "Ljava/util/ArrayList;", .code yJ5_init_d00df cJ5_init_d00df 2 none, .initialized "java/lang/AbstractStringBuilder", .instanceMethod yJ5_init_d00df, .methodLink "java/lang/AbstractStringBuilder" 3 objectInit, .fieldLink "java/lang/AbstractStringBuilder" 18 "java/lang/String" "COMPACT_STRINGS" "Z"]
def TB23 : List Cond := [.fieldLink "java/lang/AbstractStringBuilder" 15 "java/lang/AbstractStringBuilder" "value" "[B", .fieldLink "java/lang/AbstractStringBuilder" 22 "java/lang/AbstractStringBuilder" "coder" "B", .code yJ5_length_8abf5 cJ5_length_8abf5 1 (some .int), .instanceMethod yJ5_length_8abf5, .fieldLink "java/lang/AbstractStringBuilder" 79 "java/lang/AbstractStringBuilder" "count" "I", .code yJ5_ensureCapacityInternal_d00df cJ5_ensureCapacityInternal_d00df 3 none, .instanceMethod yJ5_ensureCapacityInternal_d00df, .code yJ5_setLength_d00df cJ5_setLength_d00df 2 none, .instanceMethod yJ5_setLength_d00df, .methodLink "java/lang/AbstractStringBuilder" 100 yJ5_ensureCapacityInternal_d00df, .methodLink "java/lang/AbstractStringBuilder" 83 yJ5_isLatin1_aae02, .fieldLink "java/lang/AbstractStringBuilder" 73 "java/lang/AbstractStringBuilder" "maybeLatin1" "Z", .code yJ5_getValue_6d5f1 cJ5_getValue_6d5f1 1 (some (.array .byte)), .instanceMethod yJ5_getValue_6d5f1, .code yJ5_isLatin1_aae02 cJ5_isLatin1_aae02 1 (some .boolean), .instanceMethod yJ5_isLatin1_aae02, .code yJ4_init_d00df cJ4_init_d00df 2 none, .instanceMethod yJ4_init_d00df, .methodLink "java/lang/StringBuilder" 1 yJ5_init_d00df, .code yJ4_toString_0e30d cJ4_toString_0e30d 1 (some (.object "java/lang/String")), .instanceMethod yJ4_toString_0e30d, .selects "java/lang/StringBuilder" yJ4_toString_0e30d yJ4_toString_0e30d, .classLink "java/lang/StringBuilder" 18 "java/lang/String", .methodLink "java/lang/StringBuilder" 137 yJ0_init_81219, .code yJ4_setLength_d00df cJ4_setLength_d00df 2 none, .instanceMethod yJ4_setLength_d00df, .selects "java/lang/StringBuilder" yJ4_setLength_d00df yJ4_setLength_d00df, .methodLink "java/lang/StringBuilder" 333 yJ5_setLength_d00df, .code yJ4_length_8abf5 cJ4_length_8abf5 1 (some .int), .instanceMethod yJ4_length_8abf5]
def TB24 : List Cond := [.methodLink "java/lang/StringBuilder" 343 yJ5_length_8abf5, .code yJ0_init_81219 cJ0_init_81219 2 none, .instanceMethod yJ0_init_81219, .methodLink "java/lang/String" 489 yJ0_init_db425, .code yJ0_init_db425 cJ0_init_db425 5 none, .instanceMethod yJ0_init_db425, .methodLink "java/lang/String" 1 objectInit, .methodLink "java/lang/String" 552 yJ5_getValue_6d5f1, .methodLink "java/lang/String" 549 yJ5_length_8abf5, .methodLink "java/lang/String" 1047 yJ5_isLatin1_aae02, .fieldLink "java/lang/String" 15 "java/lang/String" "coder" "B", .methodLink "java/lang/String" 54 yJ7_copyOfRange_39247, .fieldLink "java/lang/String" 9 "java/lang/String" "value" "[B", .fieldLink "java/lang/String" 38 "java/lang/String" "COMPACT_STRINGS" "Z", .fieldLink "java/lang/String" 1048 "java/lang/AbstractStringBuilder" "maybeLatin1" "Z", .code yJ0_length_8abf5 cJ0_length_8abf5 1 (some .int), .instanceMethod yJ0_length_8abf5, .selects "java/lang/String" yJ0_length_8abf5 yJ0_length_8abf5, .methodLink "java/lang/String" 335 yJ0_coder_7d493, .code yJ0_charAt_5068e cJ0_charAt_5068e 2 (some .char), .instanceMethod yJ0_charAt_5068e, .selects "java/lang/String" yJ0_charAt_5068e yJ0_charAt_5068e, .methodLink "java/lang/String" 492 yJ0_isLatin1_aae02, .methodLink "java/lang/String" 495 yJ1_charAt_3b067, .code yJ0_coder_7d493 cJ0_coder_7d493 1 (some .byte), .instanceMethod yJ0_coder_7d493, .selects "java/lang/String" yJ0_coder_7d493 yJ0_coder_7d493, .code yJ0_isLatin1_aae02 cJ0_isLatin1_aae02 1 (some .boolean), .instanceMethod yJ0_isLatin1_aae02, .selects "java/lang/String" yJ0_isLatin1_aae02 yJ0_isLatin1_aae02]
def TB25 : List Cond := [.code yJ0_checkIndex_df160 cJ0_checkIndex_df160 2 none, .static yJ0_checkIndex_df160, .fieldLink "java/lang/String" 1053 "jdk/internal/util/Preconditions" "SIOOBE_FORMATTER" "Ljava/util/function/BiFunction;", .methodLink "java/lang/String" 1059 yJ3_checkIndex_8e157, .code yJ1_charAt_3b067 cJ1_charAt_3b067 2 (some .char), .initialized "java/lang/StringLatin1", .static yJ1_charAt_3b067, .methodLink "java/lang/StringLatin1" 9 yJ0_checkIndex_df160, .code yJ3_checkIndex_8e157 cJ3_checkIndex_8e157 3 (some .int), .initialized "jdk/internal/util/Preconditions", .static yJ3_checkIndex_8e157, .code yJ7_copyOfRange_39247 cJ7_copyOfRange_39247 3 (some (.array .byte)), .initialized "java/util/Arrays", .static yJ7_copyOfRange_39247, .methodLink "java/util/Arrays" 339 yJ7_copyOfRangeByte_39247, .classLink "java/util/Arrays" 311 "[B", .code yJ7_copyOfRangeByte_39247 cJ7_copyOfRangeByte_39247 5 (some (.array .byte)), .static yJ7_copyOfRangeByte_39247, .methodLink "java/util/Arrays" 304 Lib.Math.min.name, .methodLink "java/util/Arrays" 150 arraycopyName, .code yJxa1e45_init_da8c8 cJxa1e45_init_da8c8 1 none, .initialized "java/util/AbstractCollection", .instanceMethod yJxa1e45_init_da8c8, .methodLink "java/util/AbstractCollection" 1 objectInit, .code yJxc12de_init_da8c8 cJxc12de_init_da8c8 1 none, .initialized "java/util/AbstractList", .instanceMethod yJxc12de_init_da8c8, .methodLink "java/util/AbstractList" 1 yJxa1e45_init_da8c8, .fieldLink "java/util/AbstractList" 7 "java/util/AbstractList" "modCount" "I", .code yJx4a65c_init_da8c8 cJx4a65c_init_da8c8 1 none]
def TB26 : List Cond := [.instanceMethod yJx4a65c_init_da8c8, .methodLink "java/util/ArrayList" 1 yJxc12de_init_da8c8, .fieldLink "java/util/ArrayList" 39 "java/util/ArrayList" "DEFAULTCAPACITY_EMPTY_ELEMENTDATA" "[Ljava/lang/Object;", .fieldLink "java/util/ArrayList" 9 "java/util/ArrayList" "elementData" "[Ljava/lang/Object;", .code yJx4a65c_size_8abf5 cJx4a65c_size_8abf5 1 (some .int), .instanceMethod yJx4a65c_size_8abf5, .selects "java/util/ArrayList" yJx4a65c_size_8abf5 yJx4a65c_size_8abf5, .fieldLink "java/util/ArrayList" 48 "java/util/ArrayList" "size" "I", .classLink "LoanHouseLaw" 7 "LoanHouse", .instantiable "LoanHouse" 17, .methodLink "LoanHouseLaw" 9 yX12_init, .classLink "LoanHouseLaw" 10 "LoanHouseModel", .instantiable "LoanHouseModel" 95, .methodLink "LoanHouseLaw" 12 yX30_init, .methodLink "LoanHouseLaw" 13 yX12_feed, .methodLink "LoanHouseLaw" 17 yX30_feed, .methodLink "LoanHouseLaw" 18 yX12_judge, .methodLink "LoanHouseLaw" 22 yX30_judge, .methodLink "LoanHouseLaw" 23 yX12_fault, .methodLink "LoanHouseLaw" 26 yX30_fault, .constantLong "LoanHouseLaw" 27 (4294967295), .methodLink "LoanHouseLaw" 29 yX12_give, .methodLink "LoanHouseLaw" 34 yX12_run, .methodLink "LoanHouseLaw" 37 yX30_run, .methodLink "LoanHouseLaw" 38 yX12_about, .methodLink "LoanHouseLaw" 41 yX30_about, .methodLink "LoanHouseLaw" 42 yX12_out, .methodLink "LoanHouseLaw" 47 yX12_count, .methodLink "LoanHouseLaw" 50 yX30_count, .methodLink "LoanHouseLaw" 51 yX12_place]
def TB27 : List Cond := [.methodLink "LoanHouseLaw" 56 yX12_loan, .methodLink "LoanHouseLaw" 59 yX30_loan, .methodLink "LoanHouseLaw" 60 yX12_force, .methodLink "LoanHouseLaw" 63 yX30_force, .methodLink "LoanHouseLaw" 64 yX12_function, .methodLink "LoanHouseLaw" 67 yX30_function, .methodLink "LoanHouseLaw" 68 yX12_size, .methodLink "LoanHouseLaw" 71 yX30_size, .methodLink "LoanHouseLaw" 72 yX12_strays, .methodLink "LoanHouseLaw" 76 yX30_strays, .methodLink "LoanHouseLaw" 77 yX12_twices, .methodLink "LoanHouseLaw" 80 yX30_twices, .methodLink "LoanHouseLaw" 81 yX12_lefts, .methodLink "LoanHouseLaw" 84 yX30_lefts, .methodLink "LoanHouseLaw" 85 yX12_clashes, .sameField "java/util/ArrayList" "java/util/AbstractList" "modCount" "I", .laysStatic "java/lang/String" "COMPACT_STRINGS" "Z", .laysStatic "jdk/internal/util/Preconditions" "SIOOBE_FORMATTER" "Ljava/util/function/BiFunction;", .superclass "java/lang/StringBuilder" "java/lang/AbstractStringBuilder", .laysStatic "java/util/ArrayList" "DEFAULTCAPACITY_EMPTY_ELEMENTDATA" "[Ljava/lang/Object;", .privateMethod yJ5_ensureCapacityInternal_d00df, .sameMethod "java/lang/AbstractStringBuilder" "java/lang/AbstractStringBuilder" "isLatin1" "()Z", .selects "java/lang/StringBuilder" yJ5_isLatin1_aae02 yJ5_isLatin1_aae02, .sameMethod "java/lang/AbstractStringBuilder" "java/lang/AbstractStringBuilder" "getValue" "()[B", .selects "java/lang/StringBuilder" yJ5_getValue_6d5f1 yJ5_getValue_6d5f1, .sameMethod "java/lang/AbstractStringBuilder" "java/lang/AbstractStringBuilder" "length" "()I", .selects "java/lang/StringBuilder" yJ5_length_8abf5 yJ4_length_8abf5, .sameMethod "java/lang/AbstractStringBuilder" "java/lang/AbstractStringBuilder" "setLength" "(I)V", .sameMethod "java/lang/AbstractStringBuilder" "java/lang/AbstractStringBuilder" "ensureCapacityInternal" "(I)V"]
def TBL : List Cond := TB0 ++ (TB1 ++ (TB2 ++ (TB3 ++ (TB4 ++ (TB5 ++ (TB6 ++ (TB7 ++ (TB8 ++ (TB9 ++ (TB10 ++ (TB11 ++ (TB12 ++ (TB13 ++ (TB14 ++ (TB15 ++ (TB16 ++ (TB17 ++ (TB18 ++ (TB19 ++ (TB20 ++ (TB21 ++ (TB22 ++ (TB23 ++ (TB24 ++ (TB25 ++ (TB26 ++ (TB27 ++ (wsX120 ++ (wsX80 ++ (wsX60 ++ (wsX00 ++ (wsX10 ++ (wsX110 ++ (wsX30 ++ (wsX70 ++ (wsX50 ++ (wsX90 ++ (wsX20 ++ (wsX100 ++ (wsX40 ++ (wsX300 ++ (wsX260 ++ (wsX230 ++ (wsJ40 ++ (wsJ00 ++ (wsJx4a65c0))))))))))))))))))))))))))))))))))))))))))))))
theorem tb_0 : ∀ w ∈ TB0, w ∈ TBL := fun w h => List.mem_append_left _ h
theorem tb_1 : ∀ w ∈ TB1, w ∈ TBL := fun w h => List.mem_append_right _ (List.mem_append_left _ h)
theorem tb_2 : ∀ w ∈ TB2, w ∈ TBL := fun w h => List.mem_append_right _ (List.mem_append_right _ (List.mem_append_left _ h))
theorem tb_3 : ∀ w ∈ TB3, w ∈ TBL := fun w h => List.mem_append_right _ (List.mem_append_right _ (List.mem_append_right _ (List.mem_append_left _ h)))
theorem tb_4 : ∀ w ∈ TB4, w ∈ TBL := fun w h => List.mem_append_right _ (List.mem_append_right _ (List.mem_append_right _ (List.mem_append_right _ (List.mem_append_left _ h))))
theorem tb_5 : ∀ w ∈ TB5, w ∈ TBL := fun w h => List.mem_append_right _ (List.mem_append_right _ (List.mem_append_right _ (List.mem_append_right _ (List.mem_append_right _ (List.mem_append_left _ h)))))
theorem tb_6 : ∀ w ∈ TB6, w ∈ TBL := fun w h => List.mem_append_right _ (List.mem_append_right _ (List.mem_append_right _ (List.mem_append_right _ (List.mem_append_right _ (List.mem_append_right _ (List.mem_append_left _ h))))))
theorem tb_7 : ∀ w ∈ TB7, w ∈ TBL := fun w h => List.mem_append_right _ (List.mem_append_right _ (List.mem_append_right _ (List.mem_append_right _ (List.mem_append_right _ (List.mem_append_right _ (List.mem_append_right _ (List.mem_append_left _ h)))))))
theorem tb_8 : ∀ w ∈ TB8, w ∈ TBL := fun w h => List.mem_append_right _ (List.mem_append_right _ (List.mem_append_right _ (List.mem_append_right _ (List.mem_append_right _ (List.mem_append_right _ (List.mem_append_right _ (List.mem_append_right _ (List.mem_append_left _ h))))))))
theorem tb_9 : ∀ w ∈ TB9, w ∈ TBL := fun w h => List.mem_append_right _ (List.mem_append_right _ (List.mem_append_right _ (List.mem_append_right _ (List.mem_append_right _ (List.mem_append_right _ (List.mem_append_right _ (List.mem_append_right _ (List.mem_append_right _ (List.mem_append_left _ h)))))))))
theorem tb_10 : ∀ w ∈ TB10, w ∈ TBL := fun w h => List.mem_append_right _ (List.mem_append_right _ (List.mem_append_right _ (List.mem_append_right _ (List.mem_append_right _ (List.mem_append_right _ (List.mem_append_right _ (List.mem_append_right _ (List.mem_append_right _ (List.mem_append_right _ (List.mem_append_left _ h))))))))))
theorem tb_11 : ∀ w ∈ TB11, w ∈ TBL := fun w h => List.mem_append_right _ (List.mem_append_right _ (List.mem_append_right _ (List.mem_append_right _ (List.mem_append_right _ (List.mem_append_right _ (List.mem_append_right _ (List.mem_append_right _ (List.mem_append_right _ (List.mem_append_right _ (List.mem_append_right _ (List.mem_append_left _ h)))))))))))
theorem tb_12 : ∀ w ∈ TB12, w ∈ TBL := fun w h => List.mem_append_right _ (List.mem_append_right _ (List.mem_append_right _ (List.mem_append_right _ (List.mem_append_right _ (List.mem_append_right _ (List.mem_append_right _ (List.mem_append_right _ (List.mem_append_right _ (List.mem_append_right _ (List.mem_append_right _ (List.mem_append_right _ (List.mem_append_left _ h))))))))))))
theorem tb_13 : ∀ w ∈ TB13, w ∈ TBL := fun w h => List.mem_append_right _ (List.mem_append_right _ (List.mem_append_right _ (List.mem_append_right _ (List.mem_append_right _ (List.mem_append_right _ (List.mem_append_right _ (List.mem_append_right _ (List.mem_append_right _ (List.mem_append_right _ (List.mem_append_right _ (List.mem_append_right _ (List.mem_append_right _ (List.mem_append_left _ h)))))))))))))
theorem tb_14 : ∀ w ∈ TB14, w ∈ TBL := fun w h => List.mem_append_right _ (List.mem_append_right _ (List.mem_append_right _ (List.mem_append_right _ (List.mem_append_right _ (List.mem_append_right _ (List.mem_append_right _ (List.mem_append_right _ (List.mem_append_right _ (List.mem_append_right _ (List.mem_append_right _ (List.mem_append_right _ (List.mem_append_right _ (List.mem_append_right _ (List.mem_append_left _ h))))))))))))))
theorem tb_15 : ∀ w ∈ TB15, w ∈ TBL := fun w h => List.mem_append_right _ (List.mem_append_right _ (List.mem_append_right _ (List.mem_append_right _ (List.mem_append_right _ (List.mem_append_right _ (List.mem_append_right _ (List.mem_append_right _ (List.mem_append_right _ (List.mem_append_right _ (List.mem_append_right _ (List.mem_append_right _ (List.mem_append_right _ (List.mem_append_right _ (List.mem_append_right _ (List.mem_append_left _ h)))))))))))))))
theorem tb_16 : ∀ w ∈ TB16, w ∈ TBL := fun w h => List.mem_append_right _ (List.mem_append_right _ (List.mem_append_right _ (List.mem_append_right _ (List.mem_append_right _ (List.mem_append_right _ (List.mem_append_right _ (List.mem_append_right _ (List.mem_append_right _ (List.mem_append_right _ (List.mem_append_right _ (List.mem_append_right _ (List.mem_append_right _ (List.mem_append_right _ (List.mem_append_right _ (List.mem_append_right _ (List.mem_append_left _ h))))))))))))))))
theorem tb_17 : ∀ w ∈ TB17, w ∈ TBL := fun w h => List.mem_append_right _ (List.mem_append_right _ (List.mem_append_right _ (List.mem_append_right _ (List.mem_append_right _ (List.mem_append_right _ (List.mem_append_right _ (List.mem_append_right _ (List.mem_append_right _ (List.mem_append_right _ (List.mem_append_right _ (List.mem_append_right _ (List.mem_append_right _ (List.mem_append_right _ (List.mem_append_right _ (List.mem_append_right _ (List.mem_append_right _ (List.mem_append_left _ h)))))))))))))))))
theorem tb_18 : ∀ w ∈ TB18, w ∈ TBL := fun w h => List.mem_append_right _ (List.mem_append_right _ (List.mem_append_right _ (List.mem_append_right _ (List.mem_append_right _ (List.mem_append_right _ (List.mem_append_right _ (List.mem_append_right _ (List.mem_append_right _ (List.mem_append_right _ (List.mem_append_right _ (List.mem_append_right _ (List.mem_append_right _ (List.mem_append_right _ (List.mem_append_right _ (List.mem_append_right _ (List.mem_append_right _ (List.mem_append_right _ (List.mem_append_left _ h))))))))))))))))))
theorem tb_19 : ∀ w ∈ TB19, w ∈ TBL := fun w h => List.mem_append_right _ (List.mem_append_right _ (List.mem_append_right _ (List.mem_append_right _ (List.mem_append_right _ (List.mem_append_right _ (List.mem_append_right _ (List.mem_append_right _ (List.mem_append_right _ (List.mem_append_right _ (List.mem_append_right _ (List.mem_append_right _ (List.mem_append_right _ (List.mem_append_right _ (List.mem_append_right _ (List.mem_append_right _ (List.mem_append_right _ (List.mem_append_right _ (List.mem_append_right _ (List.mem_append_left _ h)))))))))))))))))))
theorem tb_20 : ∀ w ∈ TB20, w ∈ TBL := fun w h => List.mem_append_right _ (List.mem_append_right _ (List.mem_append_right _ (List.mem_append_right _ (List.mem_append_right _ (List.mem_append_right _ (List.mem_append_right _ (List.mem_append_right _ (List.mem_append_right _ (List.mem_append_right _ (List.mem_append_right _ (List.mem_append_right _ (List.mem_append_right _ (List.mem_append_right _ (List.mem_append_right _ (List.mem_append_right _ (List.mem_append_right _ (List.mem_append_right _ (List.mem_append_right _ (List.mem_append_right _ (List.mem_append_left _ h))))))))))))))))))))
theorem tb_21 : ∀ w ∈ TB21, w ∈ TBL := fun w h => List.mem_append_right _ (List.mem_append_right _ (List.mem_append_right _ (List.mem_append_right _ (List.mem_append_right _ (List.mem_append_right _ (List.mem_append_right _ (List.mem_append_right _ (List.mem_append_right _ (List.mem_append_right _ (List.mem_append_right _ (List.mem_append_right _ (List.mem_append_right _ (List.mem_append_right _ (List.mem_append_right _ (List.mem_append_right _ (List.mem_append_right _ (List.mem_append_right _ (List.mem_append_right _ (List.mem_append_right _ (List.mem_append_right _ (List.mem_append_left _ h)))))))))))))))))))))
theorem tb_22 : ∀ w ∈ TB22, w ∈ TBL := fun w h => List.mem_append_right _ (List.mem_append_right _ (List.mem_append_right _ (List.mem_append_right _ (List.mem_append_right _ (List.mem_append_right _ (List.mem_append_right _ (List.mem_append_right _ (List.mem_append_right _ (List.mem_append_right _ (List.mem_append_right _ (List.mem_append_right _ (List.mem_append_right _ (List.mem_append_right _ (List.mem_append_right _ (List.mem_append_right _ (List.mem_append_right _ (List.mem_append_right _ (List.mem_append_right _ (List.mem_append_right _ (List.mem_append_right _ (List.mem_append_right _ (List.mem_append_left _ h))))))))))))))))))))))
theorem tb_23 : ∀ w ∈ TB23, w ∈ TBL := fun w h => List.mem_append_right _ (List.mem_append_right _ (List.mem_append_right _ (List.mem_append_right _ (List.mem_append_right _ (List.mem_append_right _ (List.mem_append_right _ (List.mem_append_right _ (List.mem_append_right _ (List.mem_append_right _ (List.mem_append_right _ (List.mem_append_right _ (List.mem_append_right _ (List.mem_append_right _ (List.mem_append_right _ (List.mem_append_right _ (List.mem_append_right _ (List.mem_append_right _ (List.mem_append_right _ (List.mem_append_right _ (List.mem_append_right _ (List.mem_append_right _ (List.mem_append_right _ (List.mem_append_left _ h)))))))))))))))))))))))
theorem tb_24 : ∀ w ∈ TB24, w ∈ TBL := fun w h => List.mem_append_right _ (List.mem_append_right _ (List.mem_append_right _ (List.mem_append_right _ (List.mem_append_right _ (List.mem_append_right _ (List.mem_append_right _ (List.mem_append_right _ (List.mem_append_right _ (List.mem_append_right _ (List.mem_append_right _ (List.mem_append_right _ (List.mem_append_right _ (List.mem_append_right _ (List.mem_append_right _ (List.mem_append_right _ (List.mem_append_right _ (List.mem_append_right _ (List.mem_append_right _ (List.mem_append_right _ (List.mem_append_right _ (List.mem_append_right _ (List.mem_append_right _ (List.mem_append_right _ (List.mem_append_left _ h))))))))))))))))))))))))
theorem tb_25 : ∀ w ∈ TB25, w ∈ TBL := fun w h => List.mem_append_right _ (List.mem_append_right _ (List.mem_append_right _ (List.mem_append_right _ (List.mem_append_right _ (List.mem_append_right _ (List.mem_append_right _ (List.mem_append_right _ (List.mem_append_right _ (List.mem_append_right _ (List.mem_append_right _ (List.mem_append_right _ (List.mem_append_right _ (List.mem_append_right _ (List.mem_append_right _ (List.mem_append_right _ (List.mem_append_right _ (List.mem_append_right _ (List.mem_append_right _ (List.mem_append_right _ (List.mem_append_right _ (List.mem_append_right _ (List.mem_append_right _ (List.mem_append_right _ (List.mem_append_right _ (List.mem_append_left _ h)))))))))))))))))))))))))
theorem tb_26 : ∀ w ∈ TB26, w ∈ TBL := fun w h => List.mem_append_right _ (List.mem_append_right _ (List.mem_append_right _ (List.mem_append_right _ (List.mem_append_right _ (List.mem_append_right _ (List.mem_append_right _ (List.mem_append_right _ (List.mem_append_right _ (List.mem_append_right _ (List.mem_append_right _ (List.mem_append_right _ (List.mem_append_right _ (List.mem_append_right _ (List.mem_append_right _ (List.mem_append_right _ (List.mem_append_right _ (List.mem_append_right _ (List.mem_append_right _ (List.mem_append_right _ (List.mem_append_right _ (List.mem_append_right _ (List.mem_append_right _ (List.mem_append_right _ (List.mem_append_right _ (List.mem_append_right _ (List.mem_append_left _ h))))))))))))))))))))))))))
theorem tb_27 : ∀ w ∈ TB27, w ∈ TBL := fun w h => List.mem_append_right _ (List.mem_append_right _ (List.mem_append_right _ (List.mem_append_right _ (List.mem_append_right _ (List.mem_append_right _ (List.mem_append_right _ (List.mem_append_right _ (List.mem_append_right _ (List.mem_append_right _ (List.mem_append_right _ (List.mem_append_right _ (List.mem_append_right _ (List.mem_append_right _ (List.mem_append_right _ (List.mem_append_right _ (List.mem_append_right _ (List.mem_append_right _ (List.mem_append_right _ (List.mem_append_right _ (List.mem_append_right _ (List.mem_append_right _ (List.mem_append_right _ (List.mem_append_right _ (List.mem_append_right _ (List.mem_append_right _ (List.mem_append_right _ (List.mem_append_left _ h)))))))))))))))))))))))))))
theorem inX12 : ∀ w ∈ u_ws "LoanHouse" TX12 17, w ∈ TBL := fun w h => List.mem_append_right _ (List.mem_append_right _ (List.mem_append_right _ (List.mem_append_right _ (List.mem_append_right _ (List.mem_append_right _ (List.mem_append_right _ (List.mem_append_right _ (List.mem_append_right _ (List.mem_append_right _ (List.mem_append_right _ (List.mem_append_right _ (List.mem_append_right _ (List.mem_append_right _ (List.mem_append_right _ (List.mem_append_right _ (List.mem_append_right _ (List.mem_append_right _ (List.mem_append_right _ (List.mem_append_right _ (List.mem_append_right _ (List.mem_append_right _ (List.mem_append_right _ (List.mem_append_right _ (List.mem_append_right _ (List.mem_append_right _ (List.mem_append_right _ (List.mem_append_right _ (List.mem_append_left _ h))))))))))))))))))))))))))))
theorem inX8 : ∀ w ∈ u_ws "LoanHouse$Tree" TX8 12, w ∈ TBL := fun w h => List.mem_append_right _ (List.mem_append_right _ (List.mem_append_right _ (List.mem_append_right _ (List.mem_append_right _ (List.mem_append_right _ (List.mem_append_right _ (List.mem_append_right _ (List.mem_append_right _ (List.mem_append_right _ (List.mem_append_right _ (List.mem_append_right _ (List.mem_append_right _ (List.mem_append_right _ (List.mem_append_right _ (List.mem_append_right _ (List.mem_append_right _ (List.mem_append_right _ (List.mem_append_right _ (List.mem_append_right _ (List.mem_append_right _ (List.mem_append_right _ (List.mem_append_right _ (List.mem_append_right _ (List.mem_append_right _ (List.mem_append_right _ (List.mem_append_right _ (List.mem_append_right _ (List.mem_append_right _ (List.mem_append_left _ h)))))))))))))))))))))))))))))
theorem inX6 : ∀ w ∈ u_ws "LoanHouse$Reader" TX6 18, w ∈ TBL := fun w h => List.mem_append_right _ (List.mem_append_right _ (List.mem_append_right _ (List.mem_append_right _ (List.mem_append_right _ (List.mem_append_right _ (List.mem_append_right _ (List.mem_append_right _ (List.mem_append_right _ (List.mem_append_right _ (List.mem_append_right _ (List.mem_append_right _ (List.mem_append_right _ (List.mem_append_right _ (List.mem_append_right _ (List.mem_append_right _ (List.mem_append_right _ (List.mem_append_right _ (List.mem_append_right _ (List.mem_append_right _ (List.mem_append_right _ (List.mem_append_right _ (List.mem_append_right _ (List.mem_append_right _ (List.mem_append_right _ (List.mem_append_right _ (List.mem_append_right _ (List.mem_append_right _ (List.mem_append_right _ (List.mem_append_right _ (List.mem_append_left _ h))))))))))))))))))))))))))))))
theorem inX0 : ∀ w ∈ u_ws "LoanHouse$Checker" TX0 11, w ∈ TBL := fun w h => List.mem_append_right _ (List.mem_append_right _ (List.mem_append_right _ (List.mem_append_right _ (List.mem_append_right _ (List.mem_append_right _ (List.mem_append_right _ (List.mem_append_right _ (List.mem_append_right _ (List.mem_append_right _ (List.mem_append_right _ (List.mem_append_right _ (List.mem_append_right _ (List.mem_append_right _ (List.mem_append_right _ (List.mem_append_right _ (List.mem_append_right _ (List.mem_append_right _ (List.mem_append_right _ (List.mem_append_right _ (List.mem_append_right _ (List.mem_append_right _ (List.mem_append_right _ (List.mem_append_right _ (List.mem_append_right _ (List.mem_append_right _ (List.mem_append_right _ (List.mem_append_right _ (List.mem_append_right _ (List.mem_append_right _ (List.mem_append_right _ (List.mem_append_left _ h)))))))))))))))))))))))))))))))
theorem inX1 : ∀ w ∈ u_ws "LoanHouse$Emitter" TX1 10, w ∈ TBL := fun w h => List.mem_append_right _ (List.mem_append_right _ (List.mem_append_right _ (List.mem_append_right _ (List.mem_append_right _ (List.mem_append_right _ (List.mem_append_right _ (List.mem_append_right _ (List.mem_append_right _ (List.mem_append_right _ (List.mem_append_right _ (List.mem_append_right _ (List.mem_append_right _ (List.mem_append_right _ (List.mem_append_right _ (List.mem_append_right _ (List.mem_append_right _ (List.mem_append_right _ (List.mem_append_right _ (List.mem_append_right _ (List.mem_append_right _ (List.mem_append_right _ (List.mem_append_right _ (List.mem_append_right _ (List.mem_append_right _ (List.mem_append_right _ (List.mem_append_right _ (List.mem_append_right _ (List.mem_append_right _ (List.mem_append_right _ (List.mem_append_right _ (List.mem_append_right _ (List.mem_append_left _ h))))))))))))))))))))))))))))))))
theorem inX11 : ∀ w ∈ u_ws "LoanHouse$Ways" TX11 22, w ∈ TBL := fun w h => List.mem_append_right _ (List.mem_append_right _ (List.mem_append_right _ (List.mem_append_right _ (List.mem_append_right _ (List.mem_append_right _ (List.mem_append_right _ (List.mem_append_right _ (List.mem_append_right _ (List.mem_append_right _ (List.mem_append_right _ (List.mem_append_right _ (List.mem_append_right _ (List.mem_append_right _ (List.mem_append_right _ (List.mem_append_right _ (List.mem_append_right _ (List.mem_append_right _ (List.mem_append_right _ (List.mem_append_right _ (List.mem_append_right _ (List.mem_append_right _ (List.mem_append_right _ (List.mem_append_right _ (List.mem_append_right _ (List.mem_append_right _ (List.mem_append_right _ (List.mem_append_right _ (List.mem_append_right _ (List.mem_append_right _ (List.mem_append_right _ (List.mem_append_right _ (List.mem_append_right _ (List.mem_append_left _ h)))))))))))))))))))))))))))))))))
theorem inX3 : ∀ w ∈ u_ws "LoanHouse$Machine" TX3 21, w ∈ TBL := fun w h => List.mem_append_right _ (List.mem_append_right _ (List.mem_append_right _ (List.mem_append_right _ (List.mem_append_right _ (List.mem_append_right _ (List.mem_append_right _ (List.mem_append_right _ (List.mem_append_right _ (List.mem_append_right _ (List.mem_append_right _ (List.mem_append_right _ (List.mem_append_right _ (List.mem_append_right _ (List.mem_append_right _ (List.mem_append_right _ (List.mem_append_right _ (List.mem_append_right _ (List.mem_append_right _ (List.mem_append_right _ (List.mem_append_right _ (List.mem_append_right _ (List.mem_append_right _ (List.mem_append_right _ (List.mem_append_right _ (List.mem_append_right _ (List.mem_append_right _ (List.mem_append_right _ (List.mem_append_right _ (List.mem_append_right _ (List.mem_append_right _ (List.mem_append_right _ (List.mem_append_right _ (List.mem_append_right _ (List.mem_append_left _ h))))))))))))))))))))))))))))))))))
theorem inX7 : ∀ w ∈ u_ws "LoanHouse$Store" TX7 19, w ∈ TBL := fun w h => List.mem_append_right _ (List.mem_append_right _ (List.mem_append_right _ (List.mem_append_right _ (List.mem_append_right _ (List.mem_append_right _ (List.mem_append_right _ (List.mem_append_right _ (List.mem_append_right _ (List.mem_append_right _ (List.mem_append_right _ (List.mem_append_right _ (List.mem_append_right _ (List.mem_append_right _ (List.mem_append_right _ (List.mem_append_right _ (List.mem_append_right _ (List.mem_append_right _ (List.mem_append_right _ (List.mem_append_right _ (List.mem_append_right _ (List.mem_append_right _ (List.mem_append_right _ (List.mem_append_right _ (List.mem_append_right _ (List.mem_append_right _ (List.mem_append_right _ (List.mem_append_right _ (List.mem_append_right _ (List.mem_append_right _ (List.mem_append_right _ (List.mem_append_right _ (List.mem_append_right _ (List.mem_append_right _ (List.mem_append_right _ (List.mem_append_left _ h)))))))))))))))))))))))))))))))))))
theorem inX5 : ∀ w ∈ u_ws "LoanHouse$Program" TX5 15, w ∈ TBL := fun w h => List.mem_append_right _ (List.mem_append_right _ (List.mem_append_right _ (List.mem_append_right _ (List.mem_append_right _ (List.mem_append_right _ (List.mem_append_right _ (List.mem_append_right _ (List.mem_append_right _ (List.mem_append_right _ (List.mem_append_right _ (List.mem_append_right _ (List.mem_append_right _ (List.mem_append_right _ (List.mem_append_right _ (List.mem_append_right _ (List.mem_append_right _ (List.mem_append_right _ (List.mem_append_right _ (List.mem_append_right _ (List.mem_append_right _ (List.mem_append_right _ (List.mem_append_right _ (List.mem_append_right _ (List.mem_append_right _ (List.mem_append_right _ (List.mem_append_right _ (List.mem_append_right _ (List.mem_append_right _ (List.mem_append_right _ (List.mem_append_right _ (List.mem_append_right _ (List.mem_append_right _ (List.mem_append_right _ (List.mem_append_right _ (List.mem_append_right _ (List.mem_append_left _ h))))))))))))))))))))))))))))))))))))
theorem inX9 : ∀ w ∈ u_ws "LoanHouse$Types" TX9 19, w ∈ TBL := fun w h => List.mem_append_right _ (List.mem_append_right _ (List.mem_append_right _ (List.mem_append_right _ (List.mem_append_right _ (List.mem_append_right _ (List.mem_append_right _ (List.mem_append_right _ (List.mem_append_right _ (List.mem_append_right _ (List.mem_append_right _ (List.mem_append_right _ (List.mem_append_right _ (List.mem_append_right _ (List.mem_append_right _ (List.mem_append_right _ (List.mem_append_right _ (List.mem_append_right _ (List.mem_append_right _ (List.mem_append_right _ (List.mem_append_right _ (List.mem_append_right _ (List.mem_append_right _ (List.mem_append_right _ (List.mem_append_right _ (List.mem_append_right _ (List.mem_append_right _ (List.mem_append_right _ (List.mem_append_right _ (List.mem_append_right _ (List.mem_append_right _ (List.mem_append_right _ (List.mem_append_right _ (List.mem_append_right _ (List.mem_append_right _ (List.mem_append_right _ (List.mem_append_right _ (List.mem_append_left _ h)))))))))))))))))))))))))))))))))))))
theorem inX2 : ∀ w ∈ u_ws "LoanHouse$Functions" TX2 19, w ∈ TBL := fun w h => List.mem_append_right _ (List.mem_append_right _ (List.mem_append_right _ (List.mem_append_right _ (List.mem_append_right _ (List.mem_append_right _ (List.mem_append_right _ (List.mem_append_right _ (List.mem_append_right _ (List.mem_append_right _ (List.mem_append_right _ (List.mem_append_right _ (List.mem_append_right _ (List.mem_append_right _ (List.mem_append_right _ (List.mem_append_right _ (List.mem_append_right _ (List.mem_append_right _ (List.mem_append_right _ (List.mem_append_right _ (List.mem_append_right _ (List.mem_append_right _ (List.mem_append_right _ (List.mem_append_right _ (List.mem_append_right _ (List.mem_append_right _ (List.mem_append_right _ (List.mem_append_right _ (List.mem_append_right _ (List.mem_append_right _ (List.mem_append_right _ (List.mem_append_right _ (List.mem_append_right _ (List.mem_append_right _ (List.mem_append_right _ (List.mem_append_right _ (List.mem_append_right _ (List.mem_append_right _ (List.mem_append_left _ h))))))))))))))))))))))))))))))))))))))
theorem inX10 : ∀ w ∈ u_ws "LoanHouse$Variables" TX10 12, w ∈ TBL := fun w h => List.mem_append_right _ (List.mem_append_right _ (List.mem_append_right _ (List.mem_append_right _ (List.mem_append_right _ (List.mem_append_right _ (List.mem_append_right _ (List.mem_append_right _ (List.mem_append_right _ (List.mem_append_right _ (List.mem_append_right _ (List.mem_append_right _ (List.mem_append_right _ (List.mem_append_right _ (List.mem_append_right _ (List.mem_append_right _ (List.mem_append_right _ (List.mem_append_right _ (List.mem_append_right _ (List.mem_append_right _ (List.mem_append_right _ (List.mem_append_right _ (List.mem_append_right _ (List.mem_append_right _ (List.mem_append_right _ (List.mem_append_right _ (List.mem_append_right _ (List.mem_append_right _ (List.mem_append_right _ (List.mem_append_right _ (List.mem_append_right _ (List.mem_append_right _ (List.mem_append_right _ (List.mem_append_right _ (List.mem_append_right _ (List.mem_append_right _ (List.mem_append_right _ (List.mem_append_right _ (List.mem_append_right _ (List.mem_append_left _ h)))))))))))))))))))))))))))))))))))))))
theorem inX4 : ∀ w ∈ u_ws "LoanHouse$Places" TX4 20, w ∈ TBL := fun w h => List.mem_append_right _ (List.mem_append_right _ (List.mem_append_right _ (List.mem_append_right _ (List.mem_append_right _ (List.mem_append_right _ (List.mem_append_right _ (List.mem_append_right _ (List.mem_append_right _ (List.mem_append_right _ (List.mem_append_right _ (List.mem_append_right _ (List.mem_append_right _ (List.mem_append_right _ (List.mem_append_right _ (List.mem_append_right _ (List.mem_append_right _ (List.mem_append_right _ (List.mem_append_right _ (List.mem_append_right _ (List.mem_append_right _ (List.mem_append_right _ (List.mem_append_right _ (List.mem_append_right _ (List.mem_append_right _ (List.mem_append_right _ (List.mem_append_right _ (List.mem_append_right _ (List.mem_append_right _ (List.mem_append_right _ (List.mem_append_right _ (List.mem_append_right _ (List.mem_append_right _ (List.mem_append_right _ (List.mem_append_right _ (List.mem_append_right _ (List.mem_append_right _ (List.mem_append_right _ (List.mem_append_right _ (List.mem_append_right _ (List.mem_append_left _ h))))))))))))))))))))))))))))))))))))))))
theorem inX30 : ∀ w ∈ u_ws "LoanHouseModel" TX30 95, w ∈ TBL := fun w h => List.mem_append_right _ (List.mem_append_right _ (List.mem_append_right _ (List.mem_append_right _ (List.mem_append_right _ (List.mem_append_right _ (List.mem_append_right _ (List.mem_append_right _ (List.mem_append_right _ (List.mem_append_right _ (List.mem_append_right _ (List.mem_append_right _ (List.mem_append_right _ (List.mem_append_right _ (List.mem_append_right _ (List.mem_append_right _ (List.mem_append_right _ (List.mem_append_right _ (List.mem_append_right _ (List.mem_append_right _ (List.mem_append_right _ (List.mem_append_right _ (List.mem_append_right _ (List.mem_append_right _ (List.mem_append_right _ (List.mem_append_right _ (List.mem_append_right _ (List.mem_append_right _ (List.mem_append_right _ (List.mem_append_right _ (List.mem_append_right _ (List.mem_append_right _ (List.mem_append_right _ (List.mem_append_right _ (List.mem_append_right _ (List.mem_append_right _ (List.mem_append_right _ (List.mem_append_right _ (List.mem_append_right _ (List.mem_append_right _ (List.mem_append_right _ (List.mem_append_left _ h)))))))))))))))))))))))))))))))))))))))))
theorem inX26 : ∀ w ∈ u_ws "LoanHouseModel$Type" TX26 3, w ∈ TBL := fun w h => List.mem_append_right _ (List.mem_append_right _ (List.mem_append_right _ (List.mem_append_right _ (List.mem_append_right _ (List.mem_append_right _ (List.mem_append_right _ (List.mem_append_right _ (List.mem_append_right _ (List.mem_append_right _ (List.mem_append_right _ (List.mem_append_right _ (List.mem_append_right _ (List.mem_append_right _ (List.mem_append_right _ (List.mem_append_right _ (List.mem_append_right _ (List.mem_append_right _ (List.mem_append_right _ (List.mem_append_right _ (List.mem_append_right _ (List.mem_append_right _ (List.mem_append_right _ (List.mem_append_right _ (List.mem_append_right _ (List.mem_append_right _ (List.mem_append_right _ (List.mem_append_right _ (List.mem_append_right _ (List.mem_append_right _ (List.mem_append_right _ (List.mem_append_right _ (List.mem_append_right _ (List.mem_append_right _ (List.mem_append_right _ (List.mem_append_right _ (List.mem_append_right _ (List.mem_append_right _ (List.mem_append_right _ (List.mem_append_right _ (List.mem_append_right _ (List.mem_append_right _ (List.mem_append_left _ h))))))))))))))))))))))))))))))))))))))))))
theorem inX23 : ∀ w ∈ u_ws "LoanHouseModel$Program" TX23 4, w ∈ TBL := fun w h => List.mem_append_right _ (List.mem_append_right _ (List.mem_append_right _ (List.mem_append_right _ (List.mem_append_right _ (List.mem_append_right _ (List.mem_append_right _ (List.mem_append_right _ (List.mem_append_right _ (List.mem_append_right _ (List.mem_append_right _ (List.mem_append_right _ (List.mem_append_right _ (List.mem_append_right _ (List.mem_append_right _ (List.mem_append_right _ (List.mem_append_right _ (List.mem_append_right _ (List.mem_append_right _ (List.mem_append_right _ (List.mem_append_right _ (List.mem_append_right _ (List.mem_append_right _ (List.mem_append_right _ (List.mem_append_right _ (List.mem_append_right _ (List.mem_append_right _ (List.mem_append_right _ (List.mem_append_right _ (List.mem_append_right _ (List.mem_append_right _ (List.mem_append_right _ (List.mem_append_right _ (List.mem_append_right _ (List.mem_append_right _ (List.mem_append_right _ (List.mem_append_right _ (List.mem_append_right _ (List.mem_append_right _ (List.mem_append_right _ (List.mem_append_right _ (List.mem_append_right _ (List.mem_append_right _ (List.mem_append_left _ h)))))))))))))))))))))))))))))))))))))))))))
theorem inJ4 : ∀ w ∈ u_ws "java/lang/StringBuilder" TJ4 4, w ∈ TBL := fun w h => List.mem_append_right _ (List.mem_append_right _ (List.mem_append_right _ (List.mem_append_right _ (List.mem_append_right _ (List.mem_append_right _ (List.mem_append_right _ (List.mem_append_right _ (List.mem_append_right _ (List.mem_append_right _ (List.mem_append_right _ (List.mem_append_right _ (List.mem_append_right _ (List.mem_append_right _ (List.mem_append_right _ (List.mem_append_right _ (List.mem_append_right _ (List.mem_append_right _ (List.mem_append_right _ (List.mem_append_right _ (List.mem_append_right _ (List.mem_append_right _ (List.mem_append_right _ (List.mem_append_right _ (List.mem_append_right _ (List.mem_append_right _ (List.mem_append_right _ (List.mem_append_right _ (List.mem_append_right _ (List.mem_append_right _ (List.mem_append_right _ (List.mem_append_right _ (List.mem_append_right _ (List.mem_append_right _ (List.mem_append_right _ (List.mem_append_right _ (List.mem_append_right _ (List.mem_append_right _ (List.mem_append_right _ (List.mem_append_right _ (List.mem_append_right _ (List.mem_append_right _ (List.mem_append_right _ (List.mem_append_right _ (List.mem_append_left _ h))))))))))))))))))))))))))))))))))))))))))))
theorem inJ0 : ∀ w ∈ u_ws "java/lang/String" TJ0 4, w ∈ TBL := fun w h => List.mem_append_right _ (List.mem_append_right _ (List.mem_append_right _ (List.mem_append_right _ (List.mem_append_right _ (List.mem_append_right _ (List.mem_append_right _ (List.mem_append_right _ (List.mem_append_right _ (List.mem_append_right _ (List.mem_append_right _ (List.mem_append_right _ (List.mem_append_right _ (List.mem_append_right _ (List.mem_append_right _ (List.mem_append_right _ (List.mem_append_right _ (List.mem_append_right _ (List.mem_append_right _ (List.mem_append_right _ (List.mem_append_right _ (List.mem_append_right _ (List.mem_append_right _ (List.mem_append_right _ (List.mem_append_right _ (List.mem_append_right _ (List.mem_append_right _ (List.mem_append_right _ (List.mem_append_right _ (List.mem_append_right _ (List.mem_append_right _ (List.mem_append_right _ (List.mem_append_right _ (List.mem_append_right _ (List.mem_append_right _ (List.mem_append_right _ (List.mem_append_right _ (List.mem_append_right _ (List.mem_append_right _ (List.mem_append_right _ (List.mem_append_right _ (List.mem_append_right _ (List.mem_append_right _ (List.mem_append_right _ (List.mem_append_right _ (List.mem_append_left _ h)))))))))))))))))))))))))))))))))))))))))))))
theorem inJx4a65c : ∀ w ∈ u_ws "java/util/ArrayList" TJx4a65c 3, w ∈ TBL := fun w h => List.mem_append_right _ (List.mem_append_right _ (List.mem_append_right _ (List.mem_append_right _ (List.mem_append_right _ (List.mem_append_right _ (List.mem_append_right _ (List.mem_append_right _ (List.mem_append_right _ (List.mem_append_right _ (List.mem_append_right _ (List.mem_append_right _ (List.mem_append_right _ (List.mem_append_right _ (List.mem_append_right _ (List.mem_append_right _ (List.mem_append_right _ (List.mem_append_right _ (List.mem_append_right _ (List.mem_append_right _ (List.mem_append_right _ (List.mem_append_right _ (List.mem_append_right _ (List.mem_append_right _ (List.mem_append_right _ (List.mem_append_right _ (List.mem_append_right _ (List.mem_append_right _ (List.mem_append_right _ (List.mem_append_right _ (List.mem_append_right _ (List.mem_append_right _ (List.mem_append_right _ (List.mem_append_right _ (List.mem_append_right _ (List.mem_append_right _ (List.mem_append_right _ (List.mem_append_right _ (List.mem_append_right _ (List.mem_append_right _ (List.mem_append_right _ (List.mem_append_right _ (List.mem_append_right _ (List.mem_append_right _ (List.mem_append_right _ (List.mem_append_right _ (h))))))))))))))))))))))))))))))))))))))))))))))
theorem w_0 : Cond.instanceMethod objectInit ∈ TBL := tb_0 _ (List.mem_of_getElem? (i := 0) rfl)
theorem w_1 : Cond.code objectInit ⟨#[0xb1]⟩ 1 none ∈ TBL := tb_0 _ (List.mem_of_getElem? (i := 1) rfl)
theorem w_2 : Cond.code yX12_init cX12_init 1 none ∈ TBL := tb_0 _ (List.mem_of_getElem? (i := 2) rfl)
theorem w_3 : Cond.initialized "LoanHouse" ∈ TBL := tb_0 _ (List.mem_of_getElem? (i := 3) rfl)
theorem w_4 : Cond.instanceMethod yX12_init ∈ TBL := tb_0 _ (List.mem_of_getElem? (i := 4) rfl)
theorem w_5 : Cond.methodLink "LoanHouse" 3 objectInit ∈ TBL := tb_0 _ (List.mem_of_getElem? (i := 5) rfl)
theorem w_6 : Cond.arrayClass .byte ∈ TBL := tb_0 _ (List.mem_of_getElem? (i := 6) rfl)
theorem w_7 : Cond.fieldLink "LoanHouse" 9 "LoanHouse" "text" "[B" ∈ TBL := tb_0 _ (List.mem_of_getElem? (i := 7) rfl)
theorem w_8 : Cond.arrayClass .long ∈ TBL := tb_0 _ (List.mem_of_getElem? (i := 8) rfl)
theorem w_9 : Cond.fieldLink "LoanHouse" 13 "LoanHouse" "given" "[J" ∈ TBL := tb_0 _ (List.mem_of_getElem? (i := 9) rfl)
theorem w_10 : Cond.classLink "LoanHouse" 17 "LoanHouse$Tree" ∈ TBL := tb_0 _ (List.mem_of_getElem? (i := 10) rfl)
theorem w_11 : Cond.instantiable "LoanHouse$Tree" 12 ∈ TBL := tb_0 _ (List.mem_of_getElem? (i := 11) rfl)
theorem w_12 : Cond.initialized "LoanHouse$Tree" ∈ TBL := tb_0 _ (List.mem_of_getElem? (i := 12) rfl)
theorem w_13 : Cond.fieldLink "LoanHouse" 20 "LoanHouse" "tree" "LLoanHouse$Tree;" ∈ TBL := tb_0 _ (List.mem_of_getElem? (i := 13) rfl)
theorem w_14 : Cond.classLink "LoanHouse" 24 "LoanHouse$Reader" ∈ TBL := tb_0 _ (List.mem_of_getElem? (i := 14) rfl)
theorem w_15 : Cond.instantiable "LoanHouse$Reader" 18 ∈ TBL := tb_0 _ (List.mem_of_getElem? (i := 15) rfl)
theorem w_16 : Cond.initialized "LoanHouse$Reader" ∈ TBL := tb_0 _ (List.mem_of_getElem? (i := 16) rfl)
theorem w_17 : Cond.fieldLink "LoanHouse" 29 "LoanHouse" "reader" "LLoanHouse$Reader;" ∈ TBL := tb_0 _ (List.mem_of_getElem? (i := 17) rfl)
theorem w_18 : Cond.classLink "LoanHouse" 33 "LoanHouse$Checker" ∈ TBL := tb_0 _ (List.mem_of_getElem? (i := 18) rfl)
theorem w_19 : Cond.instantiable "LoanHouse$Checker" 11 ∈ TBL := tb_0 _ (List.mem_of_getElem? (i := 19) rfl)
theorem w_20 : Cond.initialized "LoanHouse$Checker" ∈ TBL := tb_0 _ (List.mem_of_getElem? (i := 20) rfl)
theorem w_21 : Cond.fieldLink "LoanHouse" 36 "LoanHouse" "checker" "LLoanHouse$Checker;" ∈ TBL := tb_0 _ (List.mem_of_getElem? (i := 21) rfl)
theorem w_22 : Cond.classLink "LoanHouse" 40 "LoanHouse$Emitter" ∈ TBL := tb_0 _ (List.mem_of_getElem? (i := 22) rfl)
theorem w_23 : Cond.instantiable "LoanHouse$Emitter" 10 ∈ TBL := tb_0 _ (List.mem_of_getElem? (i := 23) rfl)
theorem w_24 : Cond.initialized "LoanHouse$Emitter" ∈ TBL := tb_0 _ (List.mem_of_getElem? (i := 24) rfl)
theorem w_25 : Cond.fieldLink "LoanHouse" 43 "LoanHouse" "emitter" "LLoanHouse$Emitter;" ∈ TBL := tb_0 _ (List.mem_of_getElem? (i := 25) rfl)
theorem w_26 : Cond.classLink "LoanHouse" 47 "LoanHouse$Ways" ∈ TBL := tb_0 _ (List.mem_of_getElem? (i := 26) rfl)
theorem w_27 : Cond.instantiable "LoanHouse$Ways" 22 ∈ TBL := tb_0 _ (List.mem_of_getElem? (i := 27) rfl)
theorem w_28 : Cond.initialized "LoanHouse$Ways" ∈ TBL := tb_0 _ (List.mem_of_getElem? (i := 28) rfl)
theorem w_29 : Cond.fieldLink "LoanHouse" 50 "LoanHouse" "ways" "LLoanHouse$Ways;" ∈ TBL := tb_0 _ (List.mem_of_getElem? (i := 29) rfl)
theorem w_30 : Cond.classLink "LoanHouse" 54 "LoanHouse$Machine" ∈ TBL := tb_1 _ (List.mem_of_getElem? (i := 0) rfl)
theorem w_31 : Cond.instantiable "LoanHouse$Machine" 21 ∈ TBL := tb_1 _ (List.mem_of_getElem? (i := 1) rfl)
theorem w_32 : Cond.initialized "LoanHouse$Machine" ∈ TBL := tb_1 _ (List.mem_of_getElem? (i := 2) rfl)
theorem w_33 : Cond.fieldLink "LoanHouse" 57 "LoanHouse" "machine" "LLoanHouse$Machine;" ∈ TBL := tb_1 _ (List.mem_of_getElem? (i := 3) rfl)
theorem w_34 : Cond.classLink "LoanHouse" 61 "LoanHouse$Program" ∈ TBL := tb_1 _ (List.mem_of_getElem? (i := 4) rfl)
theorem w_35 : Cond.instantiable "LoanHouse$Program" 15 ∈ TBL := tb_1 _ (List.mem_of_getElem? (i := 5) rfl)
theorem w_36 : Cond.initialized "LoanHouse$Program" ∈ TBL := tb_1 _ (List.mem_of_getElem? (i := 6) rfl)
theorem w_37 : Cond.fieldLink "LoanHouse" 64 "LoanHouse" "program" "LLoanHouse$Program;" ∈ TBL := tb_1 _ (List.mem_of_getElem? (i := 7) rfl)
theorem w_38 : Cond.fieldLink "LoanHouse" 68 "LoanHouse" "faultKind" "I" ∈ TBL := tb_1 _ (List.mem_of_getElem? (i := 8) rfl)
theorem w_39 : Cond.fieldLink "LoanHouse" 72 "LoanHouse" "faultPlace" "I" ∈ TBL := tb_1 _ (List.mem_of_getElem? (i := 9) rfl)
theorem w_40 : Cond.fieldLink "LoanHouse" 75 "LoanHouse" "faultOther" "I" ∈ TBL := tb_1 _ (List.mem_of_getElem? (i := 10) rfl)
theorem w_41 : Cond.code yX12_feed cX12_feed 6 (some .int) ∈ TBL := tb_1 _ (List.mem_of_getElem? (i := 11) rfl)
theorem w_42 : Cond.instanceMethod yX12_feed ∈ TBL := tb_1 _ (List.mem_of_getElem? (i := 12) rfl)
theorem w_43 : Cond.selects "LoanHouse" yX12_feed yX12_feed ∈ TBL := tb_1 _ (List.mem_of_getElem? (i := 13) rfl)
theorem w_44 : Cond.fieldLink "LoanHouse" 78 "LoanHouse" "textLength" "I" ∈ TBL := tb_1 _ (List.mem_of_getElem? (i := 14) rfl)
theorem w_45 : Cond.methodLink "LoanHouse" 81 yX12_feedNumber ∈ TBL := tb_1 _ (List.mem_of_getElem? (i := 15) rfl)
theorem w_46 : Cond.code yX12_feedNumber cX12_feedNumber 3 none ∈ TBL := tb_1 _ (List.mem_of_getElem? (i := 16) rfl)
theorem w_47 : Cond.instanceMethod yX12_feedNumber ∈ TBL := tb_1 _ (List.mem_of_getElem? (i := 17) rfl)
theorem w_48 : Cond.selects "LoanHouse" yX12_feedNumber yX12_feedNumber ∈ TBL := tb_1 _ (List.mem_of_getElem? (i := 18) rfl)
theorem w_49 : Cond.code yX12_judge cX12_judge 2 (some .int) ∈ TBL := tb_1 _ (List.mem_of_getElem? (i := 19) rfl)
theorem w_50 : Cond.instanceMethod yX12_judge ∈ TBL := tb_1 _ (List.mem_of_getElem? (i := 20) rfl)
theorem w_51 : Cond.selects "LoanHouse" yX12_judge yX12_judge ∈ TBL := tb_1 _ (List.mem_of_getElem? (i := 21) rfl)
theorem w_52 : Cond.methodLink "LoanHouse" 89 yX12_judgeTree ∈ TBL := tb_1 _ (List.mem_of_getElem? (i := 22) rfl)
theorem w_53 : Cond.code yX12_judgeTree cX12_judgeTree 3 (some .int) ∈ TBL := tb_1 _ (List.mem_of_getElem? (i := 23) rfl)
theorem w_54 : Cond.instanceMethod yX12_judgeTree ∈ TBL := tb_1 _ (List.mem_of_getElem? (i := 24) rfl)
theorem w_55 : Cond.selects "LoanHouse" yX12_judgeTree yX12_judgeTree ∈ TBL := tb_1 _ (List.mem_of_getElem? (i := 25) rfl)
theorem w_56 : Cond.fieldLink "LoanHouse" 96 "LoanHouse" "hasProgram" "Z" ∈ TBL := tb_1 _ (List.mem_of_getElem? (i := 26) rfl)
theorem w_57 : Cond.fieldLink "LoanHouse" 100 "LoanHouse" "next" "LLoanHouse$Program;" ∈ TBL := tb_1 _ (List.mem_of_getElem? (i := 27) rfl)
theorem w_58 : Cond.code yX12_fault cX12_fault 2 (some .int) ∈ TBL := tb_1 _ (List.mem_of_getElem? (i := 28) rfl)
theorem w_59 : Cond.instanceMethod yX12_fault ∈ TBL := tb_1 _ (List.mem_of_getElem? (i := 29) rfl)
theorem w_60 : Cond.selects "LoanHouse" yX12_fault yX12_fault ∈ TBL := tb_2 _ (List.mem_of_getElem? (i := 0) rfl)
theorem w_61 : Cond.code yX12_give cX12_give 3 (some .int) ∈ TBL := tb_2 _ (List.mem_of_getElem? (i := 1) rfl)
theorem w_62 : Cond.instanceMethod yX12_give ∈ TBL := tb_2 _ (List.mem_of_getElem? (i := 2) rfl)
theorem w_63 : Cond.selects "LoanHouse" yX12_give yX12_give ∈ TBL := tb_2 _ (List.mem_of_getElem? (i := 3) rfl)
theorem w_64 : Cond.fieldLink "LoanHouse" 133 "LoanHouse" "givenTotal" "I" ∈ TBL := tb_2 _ (List.mem_of_getElem? (i := 4) rfl)
theorem w_65 : Cond.code yX12_run cX12_run 2 (some .int) ∈ TBL := tb_2 _ (List.mem_of_getElem? (i := 5) rfl)
theorem w_66 : Cond.instanceMethod yX12_run ∈ TBL := tb_2 _ (List.mem_of_getElem? (i := 6) rfl)
theorem w_67 : Cond.selects "LoanHouse" yX12_run yX12_run ∈ TBL := tb_2 _ (List.mem_of_getElem? (i := 7) rfl)
theorem w_68 : Cond.constant "LoanHouse" 136 (50000) ∈ TBL := tb_2 _ (List.mem_of_getElem? (i := 8) rfl)
theorem w_69 : Cond.fieldLink "LoanHouse" 103 "LoanHouse" "hasRun" "Z" ∈ TBL := tb_2 _ (List.mem_of_getElem? (i := 9) rfl)
theorem w_70 : Cond.code yX12_about cX12_about 2 (some .int) ∈ TBL := tb_2 _ (List.mem_of_getElem? (i := 10) rfl)
theorem w_71 : Cond.instanceMethod yX12_about ∈ TBL := tb_2 _ (List.mem_of_getElem? (i := 11) rfl)
theorem w_72 : Cond.selects "LoanHouse" yX12_about yX12_about ∈ TBL := tb_2 _ (List.mem_of_getElem? (i := 12) rfl)
theorem w_73 : Cond.code yX12_out cX12_out 3 (some .long) ∈ TBL := tb_2 _ (List.mem_of_getElem? (i := 13) rfl)
theorem w_74 : Cond.instanceMethod yX12_out ∈ TBL := tb_2 _ (List.mem_of_getElem? (i := 14) rfl)
theorem w_75 : Cond.selects "LoanHouse" yX12_out yX12_out ∈ TBL := tb_2 _ (List.mem_of_getElem? (i := 15) rfl)
theorem w_76 : Cond.code yX12_count cX12_count 2 (some .int) ∈ TBL := tb_2 _ (List.mem_of_getElem? (i := 16) rfl)
theorem w_77 : Cond.instanceMethod yX12_count ∈ TBL := tb_2 _ (List.mem_of_getElem? (i := 17) rfl)
theorem w_78 : Cond.selects "LoanHouse" yX12_count yX12_count ∈ TBL := tb_2 _ (List.mem_of_getElem? (i := 18) rfl)
theorem w_79 : Cond.code yX12_place cX12_place 3 (some .int) ∈ TBL := tb_2 _ (List.mem_of_getElem? (i := 19) rfl)
theorem w_80 : Cond.instanceMethod yX12_place ∈ TBL := tb_2 _ (List.mem_of_getElem? (i := 20) rfl)
theorem w_81 : Cond.selects "LoanHouse" yX12_place yX12_place ∈ TBL := tb_2 _ (List.mem_of_getElem? (i := 21) rfl)
theorem w_82 : Cond.code yX12_loan cX12_loan 3 (some .int) ∈ TBL := tb_2 _ (List.mem_of_getElem? (i := 22) rfl)
theorem w_83 : Cond.instanceMethod yX12_loan ∈ TBL := tb_2 _ (List.mem_of_getElem? (i := 23) rfl)
theorem w_84 : Cond.selects "LoanHouse" yX12_loan yX12_loan ∈ TBL := tb_2 _ (List.mem_of_getElem? (i := 24) rfl)
theorem w_85 : Cond.code yX12_force cX12_force 3 (some .int) ∈ TBL := tb_2 _ (List.mem_of_getElem? (i := 25) rfl)
theorem w_86 : Cond.instanceMethod yX12_force ∈ TBL := tb_2 _ (List.mem_of_getElem? (i := 26) rfl)
theorem w_87 : Cond.selects "LoanHouse" yX12_force yX12_force ∈ TBL := tb_2 _ (List.mem_of_getElem? (i := 27) rfl)
theorem w_88 : Cond.code yX12_function cX12_function 3 (some .int) ∈ TBL := tb_2 _ (List.mem_of_getElem? (i := 28) rfl)
theorem w_89 : Cond.instanceMethod yX12_function ∈ TBL := tb_2 _ (List.mem_of_getElem? (i := 29) rfl)
theorem w_90 : Cond.selects "LoanHouse" yX12_function yX12_function ∈ TBL := tb_3 _ (List.mem_of_getElem? (i := 0) rfl)
theorem w_91 : Cond.code yX12_size cX12_size 2 (some .int) ∈ TBL := tb_3 _ (List.mem_of_getElem? (i := 1) rfl)
theorem w_92 : Cond.instanceMethod yX12_size ∈ TBL := tb_3 _ (List.mem_of_getElem? (i := 2) rfl)
theorem w_93 : Cond.selects "LoanHouse" yX12_size yX12_size ∈ TBL := tb_3 _ (List.mem_of_getElem? (i := 3) rfl)
theorem w_94 : Cond.code yX12_strays cX12_strays 1 (some .int) ∈ TBL := tb_3 _ (List.mem_of_getElem? (i := 4) rfl)
theorem w_95 : Cond.instanceMethod yX12_strays ∈ TBL := tb_3 _ (List.mem_of_getElem? (i := 5) rfl)
theorem w_96 : Cond.selects "LoanHouse" yX12_strays yX12_strays ∈ TBL := tb_3 _ (List.mem_of_getElem? (i := 6) rfl)
theorem w_97 : Cond.code yX12_twices cX12_twices 1 (some .int) ∈ TBL := tb_3 _ (List.mem_of_getElem? (i := 7) rfl)
theorem w_98 : Cond.instanceMethod yX12_twices ∈ TBL := tb_3 _ (List.mem_of_getElem? (i := 8) rfl)
theorem w_99 : Cond.selects "LoanHouse" yX12_twices yX12_twices ∈ TBL := tb_3 _ (List.mem_of_getElem? (i := 9) rfl)
theorem w_100 : Cond.code yX12_lefts cX12_lefts 1 (some .int) ∈ TBL := tb_3 _ (List.mem_of_getElem? (i := 10) rfl)
theorem w_101 : Cond.instanceMethod yX12_lefts ∈ TBL := tb_3 _ (List.mem_of_getElem? (i := 11) rfl)
theorem w_102 : Cond.selects "LoanHouse" yX12_lefts yX12_lefts ∈ TBL := tb_3 _ (List.mem_of_getElem? (i := 12) rfl)
theorem w_103 : Cond.code yX12_clashes cX12_clashes 1 (some .int) ∈ TBL := tb_3 _ (List.mem_of_getElem? (i := 13) rfl)
theorem w_104 : Cond.instanceMethod yX12_clashes ∈ TBL := tb_3 _ (List.mem_of_getElem? (i := 14) rfl)
theorem w_105 : Cond.selects "LoanHouse" yX12_clashes yX12_clashes ∈ TBL := tb_3 _ (List.mem_of_getElem? (i := 15) rfl)
theorem w_106 : Cond.code yX8_init cX8_init 1 none ∈ TBL := tb_3 _ (List.mem_of_getElem? (i := 16) rfl)
theorem w_107 : Cond.instanceMethod yX8_init ∈ TBL := tb_3 _ (List.mem_of_getElem? (i := 17) rfl)
theorem w_108 : Cond.methodLink "LoanHouse$Tree" 3 objectInit ∈ TBL := tb_3 _ (List.mem_of_getElem? (i := 18) rfl)
theorem w_109 : Cond.arrayClass .int ∈ TBL := tb_3 _ (List.mem_of_getElem? (i := 19) rfl)
theorem w_110 : Cond.fieldLink "LoanHouse$Tree" 9 "LoanHouse$Tree" "kind" "[I" ∈ TBL := tb_3 _ (List.mem_of_getElem? (i := 20) rfl)
theorem w_111 : Cond.fieldLink "LoanHouse$Tree" 15 "LoanHouse$Tree" "pos" "[I" ∈ TBL := tb_3 _ (List.mem_of_getElem? (i := 21) rfl)
theorem w_112 : Cond.fieldLink "LoanHouse$Tree" 18 "LoanHouse$Tree" "from" "[I" ∈ TBL := tb_3 _ (List.mem_of_getElem? (i := 22) rfl)
theorem w_113 : Cond.fieldLink "LoanHouse$Tree" 21 "LoanHouse$Tree" "name" "[I" ∈ TBL := tb_3 _ (List.mem_of_getElem? (i := 23) rfl)
theorem w_114 : Cond.fieldLink "LoanHouse$Tree" 24 "LoanHouse$Tree" "a" "[I" ∈ TBL := tb_3 _ (List.mem_of_getElem? (i := 24) rfl)
theorem w_115 : Cond.fieldLink "LoanHouse$Tree" 27 "LoanHouse$Tree" "b" "[I" ∈ TBL := tb_3 _ (List.mem_of_getElem? (i := 25) rfl)
theorem w_116 : Cond.fieldLink "LoanHouse$Tree" 30 "LoanHouse$Tree" "c" "[I" ∈ TBL := tb_3 _ (List.mem_of_getElem? (i := 26) rfl)
theorem w_117 : Cond.fieldLink "LoanHouse$Tree" 33 "LoanHouse$Tree" "next" "[I" ∈ TBL := tb_3 _ (List.mem_of_getElem? (i := 27) rfl)
theorem w_118 : Cond.fieldLink "LoanHouse$Tree" 36 "LoanHouse$Tree" "value" "[J" ∈ TBL := tb_3 _ (List.mem_of_getElem? (i := 28) rfl)
theorem w_119 : Cond.fieldLink "LoanHouse$Tree" 40 "LoanHouse$Tree" "type" "[I" ∈ TBL := tb_3 _ (List.mem_of_getElem? (i := 29) rfl)
theorem w_120 : Cond.fieldLink "LoanHouse$Tree" 43 "LoanHouse$Tree" "ref" "[I" ∈ TBL := tb_4 _ (List.mem_of_getElem? (i := 0) rfl)
theorem w_121 : Cond.fieldLink "LoanHouse$Tree" 46 "LoanHouse$Tree" "total" "I" ∈ TBL := tb_4 _ (List.mem_of_getElem? (i := 1) rfl)
theorem w_122 : Cond.code yX8_clear cX8_clear 1 none ∈ TBL := tb_4 _ (List.mem_of_getElem? (i := 2) rfl)
theorem w_123 : Cond.instanceMethod yX8_clear ∈ TBL := tb_4 _ (List.mem_of_getElem? (i := 3) rfl)
theorem w_124 : Cond.selects "LoanHouse$Tree" yX8_clear yX8_clear ∈ TBL := tb_4 _ (List.mem_of_getElem? (i := 4) rfl)
theorem w_125 : Cond.code yX8_add cX8_add 4 (some .int) ∈ TBL := tb_4 _ (List.mem_of_getElem? (i := 5) rfl)
theorem w_126 : Cond.instanceMethod yX8_add ∈ TBL := tb_4 _ (List.mem_of_getElem? (i := 6) rfl)
theorem w_127 : Cond.selects "LoanHouse$Tree" yX8_add yX8_add ∈ TBL := tb_4 _ (List.mem_of_getElem? (i := 7) rfl)
theorem w_128 : Cond.code yX6_init cX6_init 3 none ∈ TBL := tb_4 _ (List.mem_of_getElem? (i := 8) rfl)
theorem w_129 : Cond.instanceMethod yX6_init ∈ TBL := tb_4 _ (List.mem_of_getElem? (i := 9) rfl)
theorem w_130 : Cond.methodLink "LoanHouse$Reader" 3 objectInit ∈ TBL := tb_4 _ (List.mem_of_getElem? (i := 10) rfl)
theorem w_131 : Cond.methodLink "LoanHouse$Reader" 11 yJ0_length_8abf5 ∈ TBL := tb_4 _ (List.mem_of_getElem? (i := 11) rfl)
theorem w_132 : Cond.fieldLink "LoanHouse$Reader" 17 "LoanHouse$Reader" "pool" "[B" ∈ TBL := tb_4 _ (List.mem_of_getElem? (i := 12) rfl)
theorem w_133 : Cond.fieldLink "LoanHouse$Reader" 23 "LoanHouse$Reader" "nameStart" "[I" ∈ TBL := tb_4 _ (List.mem_of_getElem? (i := 13) rfl)
theorem w_134 : Cond.fieldLink "LoanHouse$Reader" 27 "LoanHouse$Reader" "nameLength" "[I" ∈ TBL := tb_4 _ (List.mem_of_getElem? (i := 14) rfl)
theorem w_135 : Cond.fieldLink "LoanHouse$Reader" 30 "LoanHouse$Reader" "nameNext" "[I" ∈ TBL := tb_4 _ (List.mem_of_getElem? (i := 15) rfl)
theorem w_136 : Cond.fieldLink "LoanHouse$Reader" 33 "LoanHouse$Reader" "heads" "[I" ∈ TBL := tb_4 _ (List.mem_of_getElem? (i := 16) rfl)
theorem w_137 : Cond.fieldLink "LoanHouse$Reader" 36 "LoanHouse$Reader" "tokenKind" "[I" ∈ TBL := tb_4 _ (List.mem_of_getElem? (i := 17) rfl)
theorem w_138 : Cond.fieldLink "LoanHouse$Reader" 39 "LoanHouse$Reader" "tokenPos" "[I" ∈ TBL := tb_4 _ (List.mem_of_getElem? (i := 18) rfl)
theorem w_139 : Cond.fieldLink "LoanHouse$Reader" 42 "LoanHouse$Reader" "tokenValue" "[J" ∈ TBL := tb_4 _ (List.mem_of_getElem? (i := 19) rfl)
theorem w_140 : Cond.fieldLink "LoanHouse$Reader" 46 "LoanHouse$Reader" "tree" "LLoanHouse$Tree;" ∈ TBL := tb_4 _ (List.mem_of_getElem? (i := 20) rfl)
theorem w_141 : Cond.methodLink "LoanHouse$Reader" 50 yJ0_charAt_5068e ∈ TBL := tb_4 _ (List.mem_of_getElem? (i := 21) rfl)
theorem w_142 : Cond.code yX6_read cX6_read 8 (some .int) ∈ TBL := tb_4 _ (List.mem_of_getElem? (i := 22) rfl)
theorem w_143 : Cond.instanceMethod yX6_read ∈ TBL := tb_4 _ (List.mem_of_getElem? (i := 23) rfl)
theorem w_144 : Cond.selects "LoanHouse$Reader" yX6_read yX6_read ∈ TBL := tb_4 _ (List.mem_of_getElem? (i := 24) rfl)
theorem w_145 : Cond.methodLink "LoanHouse$Reader" 54 arraycopyName ∈ TBL := tb_4 _ (List.mem_of_getElem? (i := 25) rfl)
theorem w_146 : Cond.static arraycopyName ∈ TBL := tb_4 _ (List.mem_of_getElem? (i := 26) rfl)
theorem w_147 : Cond.native arraycopyName ∈ TBL := tb_4 _ (List.mem_of_getElem? (i := 27) rfl)
theorem w_148 : Cond.initialized "java/lang/System" ∈ TBL := tb_4 _ (List.mem_of_getElem? (i := 28) rfl)
theorem w_149 : Cond.fieldLink "LoanHouse$Reader" 60 "LoanHouse$Reader" "at" "I" ∈ TBL := tb_4 _ (List.mem_of_getElem? (i := 29) rfl)
theorem w_150 : Cond.fieldLink "LoanHouse$Reader" 64 "LoanHouse$Reader" "end" "I" ∈ TBL := tb_5 _ (List.mem_of_getElem? (i := 0) rfl)
theorem w_151 : Cond.fieldLink "LoanHouse$Reader" 67 "LoanHouse$Reader" "open" "I" ∈ TBL := tb_5 _ (List.mem_of_getElem? (i := 1) rfl)
theorem w_152 : Cond.fieldLink "LoanHouse$Reader" 70 "LoanHouse$Reader" "wrong" "I" ∈ TBL := tb_5 _ (List.mem_of_getElem? (i := 2) rfl)
theorem w_153 : Cond.methodLink "LoanHouse$Reader" 73 yX6_takeWords ∈ TBL := tb_5 _ (List.mem_of_getElem? (i := 3) rfl)
theorem w_154 : Cond.methodLink "LoanHouse$Reader" 76 yX6_takeTokens ∈ TBL := tb_5 _ (List.mem_of_getElem? (i := 4) rfl)
theorem w_155 : Cond.fieldLink "LoanHouse$Reader" 84 "LoanHouse$Reader" "current" "I" ∈ TBL := tb_5 _ (List.mem_of_getElem? (i := 5) rfl)
theorem w_156 : Cond.methodLink "LoanHouse$Reader" 87 yX6_advance ∈ TBL := tb_5 _ (List.mem_of_getElem? (i := 6) rfl)
theorem w_157 : Cond.fieldLink "LoanHouse$Reader" 94 "LoanHouse$Reader" "kind" "I" ∈ TBL := tb_5 _ (List.mem_of_getElem? (i := 7) rfl)
theorem w_158 : Cond.fieldLink "LoanHouse$Reader" 97 "LoanHouse$Reader" "pos" "I" ∈ TBL := tb_5 _ (List.mem_of_getElem? (i := 8) rfl)
theorem w_159 : Cond.code yX6_takeWords cX6_takeWords 3 none ∈ TBL := tb_5 _ (List.mem_of_getElem? (i := 9) rfl)
theorem w_160 : Cond.instanceMethod yX6_takeWords ∈ TBL := tb_5 _ (List.mem_of_getElem? (i := 10) rfl)
theorem w_161 : Cond.selects "LoanHouse$Reader" yX6_takeWords yX6_takeWords ∈ TBL := tb_5 _ (List.mem_of_getElem? (i := 11) rfl)
theorem w_162 : Cond.fieldLink "LoanHouse$Reader" 119 "LoanHouse$Reader" "names" "I" ∈ TBL := tb_5 _ (List.mem_of_getElem? (i := 12) rfl)
theorem w_163 : Cond.methodLink "LoanHouse$Reader" 122 yX6_nameOf ∈ TBL := tb_5 _ (List.mem_of_getElem? (i := 13) rfl)
theorem w_164 : Cond.code yX6_nameOf cX6_nameOf 6 (some .int) ∈ TBL := tb_5 _ (List.mem_of_getElem? (i := 14) rfl)
theorem w_165 : Cond.instanceMethod yX6_nameOf ∈ TBL := tb_5 _ (List.mem_of_getElem? (i := 15) rfl)
theorem w_166 : Cond.selects "LoanHouse$Reader" yX6_nameOf yX6_nameOf ∈ TBL := tb_5 _ (List.mem_of_getElem? (i := 16) rfl)
theorem w_167 : Cond.methodLink "LoanHouse$Reader" 125 yX6_alike ∈ TBL := tb_5 _ (List.mem_of_getElem? (i := 17) rfl)
theorem w_168 : Cond.code yX6_alike cX6_alike 5 (some .boolean) ∈ TBL := tb_5 _ (List.mem_of_getElem? (i := 18) rfl)
theorem w_169 : Cond.instanceMethod yX6_alike ∈ TBL := tb_5 _ (List.mem_of_getElem? (i := 19) rfl)
theorem w_170 : Cond.selects "LoanHouse$Reader" yX6_alike yX6_alike ∈ TBL := tb_5 _ (List.mem_of_getElem? (i := 20) rfl)
theorem w_171 : Cond.code yX6_takeTokens cX6_takeTokens 3 none ∈ TBL := tb_5 _ (List.mem_of_getElem? (i := 21) rfl)
theorem w_172 : Cond.instanceMethod yX6_takeTokens ∈ TBL := tb_5 _ (List.mem_of_getElem? (i := 22) rfl)
theorem w_173 : Cond.selects "LoanHouse$Reader" yX6_takeTokens yX6_takeTokens ∈ TBL := tb_5 _ (List.mem_of_getElem? (i := 23) rfl)
theorem w_174 : Cond.fieldLink "LoanHouse$Reader" 129 "LoanHouse$Reader" "tokens" "I" ∈ TBL := tb_5 _ (List.mem_of_getElem? (i := 24) rfl)
theorem w_175 : Cond.methodLink "LoanHouse$Reader" 132 yX6_skipBlanks ∈ TBL := tb_5 _ (List.mem_of_getElem? (i := 25) rfl)
theorem w_176 : Cond.code yX6_skipBlanks cX6_skipBlanks 5 none ∈ TBL := tb_5 _ (List.mem_of_getElem? (i := 26) rfl)
theorem w_177 : Cond.instanceMethod yX6_skipBlanks ∈ TBL := tb_5 _ (List.mem_of_getElem? (i := 27) rfl)
theorem w_178 : Cond.selects "LoanHouse$Reader" yX6_skipBlanks yX6_skipBlanks ∈ TBL := tb_5 _ (List.mem_of_getElem? (i := 28) rfl)
theorem w_179 : Cond.code yX6_advance cX6_advance 1 none ∈ TBL := tb_5 _ (List.mem_of_getElem? (i := 29) rfl)
theorem w_180 : Cond.instanceMethod yX6_advance ∈ TBL := tb_6 _ (List.mem_of_getElem? (i := 0) rfl)
theorem w_181 : Cond.selects "LoanHouse$Reader" yX6_advance yX6_advance ∈ TBL := tb_6 _ (List.mem_of_getElem? (i := 1) rfl)
theorem w_182 : Cond.code yX0_init cX0_init 2 none ∈ TBL := tb_6 _ (List.mem_of_getElem? (i := 2) rfl)
theorem w_183 : Cond.instanceMethod yX0_init ∈ TBL := tb_6 _ (List.mem_of_getElem? (i := 3) rfl)
theorem w_184 : Cond.methodLink "LoanHouse$Checker" 3 objectInit ∈ TBL := tb_6 _ (List.mem_of_getElem? (i := 4) rfl)
theorem w_185 : Cond.fieldLink "LoanHouse$Checker" 9 "LoanHouse$Checker" "tree" "LLoanHouse$Tree;" ∈ TBL := tb_6 _ (List.mem_of_getElem? (i := 5) rfl)
theorem w_186 : Cond.code yX0_check cX0_check 6 (some .int) ∈ TBL := tb_6 _ (List.mem_of_getElem? (i := 6) rfl)
theorem w_187 : Cond.instanceMethod yX0_check ∈ TBL := tb_6 _ (List.mem_of_getElem? (i := 7) rfl)
theorem w_188 : Cond.selects "LoanHouse$Checker" yX0_check yX0_check ∈ TBL := tb_6 _ (List.mem_of_getElem? (i := 8) rfl)
theorem w_189 : Cond.fieldLink "LoanHouse$Checker" 21 "LoanHouse$Checker" "types" "LLoanHouse$Types;" ∈ TBL := tb_6 _ (List.mem_of_getElem? (i := 9) rfl)
theorem w_190 : Cond.fieldLink "LoanHouse$Checker" 26 "LoanHouse$Checker" "functions" "LLoanHouse$Functions;" ∈ TBL := tb_6 _ (List.mem_of_getElem? (i := 10) rfl)
theorem w_191 : Cond.fieldLink "LoanHouse$Checker" 31 "LoanHouse$Checker" "variables" "LLoanHouse$Variables;" ∈ TBL := tb_6 _ (List.mem_of_getElem? (i := 11) rfl)
theorem w_192 : Cond.fieldLink "LoanHouse$Checker" 36 "LoanHouse$Checker" "places" "LLoanHouse$Places;" ∈ TBL := tb_6 _ (List.mem_of_getElem? (i := 12) rfl)
theorem w_193 : Cond.constant "LoanHouse$Checker" 37 (1073741824) ∈ TBL := tb_6 _ (List.mem_of_getElem? (i := 13) rfl)
theorem w_194 : Cond.fieldLink "LoanHouse$Checker" 38 "LoanHouse$Checker" "least" "I" ∈ TBL := tb_6 _ (List.mem_of_getElem? (i := 14) rfl)
theorem w_195 : Cond.methodLink "LoanHouse$Checker" 48 yX0_declareAll ∈ TBL := tb_6 _ (List.mem_of_getElem? (i := 15) rfl)
theorem w_196 : Cond.methodLink "LoanHouse$Checker" 67 yX0_measures ∈ TBL := tb_6 _ (List.mem_of_getElem? (i := 16) rfl)
theorem w_197 : Cond.methodLink "LoanHouse$Checker" 81 yX0_mainFunction ∈ TBL := tb_6 _ (List.mem_of_getElem? (i := 17) rfl)
theorem w_198 : Cond.code yX0_declareAll cX0_declareAll 4 none ∈ TBL := tb_6 _ (List.mem_of_getElem? (i := 18) rfl)
theorem w_199 : Cond.instanceMethod yX0_declareAll ∈ TBL := tb_6 _ (List.mem_of_getElem? (i := 19) rfl)
theorem w_200 : Cond.selects "LoanHouse$Checker" yX0_declareAll yX0_declareAll ∈ TBL := tb_6 _ (List.mem_of_getElem? (i := 20) rfl)
theorem w_201 : Cond.code yX0_measures cX0_measures 5 none ∈ TBL := tb_6 _ (List.mem_of_getElem? (i := 21) rfl)
theorem w_202 : Cond.instanceMethod yX0_measures ∈ TBL := tb_6 _ (List.mem_of_getElem? (i := 22) rfl)
theorem w_203 : Cond.selects "LoanHouse$Checker" yX0_measures yX0_measures ∈ TBL := tb_6 _ (List.mem_of_getElem? (i := 23) rfl)
theorem w_204 : Cond.methodLink "LoanHouse$Checker" 126 yX0_broken ∈ TBL := tb_6 _ (List.mem_of_getElem? (i := 24) rfl)
theorem w_205 : Cond.code yX0_mainFunction cX0_mainFunction 4 none ∈ TBL := tb_6 _ (List.mem_of_getElem? (i := 25) rfl)
theorem w_206 : Cond.instanceMethod yX0_mainFunction ∈ TBL := tb_6 _ (List.mem_of_getElem? (i := 26) rfl)
theorem w_207 : Cond.selects "LoanHouse$Checker" yX0_mainFunction yX0_mainFunction ∈ TBL := tb_6 _ (List.mem_of_getElem? (i := 27) rfl)
theorem w_208 : Cond.code yX0_broken cX0_broken 2 none ∈ TBL := tb_6 _ (List.mem_of_getElem? (i := 28) rfl)
theorem w_209 : Cond.instanceMethod yX0_broken ∈ TBL := tb_6 _ (List.mem_of_getElem? (i := 29) rfl)
theorem w_210 : Cond.selects "LoanHouse$Checker" yX0_broken yX0_broken ∈ TBL := tb_7 _ (List.mem_of_getElem? (i := 0) rfl)
theorem w_211 : Cond.methodLink "LoanHouse$Checker" 84 Lib.Math.min.name ∈ TBL := tb_7 _ (List.mem_of_getElem? (i := 1) rfl)
theorem w_212 : Cond.static Lib.Math.min.name ∈ TBL := tb_7 _ (List.mem_of_getElem? (i := 2) rfl)
theorem w_213 : Cond.code Lib.Math.min.name Lib.Math.min.code 2 (some .int) ∈ TBL := tb_7 _ (List.mem_of_getElem? (i := 3) rfl)
theorem w_214 : Cond.initialized "java/lang/Math" ∈ TBL := tb_7 _ (List.mem_of_getElem? (i := 4) rfl)
theorem w_215 : Cond.code yX1_init cX1_init 2 none ∈ TBL := tb_7 _ (List.mem_of_getElem? (i := 5) rfl)
theorem w_216 : Cond.instanceMethod yX1_init ∈ TBL := tb_7 _ (List.mem_of_getElem? (i := 6) rfl)
theorem w_217 : Cond.methodLink "LoanHouse$Emitter" 3 objectInit ∈ TBL := tb_7 _ (List.mem_of_getElem? (i := 7) rfl)
theorem w_218 : Cond.fieldLink "LoanHouse$Emitter" 9 "LoanHouse$Emitter" "tree" "LLoanHouse$Tree;" ∈ TBL := tb_7 _ (List.mem_of_getElem? (i := 8) rfl)
theorem w_219 : Cond.code yX11_init cX11_init 1 none ∈ TBL := tb_7 _ (List.mem_of_getElem? (i := 9) rfl)
theorem w_220 : Cond.instanceMethod yX11_init ∈ TBL := tb_7 _ (List.mem_of_getElem? (i := 10) rfl)
theorem w_221 : Cond.methodLink "LoanHouse$Ways" 5 objectInit ∈ TBL := tb_7 _ (List.mem_of_getElem? (i := 11) rfl)
theorem w_222 : Cond.fieldLink "LoanHouse$Ways" 11 "LoanHouse$Ways" "state" "[J" ∈ TBL := tb_7 _ (List.mem_of_getElem? (i := 12) rfl)
theorem w_223 : Cond.fieldLink "LoanHouse$Ways" 15 "LoanHouse$Ways" "labelState" "[J" ∈ TBL := tb_7 _ (List.mem_of_getElem? (i := 13) rfl)
theorem w_224 : Cond.arrayClass .boolean ∈ TBL := tb_7 _ (List.mem_of_getElem? (i := 14) rfl)
theorem w_225 : Cond.fieldLink "LoanHouse$Ways" 18 "LoanHouse$Ways" "labelCome" "[Z" ∈ TBL := tb_7 _ (List.mem_of_getElem? (i := 15) rfl)
theorem w_226 : Cond.fieldLink "LoanHouse$Ways" 22 "LoanHouse$Ways" "temps" "[J" ∈ TBL := tb_7 _ (List.mem_of_getElem? (i := 16) rfl)
theorem w_227 : Cond.fieldLink "LoanHouse$Ways" 25 "LoanHouse$Ways" "matched" "[J" ∈ TBL := tb_7 _ (List.mem_of_getElem? (i := 17) rfl)
theorem w_228 : Cond.fieldLink "LoanHouse$Ways" 28 "LoanHouse$Ways" "used" "[J" ∈ TBL := tb_7 _ (List.mem_of_getElem? (i := 18) rfl)
theorem w_229 : Cond.fieldLink "LoanHouse$Ways" 31 "LoanHouse$Ways" "met" "[Z" ∈ TBL := tb_7 _ (List.mem_of_getElem? (i := 19) rfl)
theorem w_230 : Cond.code yX3_init cX3_init 1 none ∈ TBL := tb_7 _ (List.mem_of_getElem? (i := 20) rfl)
theorem w_231 : Cond.instanceMethod yX3_init ∈ TBL := tb_7 _ (List.mem_of_getElem? (i := 21) rfl)
theorem w_232 : Cond.methodLink "LoanHouse$Machine" 3 objectInit ∈ TBL := tb_7 _ (List.mem_of_getElem? (i := 22) rfl)
theorem w_233 : Cond.classLink "LoanHouse$Machine" 9 "LoanHouse$Store" ∈ TBL := tb_7 _ (List.mem_of_getElem? (i := 23) rfl)
theorem w_234 : Cond.instantiable "LoanHouse$Store" 19 ∈ TBL := tb_7 _ (List.mem_of_getElem? (i := 24) rfl)
theorem w_235 : Cond.initialized "LoanHouse$Store" ∈ TBL := tb_7 _ (List.mem_of_getElem? (i := 25) rfl)
theorem w_236 : Cond.fieldLink "LoanHouse$Machine" 12 "LoanHouse$Machine" "store" "LLoanHouse$Store;" ∈ TBL := tb_7 _ (List.mem_of_getElem? (i := 26) rfl)
theorem w_237 : Cond.fieldLink "LoanHouse$Machine" 20 "LoanHouse$Machine" "waiting" "[[J" ∈ TBL := tb_7 _ (List.mem_of_getElem? (i := 27) rfl)
theorem w_238 : Cond.fieldLink "LoanHouse$Machine" 23 "LoanHouse$Machine" "parts" "[J" ∈ TBL := tb_7 _ (List.mem_of_getElem? (i := 28) rfl)
theorem w_239 : Cond.code yX7_init cX7_init 1 none ∈ TBL := tb_7 _ (List.mem_of_getElem? (i := 29) rfl)
theorem w_240 : Cond.instanceMethod yX7_init ∈ TBL := tb_8 _ (List.mem_of_getElem? (i := 0) rfl)
theorem w_241 : Cond.methodLink "LoanHouse$Store" 3 objectInit ∈ TBL := tb_8 _ (List.mem_of_getElem? (i := 1) rfl)
theorem w_242 : Cond.fieldLink "LoanHouse$Store" 9 "LoanHouse$Store" "cells" "[J" ∈ TBL := tb_8 _ (List.mem_of_getElem? (i := 2) rfl)
theorem w_243 : Cond.fieldLink "LoanHouse$Store" 15 "LoanHouse$Store" "boxUsed" "[Z" ∈ TBL := tb_8 _ (List.mem_of_getElem? (i := 3) rfl)
theorem w_244 : Cond.fieldLink "LoanHouse$Store" 19 "LoanHouse$Store" "rowUsed" "[Z" ∈ TBL := tb_8 _ (List.mem_of_getElem? (i := 4) rfl)
theorem w_245 : Cond.fieldLink "LoanHouse$Store" 22 "LoanHouse$Store" "rowLength" "[I" ∈ TBL := tb_8 _ (List.mem_of_getElem? (i := 5) rfl)
theorem w_246 : Cond.fieldLink "LoanHouse$Store" 26 "LoanHouse$Store" "outKind" "[I" ∈ TBL := tb_8 _ (List.mem_of_getElem? (i := 6) rfl)
theorem w_247 : Cond.fieldLink "LoanHouse$Store" 29 "LoanHouse$Store" "outNumber" "[J" ∈ TBL := tb_8 _ (List.mem_of_getElem? (i := 7) rfl)
theorem w_248 : Cond.fieldLink "LoanHouse$Store" 32 "LoanHouse$Store" "dropType" "[I" ∈ TBL := tb_8 _ (List.mem_of_getElem? (i := 8) rfl)
theorem w_249 : Cond.fieldLink "LoanHouse$Store" 35 "LoanHouse$Store" "dropAt" "[I" ∈ TBL := tb_8 _ (List.mem_of_getElem? (i := 9) rfl)
theorem w_250 : Cond.code yX5_init cX5_init 1 none ∈ TBL := tb_8 _ (List.mem_of_getElem? (i := 10) rfl)
theorem w_251 : Cond.instanceMethod yX5_init ∈ TBL := tb_8 _ (List.mem_of_getElem? (i := 11) rfl)
theorem w_252 : Cond.methodLink "LoanHouse$Program" 3 objectInit ∈ TBL := tb_8 _ (List.mem_of_getElem? (i := 12) rfl)
theorem w_253 : Cond.classLink "LoanHouse$Program" 9 "LoanHouse$Types" ∈ TBL := tb_8 _ (List.mem_of_getElem? (i := 13) rfl)
theorem w_254 : Cond.instantiable "LoanHouse$Types" 19 ∈ TBL := tb_8 _ (List.mem_of_getElem? (i := 14) rfl)
theorem w_255 : Cond.initialized "LoanHouse$Types" ∈ TBL := tb_8 _ (List.mem_of_getElem? (i := 15) rfl)
theorem w_256 : Cond.fieldLink "LoanHouse$Program" 12 "LoanHouse$Program" "types" "LLoanHouse$Types;" ∈ TBL := tb_8 _ (List.mem_of_getElem? (i := 16) rfl)
theorem w_257 : Cond.classLink "LoanHouse$Program" 18 "LoanHouse$Functions" ∈ TBL := tb_8 _ (List.mem_of_getElem? (i := 17) rfl)
theorem w_258 : Cond.instantiable "LoanHouse$Functions" 19 ∈ TBL := tb_8 _ (List.mem_of_getElem? (i := 18) rfl)
theorem w_259 : Cond.initialized "LoanHouse$Functions" ∈ TBL := tb_8 _ (List.mem_of_getElem? (i := 19) rfl)
theorem w_260 : Cond.fieldLink "LoanHouse$Program" 21 "LoanHouse$Program" "functions" "LLoanHouse$Functions;" ∈ TBL := tb_8 _ (List.mem_of_getElem? (i := 20) rfl)
theorem w_261 : Cond.classLink "LoanHouse$Program" 25 "LoanHouse$Variables" ∈ TBL := tb_8 _ (List.mem_of_getElem? (i := 21) rfl)
theorem w_262 : Cond.instantiable "LoanHouse$Variables" 12 ∈ TBL := tb_8 _ (List.mem_of_getElem? (i := 22) rfl)
theorem w_263 : Cond.initialized "LoanHouse$Variables" ∈ TBL := tb_8 _ (List.mem_of_getElem? (i := 23) rfl)
theorem w_264 : Cond.fieldLink "LoanHouse$Program" 28 "LoanHouse$Program" "variables" "LLoanHouse$Variables;" ∈ TBL := tb_8 _ (List.mem_of_getElem? (i := 24) rfl)
theorem w_265 : Cond.classLink "LoanHouse$Program" 32 "LoanHouse$Places" ∈ TBL := tb_8 _ (List.mem_of_getElem? (i := 25) rfl)
theorem w_266 : Cond.instantiable "LoanHouse$Places" 20 ∈ TBL := tb_8 _ (List.mem_of_getElem? (i := 26) rfl)
theorem w_267 : Cond.initialized "LoanHouse$Places" ∈ TBL := tb_8 _ (List.mem_of_getElem? (i := 27) rfl)
theorem w_268 : Cond.fieldLink "LoanHouse$Program" 35 "LoanHouse$Program" "places" "LLoanHouse$Places;" ∈ TBL := tb_8 _ (List.mem_of_getElem? (i := 28) rfl)
theorem w_269 : Cond.fieldLink "LoanHouse$Program" 39 "LoanHouse$Program" "op" "[I" ∈ TBL := tb_8 _ (List.mem_of_getElem? (i := 29) rfl)
theorem w_270 : Cond.fieldLink "LoanHouse$Program" 43 "LoanHouse$Program" "x" "[I" ∈ TBL := tb_9 _ (List.mem_of_getElem? (i := 0) rfl)
theorem w_271 : Cond.fieldLink "LoanHouse$Program" 46 "LoanHouse$Program" "y" "[I" ∈ TBL := tb_9 _ (List.mem_of_getElem? (i := 1) rfl)
theorem w_272 : Cond.fieldLink "LoanHouse$Program" 49 "LoanHouse$Program" "z" "[I" ∈ TBL := tb_9 _ (List.mem_of_getElem? (i := 2) rfl)
theorem w_273 : Cond.fieldLink "LoanHouse$Program" 52 "LoanHouse$Program" "pos" "[I" ∈ TBL := tb_9 _ (List.mem_of_getElem? (i := 3) rfl)
theorem w_274 : Cond.fieldLink "LoanHouse$Program" 55 "LoanHouse$Program" "label" "[I" ∈ TBL := tb_9 _ (List.mem_of_getElem? (i := 4) rfl)
theorem w_275 : Cond.fieldLink "LoanHouse$Program" 58 "LoanHouse$Program" "order" "[I" ∈ TBL := tb_9 _ (List.mem_of_getElem? (i := 5) rfl)
theorem w_276 : Cond.code yX5_clear cX5_clear 1 none ∈ TBL := tb_9 _ (List.mem_of_getElem? (i := 6) rfl)
theorem w_277 : Cond.instanceMethod yX5_clear ∈ TBL := tb_9 _ (List.mem_of_getElem? (i := 7) rfl)
theorem w_278 : Cond.selects "LoanHouse$Program" yX5_clear yX5_clear ∈ TBL := tb_9 _ (List.mem_of_getElem? (i := 8) rfl)
theorem w_279 : Cond.fieldLink "LoanHouse$Program" 67 "LoanHouse$Program" "slots" "I" ∈ TBL := tb_9 _ (List.mem_of_getElem? (i := 9) rfl)
theorem w_280 : Cond.fieldLink "LoanHouse$Program" 71 "LoanHouse$Program" "labels" "I" ∈ TBL := tb_9 _ (List.mem_of_getElem? (i := 10) rfl)
theorem w_281 : Cond.fieldLink "LoanHouse$Program" 74 "LoanHouse$Program" "matches" "I" ∈ TBL := tb_9 _ (List.mem_of_getElem? (i := 11) rfl)
theorem w_282 : Cond.fieldLink "LoanHouse$Program" 77 "LoanHouse$Program" "orders" "I" ∈ TBL := tb_9 _ (List.mem_of_getElem? (i := 12) rfl)
theorem w_283 : Cond.code yX9_init cX9_init 1 none ∈ TBL := tb_9 _ (List.mem_of_getElem? (i := 13) rfl)
theorem w_284 : Cond.instanceMethod yX9_init ∈ TBL := tb_9 _ (List.mem_of_getElem? (i := 14) rfl)
theorem w_285 : Cond.methodLink "LoanHouse$Types" 3 objectInit ∈ TBL := tb_9 _ (List.mem_of_getElem? (i := 15) rfl)
theorem w_286 : Cond.fieldLink "LoanHouse$Types" 9 "LoanHouse$Types" "kind" "[I" ∈ TBL := tb_9 _ (List.mem_of_getElem? (i := 16) rfl)
theorem w_287 : Cond.fieldLink "LoanHouse$Types" 15 "LoanHouse$Types" "arg" "[I" ∈ TBL := tb_9 _ (List.mem_of_getElem? (i := 17) rfl)
theorem w_288 : Cond.fieldLink "LoanHouse$Types" 18 "LoanHouse$Types" "declName" "[I" ∈ TBL := tb_9 _ (List.mem_of_getElem? (i := 18) rfl)
theorem w_289 : Cond.fieldLink "LoanHouse$Types" 21 "LoanHouse$Types" "declForm" "[I" ∈ TBL := tb_9 _ (List.mem_of_getElem? (i := 19) rfl)
theorem w_290 : Cond.fieldLink "LoanHouse$Types" 24 "LoanHouse$Types" "declFirst" "[I" ∈ TBL := tb_9 _ (List.mem_of_getElem? (i := 20) rfl)
theorem w_291 : Cond.fieldLink "LoanHouse$Types" 27 "LoanHouse$Types" "declWidth" "[I" ∈ TBL := tb_9 _ (List.mem_of_getElem? (i := 21) rfl)
theorem w_292 : Cond.fieldLink "LoanHouse$Types" 30 "LoanHouse$Types" "declCells" "[I" ∈ TBL := tb_9 _ (List.mem_of_getElem? (i := 22) rfl)
theorem w_293 : Cond.fieldLink "LoanHouse$Types" 33 "LoanHouse$Types" "declParts" "[I" ∈ TBL := tb_9 _ (List.mem_of_getElem? (i := 23) rfl)
theorem w_294 : Cond.fieldLink "LoanHouse$Types" 36 "LoanHouse$Types" "declLeaves" "[I" ∈ TBL := tb_9 _ (List.mem_of_getElem? (i := 24) rfl)
theorem w_295 : Cond.fieldLink "LoanHouse$Types" 39 "LoanHouse$Types" "variantName" "[I" ∈ TBL := tb_9 _ (List.mem_of_getElem? (i := 25) rfl)
theorem w_296 : Cond.fieldLink "LoanHouse$Types" 42 "LoanHouse$Types" "variantFirst" "[I" ∈ TBL := tb_9 _ (List.mem_of_getElem? (i := 26) rfl)
theorem w_297 : Cond.fieldLink "LoanHouse$Types" 45 "LoanHouse$Types" "variantWidth" "[I" ∈ TBL := tb_9 _ (List.mem_of_getElem? (i := 27) rfl)
theorem w_298 : Cond.fieldLink "LoanHouse$Types" 48 "LoanHouse$Types" "memberName" "[I" ∈ TBL := tb_9 _ (List.mem_of_getElem? (i := 28) rfl)
theorem w_299 : Cond.fieldLink "LoanHouse$Types" 51 "LoanHouse$Types" "memberType" "[I" ∈ TBL := tb_9 _ (List.mem_of_getElem? (i := 29) rfl)
theorem w_300 : Cond.fieldLink "LoanHouse$Types" 54 "LoanHouse$Types" "memberCell" "[I" ∈ TBL := tb_10 _ (List.mem_of_getElem? (i := 0) rfl)
theorem w_301 : Cond.code yX9_clear cX9_clear 1 none ∈ TBL := tb_10 _ (List.mem_of_getElem? (i := 1) rfl)
theorem w_302 : Cond.instanceMethod yX9_clear ∈ TBL := tb_10 _ (List.mem_of_getElem? (i := 2) rfl)
theorem w_303 : Cond.selects "LoanHouse$Types" yX9_clear yX9_clear ∈ TBL := tb_10 _ (List.mem_of_getElem? (i := 3) rfl)
theorem w_304 : Cond.fieldLink "LoanHouse$Types" 57 "LoanHouse$Types" "decls" "I" ∈ TBL := tb_10 _ (List.mem_of_getElem? (i := 4) rfl)
theorem w_305 : Cond.fieldLink "LoanHouse$Types" 61 "LoanHouse$Types" "variants" "I" ∈ TBL := tb_10 _ (List.mem_of_getElem? (i := 5) rfl)
theorem w_306 : Cond.fieldLink "LoanHouse$Types" 64 "LoanHouse$Types" "members" "I" ∈ TBL := tb_10 _ (List.mem_of_getElem? (i := 6) rfl)
theorem w_307 : Cond.fieldLink "LoanHouse$Types" 67 "LoanHouse$Types" "total" "I" ∈ TBL := tb_10 _ (List.mem_of_getElem? (i := 7) rfl)
theorem w_308 : Cond.code yX9_measure cX9_measure 4 none ∈ TBL := tb_10 _ (List.mem_of_getElem? (i := 8) rfl)
theorem w_309 : Cond.instanceMethod yX9_measure ∈ TBL := tb_10 _ (List.mem_of_getElem? (i := 9) rfl)
theorem w_310 : Cond.selects "LoanHouse$Types" yX9_measure yX9_measure ∈ TBL := tb_10 _ (List.mem_of_getElem? (i := 10) rfl)
theorem w_311 : Cond.code yX2_init cX2_init 1 none ∈ TBL := tb_10 _ (List.mem_of_getElem? (i := 11) rfl)
theorem w_312 : Cond.instanceMethod yX2_init ∈ TBL := tb_10 _ (List.mem_of_getElem? (i := 12) rfl)
theorem w_313 : Cond.methodLink "LoanHouse$Functions" 3 objectInit ∈ TBL := tb_10 _ (List.mem_of_getElem? (i := 13) rfl)
theorem w_314 : Cond.fieldLink "LoanHouse$Functions" 9 "LoanHouse$Functions" "name" "[I" ∈ TBL := tb_10 _ (List.mem_of_getElem? (i := 14) rfl)
theorem w_315 : Cond.fieldLink "LoanHouse$Functions" 15 "LoanHouse$Functions" "node" "[I" ∈ TBL := tb_10 _ (List.mem_of_getElem? (i := 15) rfl)
theorem w_316 : Cond.fieldLink "LoanHouse$Functions" 18 "LoanHouse$Functions" "result" "[I" ∈ TBL := tb_10 _ (List.mem_of_getElem? (i := 16) rfl)
theorem w_317 : Cond.fieldLink "LoanHouse$Functions" 21 "LoanHouse$Functions" "of" "[J" ∈ TBL := tb_10 _ (List.mem_of_getElem? (i := 17) rfl)
theorem w_318 : Cond.fieldLink "LoanHouse$Functions" 25 "LoanHouse$Functions" "params" "[I" ∈ TBL := tb_10 _ (List.mem_of_getElem? (i := 18) rfl)
theorem w_319 : Cond.fieldLink "LoanHouse$Functions" 28 "LoanHouse$Functions" "firstParam" "[I" ∈ TBL := tb_10 _ (List.mem_of_getElem? (i := 19) rfl)
theorem w_320 : Cond.fieldLink "LoanHouse$Functions" 31 "LoanHouse$Functions" "paramType" "[I" ∈ TBL := tb_10 _ (List.mem_of_getElem? (i := 20) rfl)
theorem w_321 : Cond.fieldLink "LoanHouse$Functions" 34 "LoanHouse$Functions" "firstVariable" "[I" ∈ TBL := tb_10 _ (List.mem_of_getElem? (i := 21) rfl)
theorem w_322 : Cond.fieldLink "LoanHouse$Functions" 37 "LoanHouse$Functions" "variables" "[I" ∈ TBL := tb_10 _ (List.mem_of_getElem? (i := 22) rfl)
theorem w_323 : Cond.fieldLink "LoanHouse$Functions" 40 "LoanHouse$Functions" "firstLeaf" "[I" ∈ TBL := tb_10 _ (List.mem_of_getElem? (i := 23) rfl)
theorem w_324 : Cond.fieldLink "LoanHouse$Functions" 43 "LoanHouse$Functions" "leaves" "[I" ∈ TBL := tb_10 _ (List.mem_of_getElem? (i := 24) rfl)
theorem w_325 : Cond.fieldLink "LoanHouse$Functions" 46 "LoanHouse$Functions" "splits" "[I" ∈ TBL := tb_10 _ (List.mem_of_getElem? (i := 25) rfl)
theorem w_326 : Cond.fieldLink "LoanHouse$Functions" 49 "LoanHouse$Functions" "firstLoan" "[I" ∈ TBL := tb_10 _ (List.mem_of_getElem? (i := 26) rfl)
theorem w_327 : Cond.fieldLink "LoanHouse$Functions" 52 "LoanHouse$Functions" "loans" "[I" ∈ TBL := tb_10 _ (List.mem_of_getElem? (i := 27) rfl)
theorem w_328 : Cond.fieldLink "LoanHouse$Functions" 55 "LoanHouse$Functions" "entry" "[I" ∈ TBL := tb_10 _ (List.mem_of_getElem? (i := 28) rfl)
theorem w_329 : Cond.fieldLink "LoanHouse$Functions" 58 "LoanHouse$Functions" "cells" "[I" ∈ TBL := tb_10 _ (List.mem_of_getElem? (i := 29) rfl)
theorem w_330 : Cond.code yX2_clear cX2_clear 1 none ∈ TBL := tb_11 _ (List.mem_of_getElem? (i := 0) rfl)
theorem w_331 : Cond.instanceMethod yX2_clear ∈ TBL := tb_11 _ (List.mem_of_getElem? (i := 1) rfl)
theorem w_332 : Cond.selects "LoanHouse$Functions" yX2_clear yX2_clear ∈ TBL := tb_11 _ (List.mem_of_getElem? (i := 2) rfl)
theorem w_333 : Cond.fieldLink "LoanHouse$Functions" 61 "LoanHouse$Functions" "total" "I" ∈ TBL := tb_11 _ (List.mem_of_getElem? (i := 3) rfl)
theorem w_334 : Cond.fieldLink "LoanHouse$Functions" 65 "LoanHouse$Functions" "paramTotal" "I" ∈ TBL := tb_11 _ (List.mem_of_getElem? (i := 4) rfl)
theorem w_335 : Cond.fieldLink "LoanHouse$Functions" 68 "LoanHouse$Functions" "main" "I" ∈ TBL := tb_11 _ (List.mem_of_getElem? (i := 5) rfl)
theorem w_336 : Cond.code yX10_init cX10_init 1 none ∈ TBL := tb_11 _ (List.mem_of_getElem? (i := 6) rfl)
theorem w_337 : Cond.instanceMethod yX10_init ∈ TBL := tb_11 _ (List.mem_of_getElem? (i := 7) rfl)
theorem w_338 : Cond.methodLink "LoanHouse$Variables" 3 objectInit ∈ TBL := tb_11 _ (List.mem_of_getElem? (i := 8) rfl)
theorem w_339 : Cond.fieldLink "LoanHouse$Variables" 9 "LoanHouse$Variables" "name" "[I" ∈ TBL := tb_11 _ (List.mem_of_getElem? (i := 9) rfl)
theorem w_340 : Cond.fieldLink "LoanHouse$Variables" 15 "LoanHouse$Variables" "pos" "[I" ∈ TBL := tb_11 _ (List.mem_of_getElem? (i := 10) rfl)
theorem w_341 : Cond.fieldLink "LoanHouse$Variables" 18 "LoanHouse$Variables" "type" "[I" ∈ TBL := tb_11 _ (List.mem_of_getElem? (i := 11) rfl)
theorem w_342 : Cond.fieldLink "LoanHouse$Variables" 21 "LoanHouse$Variables" "outer" "[I" ∈ TBL := tb_11 _ (List.mem_of_getElem? (i := 12) rfl)
theorem w_343 : Cond.fieldLink "LoanHouse$Variables" 24 "LoanHouse$Variables" "firstLeaf" "[I" ∈ TBL := tb_11 _ (List.mem_of_getElem? (i := 13) rfl)
theorem w_344 : Cond.fieldLink "LoanHouse$Variables" 27 "LoanHouse$Variables" "leafCount" "[I" ∈ TBL := tb_11 _ (List.mem_of_getElem? (i := 14) rfl)
theorem w_345 : Cond.fieldLink "LoanHouse$Variables" 30 "LoanHouse$Variables" "cell" "[I" ∈ TBL := tb_11 _ (List.mem_of_getElem? (i := 15) rfl)
theorem w_346 : Cond.fieldLink "LoanHouse$Variables" 33 "LoanHouse$Variables" "loans" "[J" ∈ TBL := tb_11 _ (List.mem_of_getElem? (i := 16) rfl)
theorem w_347 : Cond.fieldLink "LoanHouse$Variables" 37 "LoanHouse$Variables" "leafType" "[I" ∈ TBL := tb_11 _ (List.mem_of_getElem? (i := 17) rfl)
theorem w_348 : Cond.fieldLink "LoanHouse$Variables" 40 "LoanHouse$Variables" "leafCell" "[I" ∈ TBL := tb_11 _ (List.mem_of_getElem? (i := 18) rfl)
theorem w_349 : Cond.code yX10_clear cX10_clear 1 none ∈ TBL := tb_11 _ (List.mem_of_getElem? (i := 19) rfl)
theorem w_350 : Cond.instanceMethod yX10_clear ∈ TBL := tb_11 _ (List.mem_of_getElem? (i := 20) rfl)
theorem w_351 : Cond.selects "LoanHouse$Variables" yX10_clear yX10_clear ∈ TBL := tb_11 _ (List.mem_of_getElem? (i := 21) rfl)
theorem w_352 : Cond.fieldLink "LoanHouse$Variables" 43 "LoanHouse$Variables" "total" "I" ∈ TBL := tb_11 _ (List.mem_of_getElem? (i := 22) rfl)
theorem w_353 : Cond.fieldLink "LoanHouse$Variables" 47 "LoanHouse$Variables" "leaves" "I" ∈ TBL := tb_11 _ (List.mem_of_getElem? (i := 23) rfl)
theorem w_354 : Cond.code yX4_init cX4_init 1 none ∈ TBL := tb_11 _ (List.mem_of_getElem? (i := 24) rfl)
theorem w_355 : Cond.instanceMethod yX4_init ∈ TBL := tb_11 _ (List.mem_of_getElem? (i := 25) rfl)
theorem w_356 : Cond.methodLink "LoanHouse$Places" 3 objectInit ∈ TBL := tb_11 _ (List.mem_of_getElem? (i := 26) rfl)
theorem w_357 : Cond.fieldLink "LoanHouse$Places" 9 "LoanHouse$Places" "pos" "[I" ∈ TBL := tb_11 _ (List.mem_of_getElem? (i := 27) rfl)
theorem w_358 : Cond.fieldLink "LoanHouse$Places" 15 "LoanHouse$Places" "act" "[I" ∈ TBL := tb_11 _ (List.mem_of_getElem? (i := 28) rfl)
theorem w_359 : Cond.fieldLink "LoanHouse$Places" 18 "LoanHouse$Places" "fn" "[I" ∈ TBL := tb_11 _ (List.mem_of_getElem? (i := 29) rfl)
theorem w_360 : Cond.fieldLink "LoanHouse$Places" 21 "LoanHouse$Places" "variable" "[I" ∈ TBL := tb_12 _ (List.mem_of_getElem? (i := 0) rfl)
theorem w_361 : Cond.fieldLink "LoanHouse$Places" 24 "LoanHouse$Places" "type" "[I" ∈ TBL := tb_12 _ (List.mem_of_getElem? (i := 1) rfl)
theorem w_362 : Cond.fieldLink "LoanHouse$Places" 27 "LoanHouse$Places" "firstStep" "[I" ∈ TBL := tb_12 _ (List.mem_of_getElem? (i := 2) rfl)
theorem w_363 : Cond.fieldLink "LoanHouse$Places" 30 "LoanHouse$Places" "steps" "[I" ∈ TBL := tb_12 _ (List.mem_of_getElem? (i := 3) rfl)
theorem w_364 : Cond.fieldLink "LoanHouse$Places" 33 "LoanHouse$Places" "leaf" "[I" ∈ TBL := tb_12 _ (List.mem_of_getElem? (i := 4) rfl)
theorem w_365 : Cond.fieldLink "LoanHouse$Places" 36 "LoanHouse$Places" "leaves" "[I" ∈ TBL := tb_12 _ (List.mem_of_getElem? (i := 5) rfl)
theorem w_366 : Cond.fieldLink "LoanHouse$Places" 39 "LoanHouse$Places" "further" "[Z" ∈ TBL := tb_12 _ (List.mem_of_getElem? (i := 6) rfl)
theorem w_367 : Cond.fieldLink "LoanHouse$Places" 43 "LoanHouse$Places" "come" "[Z" ∈ TBL := tb_12 _ (List.mem_of_getElem? (i := 7) rfl)
theorem w_368 : Cond.fieldLink "LoanHouse$Places" 46 "LoanHouse$Places" "force" "[J" ∈ TBL := tb_12 _ (List.mem_of_getElem? (i := 8) rfl)
theorem w_369 : Cond.fieldLink "LoanHouse$Places" 50 "LoanHouse$Places" "stepKind" "[I" ∈ TBL := tb_12 _ (List.mem_of_getElem? (i := 9) rfl)
theorem w_370 : Cond.fieldLink "LoanHouse$Places" 53 "LoanHouse$Places" "stepCell" "[I" ∈ TBL := tb_12 _ (List.mem_of_getElem? (i := 10) rfl)
theorem w_371 : Cond.fieldLink "LoanHouse$Places" 56 "LoanHouse$Places" "stepPos" "[I" ∈ TBL := tb_12 _ (List.mem_of_getElem? (i := 11) rfl)
theorem w_372 : Cond.fieldLink "LoanHouse$Places" 59 "LoanHouse$Places" "loanPos" "[I" ∈ TBL := tb_12 _ (List.mem_of_getElem? (i := 12) rfl)
theorem w_373 : Cond.fieldLink "LoanHouse$Places" 62 "LoanHouse$Places" "loanPlace" "[I" ∈ TBL := tb_12 _ (List.mem_of_getElem? (i := 13) rfl)
theorem w_374 : Cond.code yX4_clear cX4_clear 1 none ∈ TBL := tb_12 _ (List.mem_of_getElem? (i := 14) rfl)
theorem w_375 : Cond.instanceMethod yX4_clear ∈ TBL := tb_12 _ (List.mem_of_getElem? (i := 15) rfl)
theorem w_376 : Cond.selects "LoanHouse$Places" yX4_clear yX4_clear ∈ TBL := tb_12 _ (List.mem_of_getElem? (i := 16) rfl)
theorem w_377 : Cond.fieldLink "LoanHouse$Places" 65 "LoanHouse$Places" "total" "I" ∈ TBL := tb_12 _ (List.mem_of_getElem? (i := 17) rfl)
theorem w_378 : Cond.fieldLink "LoanHouse$Places" 69 "LoanHouse$Places" "stepTotal" "I" ∈ TBL := tb_12 _ (List.mem_of_getElem? (i := 18) rfl)
theorem w_379 : Cond.fieldLink "LoanHouse$Places" 72 "LoanHouse$Places" "loans" "I" ∈ TBL := tb_12 _ (List.mem_of_getElem? (i := 19) rfl)
theorem w_380 : Cond.code yX30_init cX30_init 1 none ∈ TBL := tb_12 _ (List.mem_of_getElem? (i := 20) rfl)
theorem w_381 : Cond.initialized "LoanHouseModel" ∈ TBL := tb_12 _ (List.mem_of_getElem? (i := 21) rfl)
theorem w_382 : Cond.instanceMethod yX30_init ∈ TBL := tb_12 _ (List.mem_of_getElem? (i := 22) rfl)
theorem w_383 : Cond.methodLink "LoanHouseModel" 3 objectInit ∈ TBL := tb_12 _ (List.mem_of_getElem? (i := 23) rfl)
theorem w_384 : Cond.fieldLink "LoanHouseModel" 9 "LoanHouseModel" "text" "[B" ∈ TBL := tb_12 _ (List.mem_of_getElem? (i := 24) rfl)
theorem w_385 : Cond.fieldLink "LoanHouseModel" 13 "LoanHouseModel" "kindOf" "[I" ∈ TBL := tb_12 _ (List.mem_of_getElem? (i := 25) rfl)
theorem w_386 : Cond.fieldLink "LoanHouseModel" 17 "LoanHouseModel" "placeOf" "[I" ∈ TBL := tb_12 _ (List.mem_of_getElem? (i := 26) rfl)
theorem w_387 : Cond.fieldLink "LoanHouseModel" 20 "LoanHouseModel" "endOf" "[I" ∈ TBL := tb_12 _ (List.mem_of_getElem? (i := 27) rfl)
theorem w_388 : Cond.classLink "LoanHouseModel" 23 "java/lang/String" ∈ TBL := tb_12 _ (List.mem_of_getElem? (i := 28) rfl)
theorem w_389 : Cond.instantiable "java/lang/String" 4 ∈ TBL := tb_12 _ (List.mem_of_getElem? (i := 29) rfl)
theorem w_390 : Cond.initialized "java/lang/String" ∈ TBL := tb_13 _ (List.mem_of_getElem? (i := 0) rfl)
theorem w_391 : Cond.fieldLink "LoanHouseModel" 25 "LoanHouseModel" "wordOf" "[Ljava/lang/String;" ∈ TBL := tb_13 _ (List.mem_of_getElem? (i := 1) rfl)
theorem w_392 : Cond.fieldLink "LoanHouseModel" 29 "LoanHouseModel" "late" "[Ljava/lang/String;" ∈ TBL := tb_13 _ (List.mem_of_getElem? (i := 2) rfl)
theorem w_393 : Cond.classLink "LoanHouseModel" 32 "java/lang/StringBuilder" ∈ TBL := tb_13 _ (List.mem_of_getElem? (i := 3) rfl)
theorem w_394 : Cond.instantiable "java/lang/StringBuilder" 4 ∈ TBL := tb_13 _ (List.mem_of_getElem? (i := 4) rfl)
theorem w_395 : Cond.initialized "java/lang/StringBuilder" ∈ TBL := tb_13 _ (List.mem_of_getElem? (i := 5) rfl)
theorem w_396 : Cond.methodLink "LoanHouseModel" 34 yJ4_init_d00df ∈ TBL := tb_13 _ (List.mem_of_getElem? (i := 6) rfl)
theorem w_397 : Cond.fieldLink "LoanHouseModel" 37 "LoanHouseModel" "builder" "Ljava/lang/StringBuilder;" ∈ TBL := tb_13 _ (List.mem_of_getElem? (i := 7) rfl)
theorem w_398 : Cond.fieldLink "LoanHouseModel" 41 "LoanHouseModel" "ones" "[Ljava/lang/String;" ∈ TBL := tb_13 _ (List.mem_of_getElem? (i := 8) rfl)
theorem w_399 : Cond.classLink "LoanHouseModel" 44 "java/util/ArrayList" ∈ TBL := tb_13 _ (List.mem_of_getElem? (i := 9) rfl)
theorem w_400 : Cond.instantiable "java/util/ArrayList" 3 ∈ TBL := tb_13 _ (List.mem_of_getElem? (i := 10) rfl)
theorem w_401 : Cond.initialized "java/util/ArrayList" ∈ TBL := tb_13 _ (List.mem_of_getElem? (i := 11) rfl)
theorem w_402 : Cond.methodLink "LoanHouseModel" 46 yJx4a65c_init_da8c8 ∈ TBL := tb_13 _ (List.mem_of_getElem? (i := 12) rfl)
theorem w_403 : Cond.fieldLink "LoanHouseModel" 47 "LoanHouseModel" "exps" "Ljava/util/ArrayList;" ∈ TBL := tb_13 _ (List.mem_of_getElem? (i := 13) rfl)
theorem w_404 : Cond.fieldLink "LoanHouseModel" 51 "LoanHouseModel" "takenExps" "Ljava/util/ArrayList;" ∈ TBL := tb_13 _ (List.mem_of_getElem? (i := 14) rfl)
theorem w_405 : Cond.classLink "LoanHouseModel" 54 "LoanHouseModel$Type" ∈ TBL := tb_13 _ (List.mem_of_getElem? (i := 15) rfl)
theorem w_406 : Cond.instantiable "LoanHouseModel$Type" 3 ∈ TBL := tb_13 _ (List.mem_of_getElem? (i := 16) rfl)
theorem w_407 : Cond.initialized "LoanHouseModel$Type" ∈ TBL := tb_13 _ (List.mem_of_getElem? (i := 17) rfl)
theorem w_408 : Cond.methodLink "LoanHouseModel" 56 yX26_init ∈ TBL := tb_13 _ (List.mem_of_getElem? (i := 18) rfl)
theorem w_409 : Cond.fieldLink "LoanHouseModel" 59 "LoanHouseModel" "intType" "LLoanHouseModel$Type;" ∈ TBL := tb_13 _ (List.mem_of_getElem? (i := 19) rfl)
theorem w_410 : Cond.fieldLink "LoanHouseModel" 63 "LoanHouseModel" "boolType" "LLoanHouseModel$Type;" ∈ TBL := tb_13 _ (List.mem_of_getElem? (i := 20) rfl)
theorem w_411 : Cond.fieldLink "LoanHouseModel" 66 "LoanHouseModel" "scope" "Ljava/util/ArrayList;" ∈ TBL := tb_13 _ (List.mem_of_getElem? (i := 21) rfl)
theorem w_412 : Cond.fieldLink "LoanHouseModel" 69 "LoanHouseModel" "nodes" "Ljava/util/ArrayList;" ∈ TBL := tb_13 _ (List.mem_of_getElem? (i := 22) rfl)
theorem w_413 : Cond.fieldLink "LoanHouseModel" 72 "LoanHouseModel" "live" "Ljava/util/ArrayList;" ∈ TBL := tb_13 _ (List.mem_of_getElem? (i := 23) rfl)
theorem w_414 : Cond.fieldLink "LoanHouseModel" 75 "LoanHouseModel" "allNodes" "Ljava/util/ArrayList;" ∈ TBL := tb_13 _ (List.mem_of_getElem? (i := 24) rfl)
theorem w_415 : Cond.fieldLink "LoanHouseModel" 78 "LoanHouseModel" "takenNodes" "Ljava/util/ArrayList;" ∈ TBL := tb_13 _ (List.mem_of_getElem? (i := 25) rfl)
theorem w_416 : Cond.fieldLink "LoanHouseModel" 81 "LoanHouseModel" "all" "[J" ∈ TBL := tb_13 _ (List.mem_of_getElem? (i := 26) rfl)
theorem w_417 : Cond.fieldLink "LoanHouseModel" 85 "LoanHouseModel" "some" "[J" ∈ TBL := tb_13 _ (List.mem_of_getElem? (i := 27) rfl)
theorem w_418 : Cond.fieldLink "LoanHouseModel" 88 "LoanHouseModel" "used" "[J" ∈ TBL := tb_13 _ (List.mem_of_getElem? (i := 28) rfl)
theorem w_419 : Cond.fieldLink "LoanHouseModel" 91 "LoanHouseModel" "holds" "[J" ∈ TBL := tb_13 _ (List.mem_of_getElem? (i := 29) rfl)
theorem w_420 : Cond.fieldLink "LoanHouseModel" 94 "LoanHouseModel" "column" "[I" ∈ TBL := tb_14 _ (List.mem_of_getElem? (i := 0) rfl)
theorem w_421 : Cond.fieldLink "LoanHouseModel" 97 "LoanHouseModel" "mark" "[Z" ∈ TBL := tb_14 _ (List.mem_of_getElem? (i := 1) rfl)
theorem w_422 : Cond.fieldLink "LoanHouseModel" 101 "LoanHouseModel" "now" "[J" ∈ TBL := tb_14 _ (List.mem_of_getElem? (i := 2) rfl)
theorem w_423 : Cond.fieldLink "LoanHouseModel" 104 "LoanHouseModel" "forces" "[J" ∈ TBL := tb_14 _ (List.mem_of_getElem? (i := 3) rfl)
theorem w_424 : Cond.fieldLink "LoanHouseModel" 107 "LoanHouseModel" "entries" "Ljava/util/ArrayList;" ∈ TBL := tb_14 _ (List.mem_of_getElem? (i := 4) rfl)
theorem w_425 : Cond.fieldLink "LoanHouseModel" 110 "LoanHouseModel" "lastFault" "I" ∈ TBL := tb_14 _ (List.mem_of_getElem? (i := 5) rfl)
theorem w_426 : Cond.fieldLink "LoanHouseModel" 114 "LoanHouseModel" "lastPlace" "I" ∈ TBL := tb_14 _ (List.mem_of_getElem? (i := 6) rfl)
theorem w_427 : Cond.fieldLink "LoanHouseModel" 117 "LoanHouseModel" "lastOther" "I" ∈ TBL := tb_14 _ (List.mem_of_getElem? (i := 7) rfl)
theorem w_428 : Cond.fieldLink "LoanHouseModel" 120 "LoanHouseModel" "made" "Ljava/util/ArrayList;" ∈ TBL := tb_14 _ (List.mem_of_getElem? (i := 8) rfl)
theorem w_429 : Cond.fieldLink "LoanHouseModel" 123 "LoanHouseModel" "takenForces" "[J" ∈ TBL := tb_14 _ (List.mem_of_getElem? (i := 9) rfl)
theorem w_430 : Cond.fieldLink "LoanHouseModel" 126 "LoanHouseModel" "type" "[LLoanHouseModel$Type;" ∈ TBL := tb_14 _ (List.mem_of_getElem? (i := 10) rfl)
theorem w_431 : Cond.fieldLink "LoanHouseModel" 130 "LoanHouseModel" "num" "[J" ∈ TBL := tb_14 _ (List.mem_of_getElem? (i := 11) rfl)
theorem w_432 : Cond.fieldLink "LoanHouseModel" 133 "LoanHouseModel" "times" "[J" ∈ TBL := tb_14 _ (List.mem_of_getElem? (i := 12) rfl)
theorem w_433 : Cond.fieldLink "LoanHouseModel" 136 "LoanHouseModel" "tree" "[J" ∈ TBL := tb_14 _ (List.mem_of_getElem? (i := 13) rfl)
theorem w_434 : Cond.fieldLink "LoanHouseModel" 139 "LoanHouseModel" "kin" "[J" ∈ TBL := tb_14 _ (List.mem_of_getElem? (i := 14) rfl)
theorem w_435 : Cond.fieldLink "LoanHouseModel" 142 "LoanHouseModel" "by" "[J" ∈ TBL := tb_14 _ (List.mem_of_getElem? (i := 15) rfl)
theorem w_436 : Cond.constant "LoanHouseModel" 145 (65536) ∈ TBL := tb_14 _ (List.mem_of_getElem? (i := 16) rfl)
theorem w_437 : Cond.fieldLink "LoanHouseModel" 146 "LoanHouseModel" "lentOf" "[I" ∈ TBL := tb_14 _ (List.mem_of_getElem? (i := 17) rfl)
theorem w_438 : Cond.fieldLink "LoanHouseModel" 149 "LoanHouseModel" "heap" "[I" ∈ TBL := tb_14 _ (List.mem_of_getElem? (i := 18) rfl)
theorem w_439 : Cond.fieldLink "LoanHouseModel" 152 "LoanHouseModel" "outKind" "[I" ∈ TBL := tb_14 _ (List.mem_of_getElem? (i := 19) rfl)
theorem w_440 : Cond.fieldLink "LoanHouseModel" 155 "LoanHouseModel" "outNumber" "[J" ∈ TBL := tb_14 _ (List.mem_of_getElem? (i := 20) rfl)
theorem w_441 : Cond.fieldLink "LoanHouseModel" 158 "LoanHouseModel" "renamed" "[I" ∈ TBL := tb_14 _ (List.mem_of_getElem? (i := 21) rfl)
theorem w_442 : Cond.fieldLink "LoanHouseModel" 161 "LoanHouseModel" "gave" "[J" ∈ TBL := tb_14 _ (List.mem_of_getElem? (i := 22) rfl)
theorem w_443 : Cond.fieldLink "LoanHouseModel" 164 "LoanHouseModel" "stack" "[I" ∈ TBL := tb_14 _ (List.mem_of_getElem? (i := 23) rfl)
theorem w_444 : Cond.classLink "LoanHouseModel" 167 "LoanHouseModel$Fn" ∈ TBL := tb_14 _ (List.mem_of_getElem? (i := 24) rfl)
theorem w_445 : Cond.instantiable "LoanHouseModel$Fn" 17 ∈ TBL := tb_14 _ (List.mem_of_getElem? (i := 25) rfl)
theorem w_446 : Cond.initialized "LoanHouseModel$Fn" ∈ TBL := tb_14 _ (List.mem_of_getElem? (i := 26) rfl)
theorem w_447 : Cond.fieldLink "LoanHouseModel" 169 "LoanHouseModel" "callFn" "[LLoanHouseModel$Fn;" ∈ TBL := tb_14 _ (List.mem_of_getElem? (i := 27) rfl)
theorem w_448 : Cond.classLink "LoanHouseModel" 173 "LoanHouseModel$Node" ∈ TBL := tb_14 _ (List.mem_of_getElem? (i := 28) rfl)
theorem w_449 : Cond.instantiable "LoanHouseModel$Node" 15 ∈ TBL := tb_14 _ (List.mem_of_getElem? (i := 29) rfl)
theorem w_450 : Cond.initialized "LoanHouseModel$Node" ∈ TBL := tb_15 _ (List.mem_of_getElem? (i := 0) rfl)
theorem w_451 : Cond.fieldLink "LoanHouseModel" 175 "LoanHouseModel" "callBack" "[LLoanHouseModel$Node;" ∈ TBL := tb_15 _ (List.mem_of_getElem? (i := 1) rfl)
theorem w_452 : Cond.fieldLink "LoanHouseModel" 179 "LoanHouseModel" "callBase" "[I" ∈ TBL := tb_15 _ (List.mem_of_getElem? (i := 2) rfl)
theorem w_453 : Cond.fieldLink "LoanHouseModel" 182 "LoanHouseModel" "actives" "[I" ∈ TBL := tb_15 _ (List.mem_of_getElem? (i := 3) rfl)
theorem w_454 : Cond.fieldLink "LoanHouseModel" 185 "LoanHouseModel" "variable" "[I" ∈ TBL := tb_15 _ (List.mem_of_getElem? (i := 4) rfl)
theorem w_455 : Cond.fieldLink "LoanHouseModel" 188 "LoanHouseModel" "active" "[I" ∈ TBL := tb_15 _ (List.mem_of_getElem? (i := 5) rfl)
theorem w_456 : Cond.fieldLink "LoanHouseModel" 191 "LoanHouseModel" "keptParts" "[I" ∈ TBL := tb_15 _ (List.mem_of_getElem? (i := 6) rfl)
theorem w_457 : Cond.code yX30_feed cX30_feed 8 (some .int) ∈ TBL := tb_15 _ (List.mem_of_getElem? (i := 7) rfl)
theorem w_458 : Cond.instanceMethod yX30_feed ∈ TBL := tb_15 _ (List.mem_of_getElem? (i := 8) rfl)
theorem w_459 : Cond.selects "LoanHouseModel" yX30_feed yX30_feed ∈ TBL := tb_15 _ (List.mem_of_getElem? (i := 9) rfl)
theorem w_460 : Cond.fieldLink "LoanHouseModel" 1231 "LoanHouseModel" "textSize" "I" ∈ TBL := tb_15 _ (List.mem_of_getElem? (i := 10) rfl)
theorem w_461 : Cond.code yX30_judge cX30_judge 4 (some .int) ∈ TBL := tb_15 _ (List.mem_of_getElem? (i := 11) rfl)
theorem w_462 : Cond.instanceMethod yX30_judge ∈ TBL := tb_15 _ (List.mem_of_getElem? (i := 12) rfl)
theorem w_463 : Cond.selects "LoanHouseModel" yX30_judge yX30_judge ∈ TBL := tb_15 _ (List.mem_of_getElem? (i := 13) rfl)
theorem w_464 : Cond.fieldLink "LoanHouseModel" 291 "LoanHouseModel" "fault" "I" ∈ TBL := tb_15 _ (List.mem_of_getElem? (i := 14) rfl)
theorem w_465 : Cond.fieldLink "LoanHouseModel" 294 "LoanHouseModel" "faultPlace" "I" ∈ TBL := tb_15 _ (List.mem_of_getElem? (i := 15) rfl)
theorem w_466 : Cond.fieldLink "LoanHouseModel" 297 "LoanHouseModel" "otherPlace" "I" ∈ TBL := tb_15 _ (List.mem_of_getElem? (i := 16) rfl)
theorem w_467 : Cond.methodLink "LoanHouseModel" 1234 yX30_split ∈ TBL := tb_15 _ (List.mem_of_getElem? (i := 17) rfl)
theorem w_468 : Cond.fieldLink "LoanHouseModel" 284 "LoanHouseModel" "at" "I" ∈ TBL := tb_15 _ (List.mem_of_getElem? (i := 18) rfl)
theorem w_469 : Cond.fieldLink "LoanHouseModel" 313 "LoanHouseModel" "open" "I" ∈ TBL := tb_15 _ (List.mem_of_getElem? (i := 19) rfl)
theorem w_470 : Cond.classLink "LoanHouseModel" 400 "LoanHouseModel$Program" ∈ TBL := tb_15 _ (List.mem_of_getElem? (i := 20) rfl)
theorem w_471 : Cond.instantiable "LoanHouseModel$Program" 4 ∈ TBL := tb_15 _ (List.mem_of_getElem? (i := 21) rfl)
theorem w_472 : Cond.initialized "LoanHouseModel$Program" ∈ TBL := tb_15 _ (List.mem_of_getElem? (i := 22) rfl)
theorem w_473 : Cond.fieldLink "LoanHouseModel" 395 "LoanHouseModel" "program" "LLoanHouseModel$Program;" ∈ TBL := tb_15 _ (List.mem_of_getElem? (i := 23) rfl)
theorem w_474 : Cond.fieldLink "LoanHouseModel" 621 "LoanHouseModel" "expsUsed" "I" ∈ TBL := tb_15 _ (List.mem_of_getElem? (i := 24) rfl)
theorem w_475 : Cond.fieldLink "LoanHouseModel" 1010 "LoanHouseModel" "nodesUsed" "I" ∈ TBL := tb_15 _ (List.mem_of_getElem? (i := 25) rfl)
theorem w_476 : Cond.fieldLink "LoanHouseModel" 489 "LoanHouseModel" "inHand" "LLoanHouseModel$Fn;" ∈ TBL := tb_15 _ (List.mem_of_getElem? (i := 26) rfl)
theorem w_477 : Cond.methodLink "LoanHouseModel" 1238 yX30_readText ∈ TBL := tb_15 _ (List.mem_of_getElem? (i := 27) rfl)
theorem w_478 : Cond.methodLink "LoanHouseModel" 1241 yX30_ruleItems ∈ TBL := tb_15 _ (List.mem_of_getElem? (i := 28) rfl)
theorem w_479 : Cond.methodLink "LoanHouseModel" 1244 yX30_ruleFns ∈ TBL := tb_15 _ (List.mem_of_getElem? (i := 29) rfl)
theorem w_480 : Cond.fieldLink "LoanHouseModel" 1250 "LoanHouseModel" "taken" "LLoanHouseModel$Program;" ∈ TBL := tb_16 _ (List.mem_of_getElem? (i := 0) rfl)
theorem w_481 : Cond.fieldLink "LoanHouseModel" 1253 "LoanHouseModel" "wasRun" "Z" ∈ TBL := tb_16 _ (List.mem_of_getElem? (i := 1) rfl)
theorem w_482 : Cond.code yX30_split cX30_split 9 none ∈ TBL := tb_16 _ (List.mem_of_getElem? (i := 2) rfl)
theorem w_483 : Cond.instanceMethod yX30_split ∈ TBL := tb_16 _ (List.mem_of_getElem? (i := 3) rfl)
theorem w_484 : Cond.selects "LoanHouseModel" yX30_split yX30_split ∈ TBL := tb_16 _ (List.mem_of_getElem? (i := 4) rfl)
theorem w_485 : Cond.fieldLink "LoanHouseModel" 201 "LoanHouseModel" "tokens" "I" ∈ TBL := tb_16 _ (List.mem_of_getElem? (i := 5) rfl)
theorem w_486 : Cond.methodLink "LoanHouseModel" 263 yX30_token ∈ TBL := tb_16 _ (List.mem_of_getElem? (i := 6) rfl)
theorem w_487 : Cond.constantLong "LoanHouseModel" 274 (9223372036854775807) ∈ TBL := tb_16 _ (List.mem_of_getElem? (i := 7) rfl)
theorem w_488 : Cond.constantLong "LoanHouseModel" 276 (10) ∈ TBL := tb_16 _ (List.mem_of_getElem? (i := 8) rfl)
theorem w_489 : Cond.code yX30_token cX30_token 4 none ∈ TBL := tb_16 _ (List.mem_of_getElem? (i := 9) rfl)
theorem w_490 : Cond.instanceMethod yX30_token ∈ TBL := tb_16 _ (List.mem_of_getElem? (i := 10) rfl)
theorem w_491 : Cond.selects "LoanHouseModel" yX30_token yX30_token ∈ TBL := tb_16 _ (List.mem_of_getElem? (i := 11) rfl)
theorem w_492 : Cond.methodLink "LoanHouseModel" 210 yX30_known ∈ TBL := tb_16 _ (List.mem_of_getElem? (i := 12) rfl)
theorem w_493 : Cond.code yX30_known cX30_known 5 (some (.object "java/lang/String")) ∈ TBL := tb_16 _ (List.mem_of_getElem? (i := 13) rfl)
theorem w_494 : Cond.instanceMethod yX30_known ∈ TBL := tb_16 _ (List.mem_of_getElem? (i := 14) rfl)
theorem w_495 : Cond.selects "LoanHouseModel" yX30_known yX30_known ∈ TBL := tb_16 _ (List.mem_of_getElem? (i := 15) rfl)
theorem w_496 : Cond.methodLink "LoanHouseModel" 213 yX30_isLate ∈ TBL := tb_16 _ (List.mem_of_getElem? (i := 16) rfl)
theorem w_497 : Cond.methodLink "LoanHouseModel" 217 yX30_word ∈ TBL := tb_16 _ (List.mem_of_getElem? (i := 17) rfl)
theorem w_498 : Cond.code yX30_isLate cX30_isLate 5 (some .boolean) ∈ TBL := tb_16 _ (List.mem_of_getElem? (i := 18) rfl)
theorem w_499 : Cond.instanceMethod yX30_isLate ∈ TBL := tb_16 _ (List.mem_of_getElem? (i := 19) rfl)
theorem w_500 : Cond.selects "LoanHouseModel" yX30_isLate yX30_isLate ∈ TBL := tb_16 _ (List.mem_of_getElem? (i := 20) rfl)
theorem w_501 : Cond.methodLink "LoanHouseModel" 220 yJ0_length_8abf5 ∈ TBL := tb_16 _ (List.mem_of_getElem? (i := 21) rfl)
theorem w_502 : Cond.methodLink "LoanHouseModel" 224 yJ0_charAt_5068e ∈ TBL := tb_16 _ (List.mem_of_getElem? (i := 22) rfl)
theorem w_503 : Cond.code yX30_word cX30_word 4 (some (.object "java/lang/String")) ∈ TBL := tb_16 _ (List.mem_of_getElem? (i := 23) rfl)
theorem w_504 : Cond.instanceMethod yX30_word ∈ TBL := tb_16 _ (List.mem_of_getElem? (i := 24) rfl)
theorem w_505 : Cond.selects "LoanHouseModel" yX30_word yX30_word ∈ TBL := tb_16 _ (List.mem_of_getElem? (i := 25) rfl)
theorem w_506 : Cond.methodLink "LoanHouseModel" 228 yJ4_setLength_d00df ∈ TBL := tb_16 _ (List.mem_of_getElem? (i := 26) rfl)
theorem w_507 : Cond.methodLink "LoanHouseModel" 235 yJ4_toString_0e30d ∈ TBL := tb_16 _ (List.mem_of_getElem? (i := 27) rfl)
theorem w_508 : Cond.code yX30_readText cX30_readText 1 none ∈ TBL := tb_16 _ (List.mem_of_getElem? (i := 28) rfl)
theorem w_509 : Cond.instanceMethod yX30_readText ∈ TBL := tb_16 _ (List.mem_of_getElem? (i := 29) rfl)
theorem w_510 : Cond.selects "LoanHouseModel" yX30_readText yX30_readText ∈ TBL := tb_17 _ (List.mem_of_getElem? (i := 0) rfl)
theorem w_511 : Cond.methodLink "LoanHouseModel" 300 yX30_isOver ∈ TBL := tb_17 _ (List.mem_of_getElem? (i := 1) rfl)
theorem w_512 : Cond.code yX30_isOver cX30_isOver 1 (some .boolean) ∈ TBL := tb_17 _ (List.mem_of_getElem? (i := 2) rfl)
theorem w_513 : Cond.instanceMethod yX30_isOver ∈ TBL := tb_17 _ (List.mem_of_getElem? (i := 3) rfl)
theorem w_514 : Cond.selects "LoanHouseModel" yX30_isOver yX30_isOver ∈ TBL := tb_17 _ (List.mem_of_getElem? (i := 4) rfl)
theorem w_515 : Cond.code yX30_ruleItems cX30_ruleItems 5 none ∈ TBL := tb_17 _ (List.mem_of_getElem? (i := 5) rfl)
theorem w_516 : Cond.instanceMethod yX30_ruleItems ∈ TBL := tb_17 _ (List.mem_of_getElem? (i := 6) rfl)
theorem w_517 : Cond.selects "LoanHouseModel" yX30_ruleItems yX30_ruleItems ∈ TBL := tb_17 _ (List.mem_of_getElem? (i := 7) rfl)
theorem w_518 : Cond.fieldLink "LoanHouseModel" 399 "LoanHouseModel$Program" "items" "Ljava/util/ArrayList;" ∈ TBL := tb_17 _ (List.mem_of_getElem? (i := 8) rfl)
theorem w_519 : Cond.methodLink "LoanHouseModel" 404 yJx4a65c_size_8abf5 ∈ TBL := tb_17 _ (List.mem_of_getElem? (i := 9) rfl)
theorem w_520 : Cond.classLink "LoanHouseModel" 348 "LoanHouseModel$Item" ∈ TBL := tb_17 _ (List.mem_of_getElem? (i := 10) rfl)
theorem w_521 : Cond.instantiable "LoanHouseModel$Item" 13 ∈ TBL := tb_17 _ (List.mem_of_getElem? (i := 11) rfl)
theorem w_522 : Cond.initialized "LoanHouseModel$Item" ∈ TBL := tb_17 _ (List.mem_of_getElem? (i := 12) rfl)
theorem w_523 : Cond.fieldLink "LoanHouseModel" 351 "LoanHouseModel$Item" "first" "I" ∈ TBL := tb_17 _ (List.mem_of_getElem? (i := 13) rfl)
theorem w_524 : Cond.methodLink "LoanHouseModel" 746 yX30_wrong ∈ TBL := tb_17 _ (List.mem_of_getElem? (i := 14) rfl)
theorem w_525 : Cond.fieldLink "LoanHouseModel" 364 "LoanHouseModel$Item" "name" "Ljava/lang/String;" ∈ TBL := tb_17 _ (List.mem_of_getElem? (i := 15) rfl)
theorem w_526 : Cond.fieldLink "LoanHouseModel" 358 "LoanHouseModel$Item" "place" "I" ∈ TBL := tb_17 _ (List.mem_of_getElem? (i := 16) rfl)
theorem w_527 : Cond.fieldLink "LoanHouseModel" 383 "LoanHouseModel$Item" "fields" "Ljava/util/ArrayList;" ∈ TBL := tb_17 _ (List.mem_of_getElem? (i := 17) rfl)
theorem w_528 : Cond.classLink "LoanHouseModel" 441 "LoanHouseModel$Field" ∈ TBL := tb_17 _ (List.mem_of_getElem? (i := 18) rfl)
theorem w_529 : Cond.instantiable "LoanHouseModel$Field" 4 ∈ TBL := tb_17 _ (List.mem_of_getElem? (i := 19) rfl)
theorem w_530 : Cond.initialized "LoanHouseModel$Field" ∈ TBL := tb_17 _ (List.mem_of_getElem? (i := 20) rfl)
theorem w_531 : Cond.fieldLink "LoanHouseModel" 444 "LoanHouseModel$Field" "place" "I" ∈ TBL := tb_17 _ (List.mem_of_getElem? (i := 21) rfl)
theorem w_532 : Cond.fieldLink "LoanHouseModel" 445 "LoanHouseModel$Field" "name" "Ljava/lang/String;" ∈ TBL := tb_17 _ (List.mem_of_getElem? (i := 22) rfl)
theorem w_533 : Cond.fieldLink "LoanHouseModel" 448 "LoanHouseModel$Field" "told" "LLoanHouseModel$Told;" ∈ TBL := tb_17 _ (List.mem_of_getElem? (i := 23) rfl)
theorem w_534 : Cond.fieldLink "LoanHouseModel" 760 "LoanHouseModel$Field" "type" "LLoanHouseModel$Type;" ∈ TBL := tb_17 _ (List.mem_of_getElem? (i := 24) rfl)
theorem w_535 : Cond.fieldLink "LoanHouseModel" 418 "LoanHouseModel$Item" "variants" "Ljava/util/ArrayList;" ∈ TBL := tb_17 _ (List.mem_of_getElem? (i := 25) rfl)
theorem w_536 : Cond.fieldLink "LoanHouseModel" 369 "LoanHouseModel$Item" "isTold" "Z" ∈ TBL := tb_17 _ (List.mem_of_getElem? (i := 26) rfl)
theorem w_537 : Cond.fieldLink "LoanHouseModel" 769 "LoanHouseModel$Type" "kind" "I" ∈ TBL := tb_17 _ (List.mem_of_getElem? (i := 27) rfl)
theorem w_538 : Cond.fieldLink "LoanHouseModel" 773 "LoanHouseModel$Item" "isBad" "Z" ∈ TBL := tb_17 _ (List.mem_of_getElem? (i := 28) rfl)
theorem w_539 : Cond.fieldLink "LoanHouseModel" 776 "LoanHouseModel$Item" "size" "I" ∈ TBL := tb_17 _ (List.mem_of_getElem? (i := 29) rfl)
theorem w_540 : Cond.fieldLink "LoanHouseModel" 778 "LoanHouseModel$Item" "parts" "I" ∈ TBL := tb_18 _ (List.mem_of_getElem? (i := 0) rfl)
theorem w_541 : Cond.code yX30_ruleFns cX30_ruleFns 5 none ∈ TBL := tb_18 _ (List.mem_of_getElem? (i := 1) rfl)
theorem w_542 : Cond.instanceMethod yX30_ruleFns ∈ TBL := tb_18 _ (List.mem_of_getElem? (i := 2) rfl)
theorem w_543 : Cond.selects "LoanHouseModel" yX30_ruleFns yX30_ruleFns ∈ TBL := tb_18 _ (List.mem_of_getElem? (i := 3) rfl)
theorem w_544 : Cond.fieldLink "LoanHouseModel" 501 "LoanHouseModel$Program" "fns" "Ljava/util/ArrayList;" ∈ TBL := tb_18 _ (List.mem_of_getElem? (i := 4) rfl)
theorem w_545 : Cond.fieldLink "LoanHouseModel" 473 "LoanHouseModel$Fn" "first" "I" ∈ TBL := tb_18 _ (List.mem_of_getElem? (i := 5) rfl)
theorem w_546 : Cond.fieldLink "LoanHouseModel" 475 "LoanHouseModel$Fn" "name" "Ljava/lang/String;" ∈ TBL := tb_18 _ (List.mem_of_getElem? (i := 6) rfl)
theorem w_547 : Cond.methodLink "LoanHouseModel" 805 yX30_fnOf ∈ TBL := tb_18 _ (List.mem_of_getElem? (i := 7) rfl)
theorem w_548 : Cond.fieldLink "LoanHouseModel" 474 "LoanHouseModel$Fn" "place" "I" ∈ TBL := tb_18 _ (List.mem_of_getElem? (i := 8) rfl)
theorem w_549 : Cond.fieldLink "LoanHouseModel" 476 "LoanHouseModel$Fn" "params" "Ljava/util/ArrayList;" ∈ TBL := tb_18 _ (List.mem_of_getElem? (i := 9) rfl)
theorem w_550 : Cond.fieldLink "LoanHouseModel" 479 "LoanHouseModel$Fn" "told" "LLoanHouseModel$Told;" ∈ TBL := tb_18 _ (List.mem_of_getElem? (i := 10) rfl)
theorem w_551 : Cond.fieldLink "LoanHouseModel" 809 "LoanHouseModel$Fn" "result" "LLoanHouseModel$Type;" ∈ TBL := tb_18 _ (List.mem_of_getElem? (i := 11) rfl)
theorem w_552 : Cond.fieldLink "LoanHouseModel" 724 "LoanHouseModel$Program" "places" "Ljava/util/ArrayList;" ∈ TBL := tb_18 _ (List.mem_of_getElem? (i := 12) rfl)
theorem w_553 : Cond.classLink "LoanHouseModel" 717 "LoanHouseModel$Place" ∈ TBL := tb_18 _ (List.mem_of_getElem? (i := 13) rfl)
theorem w_554 : Cond.instantiable "LoanHouseModel$Place" 11 ∈ TBL := tb_18 _ (List.mem_of_getElem? (i := 14) rfl)
theorem w_555 : Cond.initialized "LoanHouseModel$Place" ∈ TBL := tb_18 _ (List.mem_of_getElem? (i := 15) rfl)
theorem w_556 : Cond.fieldLink "LoanHouseModel" 720 "LoanHouseModel$Place" "place" "I" ∈ TBL := tb_18 _ (List.mem_of_getElem? (i := 16) rfl)
theorem w_557 : Cond.code yX30_fnOf cX30_fnOf 3 (some (.object "LoanHouseModel$Fn")) ∈ TBL := tb_18 _ (List.mem_of_getElem? (i := 17) rfl)
theorem w_558 : Cond.instanceMethod yX30_fnOf ∈ TBL := tb_18 _ (List.mem_of_getElem? (i := 18) rfl)
theorem w_559 : Cond.selects "LoanHouseModel" yX30_fnOf yX30_fnOf ∈ TBL := tb_18 _ (List.mem_of_getElem? (i := 19) rfl)
theorem w_560 : Cond.code yX30_wrong cX30_wrong 2 none ∈ TBL := tb_18 _ (List.mem_of_getElem? (i := 20) rfl)
theorem w_561 : Cond.instanceMethod yX30_wrong ∈ TBL := tb_18 _ (List.mem_of_getElem? (i := 21) rfl)
theorem w_562 : Cond.selects "LoanHouseModel" yX30_wrong yX30_wrong ∈ TBL := tb_18 _ (List.mem_of_getElem? (i := 22) rfl)
theorem w_563 : Cond.methodLink "LoanHouseModel" 307 yX30_breaks ∈ TBL := tb_18 _ (List.mem_of_getElem? (i := 23) rfl)
theorem w_564 : Cond.code yX30_breaks cX30_breaks 4 none ∈ TBL := tb_18 _ (List.mem_of_getElem? (i := 24) rfl)
theorem w_565 : Cond.instanceMethod yX30_breaks ∈ TBL := tb_18 _ (List.mem_of_getElem? (i := 25) rfl)
theorem w_566 : Cond.selects "LoanHouseModel" yX30_breaks yX30_breaks ∈ TBL := tb_18 _ (List.mem_of_getElem? (i := 26) rfl)
theorem w_567 : Cond.code yX30_fault cX30_fault 2 (some .int) ∈ TBL := tb_18 _ (List.mem_of_getElem? (i := 27) rfl)
theorem w_568 : Cond.instanceMethod yX30_fault ∈ TBL := tb_18 _ (List.mem_of_getElem? (i := 28) rfl)
theorem w_569 : Cond.selects "LoanHouseModel" yX30_fault yX30_fault ∈ TBL := tb_18 _ (List.mem_of_getElem? (i := 29) rfl)
theorem w_570 : Cond.code yX30_give cX30_give 8 none ∈ TBL := tb_19 _ (List.mem_of_getElem? (i := 0) rfl)
theorem w_571 : Cond.instanceMethod yX30_give ∈ TBL := tb_19 _ (List.mem_of_getElem? (i := 1) rfl)
theorem w_572 : Cond.selects "LoanHouseModel" yX30_give yX30_give ∈ TBL := tb_19 _ (List.mem_of_getElem? (i := 2) rfl)
theorem w_573 : Cond.fieldLink "LoanHouseModel" 839 "LoanHouseModel$Var" "index" "I" ∈ TBL := tb_19 _ (List.mem_of_getElem? (i := 3) rfl)
theorem w_574 : Cond.fieldLink "LoanHouseModel" 1172 "LoanHouseModel" "columns" "I" ∈ TBL := tb_19 _ (List.mem_of_getElem? (i := 4) rfl)
theorem w_575 : Cond.constantLong "LoanHouseModel" 1117 (-1) ∈ TBL := tb_19 _ (List.mem_of_getElem? (i := 5) rfl)
theorem w_576 : Cond.code yX30_run cX30_run 4 (some .int) ∈ TBL := tb_19 _ (List.mem_of_getElem? (i := 6) rfl)
theorem w_577 : Cond.instanceMethod yX30_run ∈ TBL := tb_19 _ (List.mem_of_getElem? (i := 7) rfl)
theorem w_578 : Cond.selects "LoanHouseModel" yX30_run yX30_run ∈ TBL := tb_19 _ (List.mem_of_getElem? (i := 8) rfl)
theorem w_579 : Cond.constant "LoanHouseModel" 1545 (50000) ∈ TBL := tb_19 _ (List.mem_of_getElem? (i := 9) rfl)
theorem w_580 : Cond.fieldLink "LoanHouseModel" 1294 "LoanHouseModel" "pool" "I" ∈ TBL := tb_19 _ (List.mem_of_getElem? (i := 10) rfl)
theorem w_581 : Cond.fieldLink "LoanHouseModel" 1288 "LoanHouseModel" "spare" "I" ∈ TBL := tb_19 _ (List.mem_of_getElem? (i := 11) rfl)
theorem w_582 : Cond.fieldLink "LoanHouseModel" 1341 "LoanHouseModel" "time" "J" ∈ TBL := tb_19 _ (List.mem_of_getElem? (i := 12) rfl)
theorem w_583 : Cond.fieldLink "LoanHouseModel" 1401 "LoanHouseModel" "lends" "I" ∈ TBL := tb_19 _ (List.mem_of_getElem? (i := 13) rfl)
theorem w_584 : Cond.fieldLink "LoanHouseModel" 1359 "LoanHouseModel" "strays" "I" ∈ TBL := tb_19 _ (List.mem_of_getElem? (i := 14) rfl)
theorem w_585 : Cond.fieldLink "LoanHouseModel" 1387 "LoanHouseModel" "twices" "I" ∈ TBL := tb_19 _ (List.mem_of_getElem? (i := 15) rfl)
theorem w_586 : Cond.fieldLink "LoanHouseModel" 1417 "LoanHouseModel" "clashes" "I" ∈ TBL := tb_19 _ (List.mem_of_getElem? (i := 16) rfl)
theorem w_587 : Cond.fieldLink "LoanHouseModel" 1546 "LoanHouseModel" "lefts" "I" ∈ TBL := tb_19 _ (List.mem_of_getElem? (i := 17) rfl)
theorem w_588 : Cond.fieldLink "LoanHouseModel" 1375 "LoanHouseModel" "outs" "I" ∈ TBL := tb_19 _ (List.mem_of_getElem? (i := 18) rfl)
theorem w_589 : Cond.fieldLink "LoanHouseModel" 1477 "LoanHouseModel" "toldMade" "I" ∈ TBL := tb_19 _ (List.mem_of_getElem? (i := 19) rfl)
theorem w_590 : Cond.fieldLink "LoanHouseModel" 1393 "LoanHouseModel" "toldDropped" "I" ∈ TBL := tb_19 _ (List.mem_of_getElem? (i := 20) rfl)
theorem w_591 : Cond.fieldLink "LoanHouseModel" 1396 "LoanHouseModel" "boxes" "I" ∈ TBL := tb_19 _ (List.mem_of_getElem? (i := 21) rfl)
theorem w_592 : Cond.fieldLink "LoanHouseModel" 1399 "LoanHouseModel" "rows" "I" ∈ TBL := tb_19 _ (List.mem_of_getElem? (i := 22) rfl)
theorem w_593 : Cond.fieldLink "LoanHouseModel" 1480 "LoanHouseModel" "mostBoxes" "I" ∈ TBL := tb_19 _ (List.mem_of_getElem? (i := 23) rfl)
theorem w_594 : Cond.fieldLink "LoanHouseModel" 1486 "LoanHouseModel" "mostRows" "I" ∈ TBL := tb_19 _ (List.mem_of_getElem? (i := 24) rfl)
theorem w_595 : Cond.fieldLink "LoanHouseModel" 1496 "LoanHouseModel" "ended" "I" ∈ TBL := tb_19 _ (List.mem_of_getElem? (i := 25) rfl)
theorem w_596 : Cond.fieldLink "LoanHouseModel" 1425 "LoanHouseModel" "failWhy" "I" ∈ TBL := tb_19 _ (List.mem_of_getElem? (i := 26) rfl)
theorem w_597 : Cond.fieldLink "LoanHouseModel" 1428 "LoanHouseModel" "failPlace" "I" ∈ TBL := tb_19 _ (List.mem_of_getElem? (i := 27) rfl)
theorem w_598 : Cond.fieldLink "LoanHouseModel" 1493 "LoanHouseModel" "steps" "I" ∈ TBL := tb_19 _ (List.mem_of_getElem? (i := 28) rfl)
theorem w_599 : Cond.fieldLink "LoanHouseModel" 1499 "LoanHouseModel" "reads" "I" ∈ TBL := tb_19 _ (List.mem_of_getElem? (i := 29) rfl)
theorem w_600 : Cond.fieldLink "LoanHouseModel" 1422 "LoanHouseModel" "high" "I" ∈ TBL := tb_20 _ (List.mem_of_getElem? (i := 0) rfl)
theorem w_601 : Cond.fieldLink "LoanHouseModel" 1431 "LoanHouseModel" "calls" "I" ∈ TBL := tb_20 _ (List.mem_of_getElem? (i := 1) rfl)
theorem w_602 : Cond.fieldLink "LoanHouseModel" 504 "LoanHouseModel$Fn" "index" "I" ∈ TBL := tb_20 _ (List.mem_of_getElem? (i := 2) rfl)
theorem w_603 : Cond.code yX30_about cX30_about 2 (some .int) ∈ TBL := tb_20 _ (List.mem_of_getElem? (i := 3) rfl)
theorem w_604 : Cond.instanceMethod yX30_about ∈ TBL := tb_20 _ (List.mem_of_getElem? (i := 4) rfl)
theorem w_605 : Cond.selects "LoanHouseModel" yX30_about yX30_about ∈ TBL := tb_20 _ (List.mem_of_getElem? (i := 5) rfl)
theorem w_606 : Cond.code yX30_out cX30_out 4 none ∈ TBL := tb_20 _ (List.mem_of_getElem? (i := 6) rfl)
theorem w_607 : Cond.instanceMethod yX30_out ∈ TBL := tb_20 _ (List.mem_of_getElem? (i := 7) rfl)
theorem w_608 : Cond.selects "LoanHouseModel" yX30_out yX30_out ∈ TBL := tb_20 _ (List.mem_of_getElem? (i := 8) rfl)
theorem w_609 : Cond.code yX30_count cX30_count 2 (some .int) ∈ TBL := tb_20 _ (List.mem_of_getElem? (i := 9) rfl)
theorem w_610 : Cond.instanceMethod yX30_count ∈ TBL := tb_20 _ (List.mem_of_getElem? (i := 10) rfl)
theorem w_611 : Cond.selects "LoanHouseModel" yX30_count yX30_count ∈ TBL := tb_20 _ (List.mem_of_getElem? (i := 11) rfl)
theorem w_612 : Cond.fieldLink "LoanHouseModel" 1256 "LoanHouseModel$Program" "loans" "Ljava/util/ArrayList;" ∈ TBL := tb_20 _ (List.mem_of_getElem? (i := 12) rfl)
theorem w_613 : Cond.code yX30_place cX30_place 8 none ∈ TBL := tb_20 _ (List.mem_of_getElem? (i := 13) rfl)
theorem w_614 : Cond.instanceMethod yX30_place ∈ TBL := tb_20 _ (List.mem_of_getElem? (i := 14) rfl)
theorem w_615 : Cond.selects "LoanHouseModel" yX30_place yX30_place ∈ TBL := tb_20 _ (List.mem_of_getElem? (i := 15) rfl)
theorem w_616 : Cond.fieldLink "LoanHouseModel" 928 "LoanHouseModel$Place" "var" "LLoanHouseModel$Var;" ∈ TBL := tb_20 _ (List.mem_of_getElem? (i := 16) rfl)
theorem w_617 : Cond.classLink "LoanHouseModel" 827 "LoanHouseModel$Var" ∈ TBL := tb_20 _ (List.mem_of_getElem? (i := 17) rfl)
theorem w_618 : Cond.instantiable "LoanHouseModel$Var" 7 ∈ TBL := tb_20 _ (List.mem_of_getElem? (i := 18) rfl)
theorem w_619 : Cond.initialized "LoanHouseModel$Var" ∈ TBL := tb_20 _ (List.mem_of_getElem? (i := 19) rfl)
theorem w_620 : Cond.fieldLink "LoanHouseModel" 830 "LoanHouseModel$Var" "name" "Ljava/lang/String;" ∈ TBL := tb_20 _ (List.mem_of_getElem? (i := 20) rfl)
theorem w_621 : Cond.fieldLink "LoanHouseModel" 721 "LoanHouseModel$Place" "name" "Ljava/lang/String;" ∈ TBL := tb_20 _ (List.mem_of_getElem? (i := 21) rfl)
theorem w_622 : Cond.fieldLink "LoanHouseModel" 832 "LoanHouseModel$Var" "type" "LLoanHouseModel$Type;" ∈ TBL := tb_20 _ (List.mem_of_getElem? (i := 22) rfl)
theorem w_623 : Cond.fieldLink "LoanHouseModel" 741 "LoanHouseModel$Place" "parts" "Ljava/util/ArrayList;" ∈ TBL := tb_20 _ (List.mem_of_getElem? (i := 23) rfl)
theorem w_624 : Cond.classLink "LoanHouseModel" 731 "LoanHouseModel$Part" ∈ TBL := tb_20 _ (List.mem_of_getElem? (i := 24) rfl)
theorem w_625 : Cond.instantiable "LoanHouseModel$Part" 7 ∈ TBL := tb_20 _ (List.mem_of_getElem? (i := 25) rfl)
theorem w_626 : Cond.initialized "LoanHouseModel$Part" ∈ TBL := tb_20 _ (List.mem_of_getElem? (i := 26) rfl)
theorem w_627 : Cond.fieldLink "LoanHouseModel" 929 "LoanHouseModel$Part" "of" "LLoanHouseModel$Type;" ∈ TBL := tb_20 _ (List.mem_of_getElem? (i := 27) rfl)
theorem w_628 : Cond.fieldLink "LoanHouseModel" 736 "LoanHouseModel$Part" "kind" "I" ∈ TBL := tb_20 _ (List.mem_of_getElem? (i := 28) rfl)
theorem w_629 : Cond.fieldLink "LoanHouseModel" 739 "LoanHouseModel$Part" "index" "LLoanHouseModel$Exp;" ∈ TBL := tb_20 _ (List.mem_of_getElem? (i := 29) rfl)
theorem w_630 : Cond.fieldLink "LoanHouseModel" 665 "LoanHouseModel$Exp" "first" "I" ∈ TBL := tb_21 _ (List.mem_of_getElem? (i := 0) rfl)
theorem w_631 : Cond.fieldLink "LoanHouseModel" 801 "LoanHouseModel$Type" "item" "LLoanHouseModel$Item;" ∈ TBL := tb_21 _ (List.mem_of_getElem? (i := 1) rfl)
theorem w_632 : Cond.fieldLink "LoanHouseModel" 893 "LoanHouseModel$Exp" "type" "LLoanHouseModel$Type;" ∈ TBL := tb_21 _ (List.mem_of_getElem? (i := 2) rfl)
theorem w_633 : Cond.fieldLink "LoanHouseModel" 908 "LoanHouseModel$Place" "type" "LLoanHouseModel$Type;" ∈ TBL := tb_21 _ (List.mem_of_getElem? (i := 3) rfl)
theorem w_634 : Cond.fieldLink "LoanHouseModel" 937 "LoanHouseModel$Place" "act" "I" ∈ TBL := tb_21 _ (List.mem_of_getElem? (i := 4) rfl)
theorem w_635 : Cond.fieldLink "LoanHouseModel" 727 "LoanHouseModel$Place" "number" "I" ∈ TBL := tb_21 _ (List.mem_of_getElem? (i := 5) rfl)
theorem w_636 : Cond.code yX30_loan cX30_loan 4 (some .int) ∈ TBL := tb_21 _ (List.mem_of_getElem? (i := 6) rfl)
theorem w_637 : Cond.instanceMethod yX30_loan ∈ TBL := tb_21 _ (List.mem_of_getElem? (i := 7) rfl)
theorem w_638 : Cond.selects "LoanHouseModel" yX30_loan yX30_loan ∈ TBL := tb_21 _ (List.mem_of_getElem? (i := 8) rfl)
theorem w_639 : Cond.classLink "LoanHouseModel" 876 "LoanHouseModel$Loan" ∈ TBL := tb_21 _ (List.mem_of_getElem? (i := 9) rfl)
theorem w_640 : Cond.instantiable "LoanHouseModel$Loan" 6 ∈ TBL := tb_21 _ (List.mem_of_getElem? (i := 10) rfl)
theorem w_641 : Cond.initialized "LoanHouseModel$Loan" ∈ TBL := tb_21 _ (List.mem_of_getElem? (i := 11) rfl)
theorem w_642 : Cond.fieldLink "LoanHouseModel" 878 "LoanHouseModel$Loan" "sign" "I" ∈ TBL := tb_21 _ (List.mem_of_getElem? (i := 12) rfl)
theorem w_643 : Cond.fieldLink "LoanHouseModel" 980 "LoanHouseModel$Loan" "isSole" "Z" ∈ TBL := tb_21 _ (List.mem_of_getElem? (i := 13) rfl)
theorem w_644 : Cond.fieldLink "LoanHouseModel" 983 "LoanHouseModel$Loan" "place" "LLoanHouseModel$Place;" ∈ TBL := tb_21 _ (List.mem_of_getElem? (i := 14) rfl)
theorem w_645 : Cond.fieldLink "LoanHouseModel" 1223 "LoanHouseModel$Loan" "acts" "I" ∈ TBL := tb_21 _ (List.mem_of_getElem? (i := 15) rfl)
theorem w_646 : Cond.code yX30_force cX30_force 3 (some .int) ∈ TBL := tb_21 _ (List.mem_of_getElem? (i := 16) rfl)
theorem w_647 : Cond.instanceMethod yX30_force ∈ TBL := tb_21 _ (List.mem_of_getElem? (i := 17) rfl)
theorem w_648 : Cond.selects "LoanHouseModel" yX30_force yX30_force ∈ TBL := tb_21 _ (List.mem_of_getElem? (i := 18) rfl)
theorem w_649 : Cond.code yX30_function cX30_function 4 (some .int) ∈ TBL := tb_21 _ (List.mem_of_getElem? (i := 19) rfl)
theorem w_650 : Cond.instanceMethod yX30_function ∈ TBL := tb_21 _ (List.mem_of_getElem? (i := 20) rfl)
theorem w_651 : Cond.selects "LoanHouseModel" yX30_function yX30_function ∈ TBL := tb_21 _ (List.mem_of_getElem? (i := 21) rfl)
theorem w_652 : Cond.fieldLink "LoanHouseModel" 836 "LoanHouseModel$Fn" "vars" "Ljava/util/ArrayList;" ∈ TBL := tb_21 _ (List.mem_of_getElem? (i := 22) rfl)
theorem w_653 : Cond.fieldLink "LoanHouseModel" 840 "LoanHouseModel$Fn" "leaves" "I" ∈ TBL := tb_21 _ (List.mem_of_getElem? (i := 23) rfl)
theorem w_654 : Cond.fieldLink "LoanHouseModel" 1150 "LoanHouseModel$Fn" "torn" "I" ∈ TBL := tb_21 _ (List.mem_of_getElem? (i := 24) rfl)
theorem w_655 : Cond.fieldLink "LoanHouseModel" 873 "LoanHouseModel$Fn" "loans" "Ljava/util/ArrayList;" ∈ TBL := tb_21 _ (List.mem_of_getElem? (i := 25) rfl)
theorem w_656 : Cond.code yX30_size cX30_size 2 (some .int) ∈ TBL := tb_21 _ (List.mem_of_getElem? (i := 26) rfl)
theorem w_657 : Cond.instanceMethod yX30_size ∈ TBL := tb_21 _ (List.mem_of_getElem? (i := 27) rfl)
theorem w_658 : Cond.selects "LoanHouseModel" yX30_size yX30_size ∈ TBL := tb_21 _ (List.mem_of_getElem? (i := 28) rfl)
theorem w_659 : Cond.code yX30_strays cX30_strays 1 (some .int) ∈ TBL := tb_21 _ (List.mem_of_getElem? (i := 29) rfl)
theorem w_660 : Cond.instanceMethod yX30_strays ∈ TBL := tb_22 _ (List.mem_of_getElem? (i := 0) rfl)
theorem w_661 : Cond.selects "LoanHouseModel" yX30_strays yX30_strays ∈ TBL := tb_22 _ (List.mem_of_getElem? (i := 1) rfl)
theorem w_662 : Cond.code yX30_twices cX30_twices 1 (some .int) ∈ TBL := tb_22 _ (List.mem_of_getElem? (i := 2) rfl)
theorem w_663 : Cond.instanceMethod yX30_twices ∈ TBL := tb_22 _ (List.mem_of_getElem? (i := 3) rfl)
theorem w_664 : Cond.selects "LoanHouseModel" yX30_twices yX30_twices ∈ TBL := tb_22 _ (List.mem_of_getElem? (i := 4) rfl)
theorem w_665 : Cond.code yX30_lefts cX30_lefts 1 (some .int) ∈ TBL := tb_22 _ (List.mem_of_getElem? (i := 5) rfl)
theorem w_666 : Cond.instanceMethod yX30_lefts ∈ TBL := tb_22 _ (List.mem_of_getElem? (i := 6) rfl)
theorem w_667 : Cond.selects "LoanHouseModel" yX30_lefts yX30_lefts ∈ TBL := tb_22 _ (List.mem_of_getElem? (i := 7) rfl)
theorem w_668 : Cond.code yX30_clashes cX30_clashes 2 (some .boolean) ∈ TBL := tb_22 _ (List.mem_of_getElem? (i := 8) rfl)
theorem w_669 : Cond.static yX30_clashes ∈ TBL := tb_22 _ (List.mem_of_getElem? (i := 9) rfl)
theorem w_670 : Cond.code yX26_init cX26_init 4 none ∈ TBL := tb_22 _ (List.mem_of_getElem? (i := 10) rfl)
theorem w_671 : Cond.instanceMethod yX26_init ∈ TBL := tb_22 _ (List.mem_of_getElem? (i := 11) rfl)
theorem w_672 : Cond.methodLink "LoanHouseModel$Type" 3 objectInit ∈ TBL := tb_22 _ (List.mem_of_getElem? (i := 12) rfl)
theorem w_673 : Cond.fieldLink "LoanHouseModel$Type" 9 "LoanHouseModel$Type" "kind" "I" ∈ TBL := tb_22 _ (List.mem_of_getElem? (i := 13) rfl)
theorem w_674 : Cond.fieldLink "LoanHouseModel$Type" 15 "LoanHouseModel$Type" "item" "LLoanHouseModel$Item;" ∈ TBL := tb_22 _ (List.mem_of_getElem? (i := 14) rfl)
theorem w_675 : Cond.fieldLink "LoanHouseModel$Type" 19 "LoanHouseModel$Type" "of" "LLoanHouseModel$Type;" ∈ TBL := tb_22 _ (List.mem_of_getElem? (i := 15) rfl)
theorem w_676 : Cond.code yX23_init cX23_init 1 none ∈ TBL := tb_22 _ (List.mem_of_getElem? (i := 16) rfl)
theorem w_677 : Cond.instanceMethod yX23_init ∈ TBL := tb_22 _ (List.mem_of_getElem? (i := 17) rfl)
theorem w_678 : Cond.methodLink "LoanHouseModel$Program" 1 objectInit ∈ TBL := tb_22 _ (List.mem_of_getElem? (i := 18) rfl)
theorem w_679 : Cond.classLink "LoanHouseModel$Program" 7 "java/util/ArrayList" ∈ TBL := tb_22 _ (List.mem_of_getElem? (i := 19) rfl)
theorem w_680 : Cond.methodLink "LoanHouseModel$Program" 9 yJx4a65c_init_da8c8 ∈ TBL := tb_22 _ (List.mem_of_getElem? (i := 20) rfl)
theorem w_681 : Cond.fieldLink "LoanHouseModel$Program" 10 "LoanHouseModel$Program" "items" "Ljava/util/ArrayList;" ∈ TBL := tb_22 _ (List.mem_of_getElem? (i := 21) rfl)
theorem w_682 : Cond.fieldLink "LoanHouseModel$Program" 16 "LoanHouseModel$Program" "fns" "Ljava/util/ArrayList;" ∈ TBL := tb_22 _ (List.mem_of_getElem? (i := 22) rfl)
theorem w_683 : Cond.fieldLink "LoanHouseModel$Program" 19 "LoanHouseModel$Program" "places" "Ljava/util/ArrayList;" ∈ TBL := tb_22 _ (List.mem_of_getElem? (i := 23) rfl)
theorem w_684 : Cond.fieldLink "LoanHouseModel$Program" 22 "LoanHouseModel$Program" "loans" "Ljava/util/ArrayList;" ∈ TBL := tb_22 _ (List.mem_of_getElem? (i := 24) rfl)
theorem w_685 : Cond.code yJ5_init_d00df cJ5_init_d00df 2 none ∈ TBL := tb_22 _ (List.mem_of_getElem? (i := 25) rfl)
theorem w_686 : Cond.initialized "java/lang/AbstractStringBuilder" ∈ TBL := tb_22 _ (List.mem_of_getElem? (i := 26) rfl)
theorem w_687 : Cond.instanceMethod yJ5_init_d00df ∈ TBL := tb_22 _ (List.mem_of_getElem? (i := 27) rfl)
theorem w_688 : Cond.methodLink "java/lang/AbstractStringBuilder" 3 objectInit ∈ TBL := tb_22 _ (List.mem_of_getElem? (i := 28) rfl)
theorem w_689 : Cond.fieldLink "java/lang/AbstractStringBuilder" 18 "java/lang/String" "COMPACT_STRINGS" "Z" ∈ TBL := tb_22 _ (List.mem_of_getElem? (i := 29) rfl)
theorem w_690 : Cond.fieldLink "java/lang/AbstractStringBuilder" 15 "java/lang/AbstractStringBuilder" "value" "[B" ∈ TBL := tb_23 _ (List.mem_of_getElem? (i := 0) rfl)
theorem w_691 : Cond.fieldLink "java/lang/AbstractStringBuilder" 22 "java/lang/AbstractStringBuilder" "coder" "B" ∈ TBL := tb_23 _ (List.mem_of_getElem? (i := 1) rfl)
theorem w_692 : Cond.code yJ5_length_8abf5 cJ5_length_8abf5 1 (some .int) ∈ TBL := tb_23 _ (List.mem_of_getElem? (i := 2) rfl)
theorem w_693 : Cond.instanceMethod yJ5_length_8abf5 ∈ TBL := tb_23 _ (List.mem_of_getElem? (i := 3) rfl)
theorem w_694 : Cond.fieldLink "java/lang/AbstractStringBuilder" 79 "java/lang/AbstractStringBuilder" "count" "I" ∈ TBL := tb_23 _ (List.mem_of_getElem? (i := 4) rfl)
theorem w_695 : Cond.code yJ5_ensureCapacityInternal_d00df cJ5_ensureCapacityInternal_d00df 3 none ∈ TBL := tb_23 _ (List.mem_of_getElem? (i := 5) rfl)
theorem w_696 : Cond.instanceMethod yJ5_ensureCapacityInternal_d00df ∈ TBL := tb_23 _ (List.mem_of_getElem? (i := 6) rfl)
theorem w_697 : Cond.code yJ5_setLength_d00df cJ5_setLength_d00df 2 none ∈ TBL := tb_23 _ (List.mem_of_getElem? (i := 7) rfl)
theorem w_698 : Cond.instanceMethod yJ5_setLength_d00df ∈ TBL := tb_23 _ (List.mem_of_getElem? (i := 8) rfl)
theorem w_699 : Cond.methodLink "java/lang/AbstractStringBuilder" 100 yJ5_ensureCapacityInternal_d00df ∈ TBL := tb_23 _ (List.mem_of_getElem? (i := 9) rfl)
theorem w_700 : Cond.methodLink "java/lang/AbstractStringBuilder" 83 yJ5_isLatin1_aae02 ∈ TBL := tb_23 _ (List.mem_of_getElem? (i := 10) rfl)
theorem w_701 : Cond.fieldLink "java/lang/AbstractStringBuilder" 73 "java/lang/AbstractStringBuilder" "maybeLatin1" "Z" ∈ TBL := tb_23 _ (List.mem_of_getElem? (i := 11) rfl)
theorem w_702 : Cond.code yJ5_getValue_6d5f1 cJ5_getValue_6d5f1 1 (some (.array .byte)) ∈ TBL := tb_23 _ (List.mem_of_getElem? (i := 12) rfl)
theorem w_703 : Cond.instanceMethod yJ5_getValue_6d5f1 ∈ TBL := tb_23 _ (List.mem_of_getElem? (i := 13) rfl)
theorem w_704 : Cond.code yJ5_isLatin1_aae02 cJ5_isLatin1_aae02 1 (some .boolean) ∈ TBL := tb_23 _ (List.mem_of_getElem? (i := 14) rfl)
theorem w_705 : Cond.instanceMethod yJ5_isLatin1_aae02 ∈ TBL := tb_23 _ (List.mem_of_getElem? (i := 15) rfl)
theorem w_706 : Cond.code yJ4_init_d00df cJ4_init_d00df 2 none ∈ TBL := tb_23 _ (List.mem_of_getElem? (i := 16) rfl)
theorem w_707 : Cond.instanceMethod yJ4_init_d00df ∈ TBL := tb_23 _ (List.mem_of_getElem? (i := 17) rfl)
theorem w_708 : Cond.methodLink "java/lang/StringBuilder" 1 yJ5_init_d00df ∈ TBL := tb_23 _ (List.mem_of_getElem? (i := 18) rfl)
theorem w_709 : Cond.code yJ4_toString_0e30d cJ4_toString_0e30d 1 (some (.object "java/lang/String")) ∈ TBL := tb_23 _ (List.mem_of_getElem? (i := 19) rfl)
theorem w_710 : Cond.instanceMethod yJ4_toString_0e30d ∈ TBL := tb_23 _ (List.mem_of_getElem? (i := 20) rfl)
theorem w_711 : Cond.selects "java/lang/StringBuilder" yJ4_toString_0e30d yJ4_toString_0e30d ∈ TBL := tb_23 _ (List.mem_of_getElem? (i := 21) rfl)
theorem w_712 : Cond.classLink "java/lang/StringBuilder" 18 "java/lang/String" ∈ TBL := tb_23 _ (List.mem_of_getElem? (i := 22) rfl)
theorem w_713 : Cond.methodLink "java/lang/StringBuilder" 137 yJ0_init_81219 ∈ TBL := tb_23 _ (List.mem_of_getElem? (i := 23) rfl)
theorem w_714 : Cond.code yJ4_setLength_d00df cJ4_setLength_d00df 2 none ∈ TBL := tb_23 _ (List.mem_of_getElem? (i := 24) rfl)
theorem w_715 : Cond.instanceMethod yJ4_setLength_d00df ∈ TBL := tb_23 _ (List.mem_of_getElem? (i := 25) rfl)
theorem w_716 : Cond.selects "java/lang/StringBuilder" yJ4_setLength_d00df yJ4_setLength_d00df ∈ TBL := tb_23 _ (List.mem_of_getElem? (i := 26) rfl)
theorem w_717 : Cond.methodLink "java/lang/StringBuilder" 333 yJ5_setLength_d00df ∈ TBL := tb_23 _ (List.mem_of_getElem? (i := 27) rfl)
theorem w_718 : Cond.code yJ4_length_8abf5 cJ4_length_8abf5 1 (some .int) ∈ TBL := tb_23 _ (List.mem_of_getElem? (i := 28) rfl)
theorem w_719 : Cond.instanceMethod yJ4_length_8abf5 ∈ TBL := tb_23 _ (List.mem_of_getElem? (i := 29) rfl)
theorem w_720 : Cond.methodLink "java/lang/StringBuilder" 343 yJ5_length_8abf5 ∈ TBL := tb_24 _ (List.mem_of_getElem? (i := 0) rfl)
theorem w_721 : Cond.code yJ0_init_81219 cJ0_init_81219 2 none ∈ TBL := tb_24 _ (List.mem_of_getElem? (i := 1) rfl)
theorem w_722 : Cond.instanceMethod yJ0_init_81219 ∈ TBL := tb_24 _ (List.mem_of_getElem? (i := 2) rfl)
theorem w_723 : Cond.methodLink "java/lang/String" 489 yJ0_init_db425 ∈ TBL := tb_24 _ (List.mem_of_getElem? (i := 3) rfl)
theorem w_724 : Cond.code yJ0_init_db425 cJ0_init_db425 5 none ∈ TBL := tb_24 _ (List.mem_of_getElem? (i := 4) rfl)
theorem w_725 : Cond.instanceMethod yJ0_init_db425 ∈ TBL := tb_24 _ (List.mem_of_getElem? (i := 5) rfl)
theorem w_726 : Cond.methodLink "java/lang/String" 1 objectInit ∈ TBL := tb_24 _ (List.mem_of_getElem? (i := 6) rfl)
theorem w_727 : Cond.methodLink "java/lang/String" 552 yJ5_getValue_6d5f1 ∈ TBL := tb_24 _ (List.mem_of_getElem? (i := 7) rfl)
theorem w_728 : Cond.methodLink "java/lang/String" 549 yJ5_length_8abf5 ∈ TBL := tb_24 _ (List.mem_of_getElem? (i := 8) rfl)
theorem w_729 : Cond.methodLink "java/lang/String" 1047 yJ5_isLatin1_aae02 ∈ TBL := tb_24 _ (List.mem_of_getElem? (i := 9) rfl)
theorem w_730 : Cond.fieldLink "java/lang/String" 15 "java/lang/String" "coder" "B" ∈ TBL := tb_24 _ (List.mem_of_getElem? (i := 10) rfl)
theorem w_731 : Cond.methodLink "java/lang/String" 54 yJ7_copyOfRange_39247 ∈ TBL := tb_24 _ (List.mem_of_getElem? (i := 11) rfl)
theorem w_732 : Cond.fieldLink "java/lang/String" 9 "java/lang/String" "value" "[B" ∈ TBL := tb_24 _ (List.mem_of_getElem? (i := 12) rfl)
theorem w_733 : Cond.fieldLink "java/lang/String" 38 "java/lang/String" "COMPACT_STRINGS" "Z" ∈ TBL := tb_24 _ (List.mem_of_getElem? (i := 13) rfl)
theorem w_734 : Cond.fieldLink "java/lang/String" 1048 "java/lang/AbstractStringBuilder" "maybeLatin1" "Z" ∈ TBL := tb_24 _ (List.mem_of_getElem? (i := 14) rfl)
theorem w_735 : Cond.code yJ0_length_8abf5 cJ0_length_8abf5 1 (some .int) ∈ TBL := tb_24 _ (List.mem_of_getElem? (i := 15) rfl)
theorem w_736 : Cond.instanceMethod yJ0_length_8abf5 ∈ TBL := tb_24 _ (List.mem_of_getElem? (i := 16) rfl)
theorem w_737 : Cond.selects "java/lang/String" yJ0_length_8abf5 yJ0_length_8abf5 ∈ TBL := tb_24 _ (List.mem_of_getElem? (i := 17) rfl)
theorem w_738 : Cond.methodLink "java/lang/String" 335 yJ0_coder_7d493 ∈ TBL := tb_24 _ (List.mem_of_getElem? (i := 18) rfl)
theorem w_739 : Cond.code yJ0_charAt_5068e cJ0_charAt_5068e 2 (some .char) ∈ TBL := tb_24 _ (List.mem_of_getElem? (i := 19) rfl)
theorem w_740 : Cond.instanceMethod yJ0_charAt_5068e ∈ TBL := tb_24 _ (List.mem_of_getElem? (i := 20) rfl)
theorem w_741 : Cond.selects "java/lang/String" yJ0_charAt_5068e yJ0_charAt_5068e ∈ TBL := tb_24 _ (List.mem_of_getElem? (i := 21) rfl)
theorem w_742 : Cond.methodLink "java/lang/String" 492 yJ0_isLatin1_aae02 ∈ TBL := tb_24 _ (List.mem_of_getElem? (i := 22) rfl)
theorem w_743 : Cond.methodLink "java/lang/String" 495 yJ1_charAt_3b067 ∈ TBL := tb_24 _ (List.mem_of_getElem? (i := 23) rfl)
theorem w_744 : Cond.code yJ0_coder_7d493 cJ0_coder_7d493 1 (some .byte) ∈ TBL := tb_24 _ (List.mem_of_getElem? (i := 24) rfl)
theorem w_745 : Cond.instanceMethod yJ0_coder_7d493 ∈ TBL := tb_24 _ (List.mem_of_getElem? (i := 25) rfl)
theorem w_746 : Cond.selects "java/lang/String" yJ0_coder_7d493 yJ0_coder_7d493 ∈ TBL := tb_24 _ (List.mem_of_getElem? (i := 26) rfl)
theorem w_747 : Cond.code yJ0_isLatin1_aae02 cJ0_isLatin1_aae02 1 (some .boolean) ∈ TBL := tb_24 _ (List.mem_of_getElem? (i := 27) rfl)
theorem w_748 : Cond.instanceMethod yJ0_isLatin1_aae02 ∈ TBL := tb_24 _ (List.mem_of_getElem? (i := 28) rfl)
theorem w_749 : Cond.selects "java/lang/String" yJ0_isLatin1_aae02 yJ0_isLatin1_aae02 ∈ TBL := tb_24 _ (List.mem_of_getElem? (i := 29) rfl)
theorem w_750 : Cond.code yJ0_checkIndex_df160 cJ0_checkIndex_df160 2 none ∈ TBL := tb_25 _ (List.mem_of_getElem? (i := 0) rfl)
theorem w_751 : Cond.static yJ0_checkIndex_df160 ∈ TBL := tb_25 _ (List.mem_of_getElem? (i := 1) rfl)
theorem w_752 : Cond.fieldLink "java/lang/String" 1053 "jdk/internal/util/Preconditions" "SIOOBE_FORMATTER" "Ljava/util/function/BiFunction;" ∈ TBL := tb_25 _ (List.mem_of_getElem? (i := 2) rfl)
theorem w_753 : Cond.methodLink "java/lang/String" 1059 yJ3_checkIndex_8e157 ∈ TBL := tb_25 _ (List.mem_of_getElem? (i := 3) rfl)
theorem w_754 : Cond.code yJ1_charAt_3b067 cJ1_charAt_3b067 2 (some .char) ∈ TBL := tb_25 _ (List.mem_of_getElem? (i := 4) rfl)
theorem w_755 : Cond.initialized "java/lang/StringLatin1" ∈ TBL := tb_25 _ (List.mem_of_getElem? (i := 5) rfl)
theorem w_756 : Cond.static yJ1_charAt_3b067 ∈ TBL := tb_25 _ (List.mem_of_getElem? (i := 6) rfl)
theorem w_757 : Cond.methodLink "java/lang/StringLatin1" 9 yJ0_checkIndex_df160 ∈ TBL := tb_25 _ (List.mem_of_getElem? (i := 7) rfl)
theorem w_758 : Cond.code yJ3_checkIndex_8e157 cJ3_checkIndex_8e157 3 (some .int) ∈ TBL := tb_25 _ (List.mem_of_getElem? (i := 8) rfl)
theorem w_759 : Cond.initialized "jdk/internal/util/Preconditions" ∈ TBL := tb_25 _ (List.mem_of_getElem? (i := 9) rfl)
theorem w_760 : Cond.static yJ3_checkIndex_8e157 ∈ TBL := tb_25 _ (List.mem_of_getElem? (i := 10) rfl)
theorem w_761 : Cond.code yJ7_copyOfRange_39247 cJ7_copyOfRange_39247 3 (some (.array .byte)) ∈ TBL := tb_25 _ (List.mem_of_getElem? (i := 11) rfl)
theorem w_762 : Cond.initialized "java/util/Arrays" ∈ TBL := tb_25 _ (List.mem_of_getElem? (i := 12) rfl)
theorem w_763 : Cond.static yJ7_copyOfRange_39247 ∈ TBL := tb_25 _ (List.mem_of_getElem? (i := 13) rfl)
theorem w_764 : Cond.methodLink "java/util/Arrays" 339 yJ7_copyOfRangeByte_39247 ∈ TBL := tb_25 _ (List.mem_of_getElem? (i := 14) rfl)
theorem w_765 : Cond.classLink "java/util/Arrays" 311 "[B" ∈ TBL := tb_25 _ (List.mem_of_getElem? (i := 15) rfl)
theorem w_766 : Cond.code yJ7_copyOfRangeByte_39247 cJ7_copyOfRangeByte_39247 5 (some (.array .byte)) ∈ TBL := tb_25 _ (List.mem_of_getElem? (i := 16) rfl)
theorem w_767 : Cond.static yJ7_copyOfRangeByte_39247 ∈ TBL := tb_25 _ (List.mem_of_getElem? (i := 17) rfl)
theorem w_768 : Cond.methodLink "java/util/Arrays" 304 Lib.Math.min.name ∈ TBL := tb_25 _ (List.mem_of_getElem? (i := 18) rfl)
theorem w_769 : Cond.methodLink "java/util/Arrays" 150 arraycopyName ∈ TBL := tb_25 _ (List.mem_of_getElem? (i := 19) rfl)
theorem w_770 : Cond.code yJxa1e45_init_da8c8 cJxa1e45_init_da8c8 1 none ∈ TBL := tb_25 _ (List.mem_of_getElem? (i := 20) rfl)
theorem w_771 : Cond.initialized "java/util/AbstractCollection" ∈ TBL := tb_25 _ (List.mem_of_getElem? (i := 21) rfl)
theorem w_772 : Cond.instanceMethod yJxa1e45_init_da8c8 ∈ TBL := tb_25 _ (List.mem_of_getElem? (i := 22) rfl)
theorem w_773 : Cond.methodLink "java/util/AbstractCollection" 1 objectInit ∈ TBL := tb_25 _ (List.mem_of_getElem? (i := 23) rfl)
theorem w_774 : Cond.code yJxc12de_init_da8c8 cJxc12de_init_da8c8 1 none ∈ TBL := tb_25 _ (List.mem_of_getElem? (i := 24) rfl)
theorem w_775 : Cond.initialized "java/util/AbstractList" ∈ TBL := tb_25 _ (List.mem_of_getElem? (i := 25) rfl)
theorem w_776 : Cond.instanceMethod yJxc12de_init_da8c8 ∈ TBL := tb_25 _ (List.mem_of_getElem? (i := 26) rfl)
theorem w_777 : Cond.methodLink "java/util/AbstractList" 1 yJxa1e45_init_da8c8 ∈ TBL := tb_25 _ (List.mem_of_getElem? (i := 27) rfl)
theorem w_778 : Cond.fieldLink "java/util/AbstractList" 7 "java/util/AbstractList" "modCount" "I" ∈ TBL := tb_25 _ (List.mem_of_getElem? (i := 28) rfl)
theorem w_779 : Cond.code yJx4a65c_init_da8c8 cJx4a65c_init_da8c8 1 none ∈ TBL := tb_25 _ (List.mem_of_getElem? (i := 29) rfl)
theorem w_780 : Cond.instanceMethod yJx4a65c_init_da8c8 ∈ TBL := tb_26 _ (List.mem_of_getElem? (i := 0) rfl)
theorem w_781 : Cond.methodLink "java/util/ArrayList" 1 yJxc12de_init_da8c8 ∈ TBL := tb_26 _ (List.mem_of_getElem? (i := 1) rfl)
theorem w_782 : Cond.fieldLink "java/util/ArrayList" 39 "java/util/ArrayList" "DEFAULTCAPACITY_EMPTY_ELEMENTDATA" "[Ljava/lang/Object;" ∈ TBL := tb_26 _ (List.mem_of_getElem? (i := 2) rfl)
theorem w_783 : Cond.fieldLink "java/util/ArrayList" 9 "java/util/ArrayList" "elementData" "[Ljava/lang/Object;" ∈ TBL := tb_26 _ (List.mem_of_getElem? (i := 3) rfl)
theorem w_784 : Cond.code yJx4a65c_size_8abf5 cJx4a65c_size_8abf5 1 (some .int) ∈ TBL := tb_26 _ (List.mem_of_getElem? (i := 4) rfl)
theorem w_785 : Cond.instanceMethod yJx4a65c_size_8abf5 ∈ TBL := tb_26 _ (List.mem_of_getElem? (i := 5) rfl)
theorem w_786 : Cond.selects "java/util/ArrayList" yJx4a65c_size_8abf5 yJx4a65c_size_8abf5 ∈ TBL := tb_26 _ (List.mem_of_getElem? (i := 6) rfl)
theorem w_787 : Cond.fieldLink "java/util/ArrayList" 48 "java/util/ArrayList" "size" "I" ∈ TBL := tb_26 _ (List.mem_of_getElem? (i := 7) rfl)
theorem w_788 : Cond.classLink "LoanHouseLaw" 7 "LoanHouse" ∈ TBL := tb_26 _ (List.mem_of_getElem? (i := 8) rfl)
theorem w_789 : Cond.instantiable "LoanHouse" 17 ∈ TBL := tb_26 _ (List.mem_of_getElem? (i := 9) rfl)
theorem w_790 : Cond.methodLink "LoanHouseLaw" 9 yX12_init ∈ TBL := tb_26 _ (List.mem_of_getElem? (i := 10) rfl)
theorem w_791 : Cond.classLink "LoanHouseLaw" 10 "LoanHouseModel" ∈ TBL := tb_26 _ (List.mem_of_getElem? (i := 11) rfl)
theorem w_792 : Cond.instantiable "LoanHouseModel" 95 ∈ TBL := tb_26 _ (List.mem_of_getElem? (i := 12) rfl)
theorem w_793 : Cond.methodLink "LoanHouseLaw" 12 yX30_init ∈ TBL := tb_26 _ (List.mem_of_getElem? (i := 13) rfl)
theorem w_794 : Cond.methodLink "LoanHouseLaw" 13 yX12_feed ∈ TBL := tb_26 _ (List.mem_of_getElem? (i := 14) rfl)
theorem w_795 : Cond.methodLink "LoanHouseLaw" 17 yX30_feed ∈ TBL := tb_26 _ (List.mem_of_getElem? (i := 15) rfl)
theorem w_796 : Cond.methodLink "LoanHouseLaw" 18 yX12_judge ∈ TBL := tb_26 _ (List.mem_of_getElem? (i := 16) rfl)
theorem w_797 : Cond.methodLink "LoanHouseLaw" 22 yX30_judge ∈ TBL := tb_26 _ (List.mem_of_getElem? (i := 17) rfl)
theorem w_798 : Cond.methodLink "LoanHouseLaw" 23 yX12_fault ∈ TBL := tb_26 _ (List.mem_of_getElem? (i := 18) rfl)
theorem w_799 : Cond.methodLink "LoanHouseLaw" 26 yX30_fault ∈ TBL := tb_26 _ (List.mem_of_getElem? (i := 19) rfl)
theorem w_800 : Cond.constantLong "LoanHouseLaw" 27 (4294967295) ∈ TBL := tb_26 _ (List.mem_of_getElem? (i := 20) rfl)
theorem w_801 : Cond.methodLink "LoanHouseLaw" 29 yX12_give ∈ TBL := tb_26 _ (List.mem_of_getElem? (i := 21) rfl)
theorem w_802 : Cond.methodLink "LoanHouseLaw" 34 yX12_run ∈ TBL := tb_26 _ (List.mem_of_getElem? (i := 22) rfl)
theorem w_803 : Cond.methodLink "LoanHouseLaw" 37 yX30_run ∈ TBL := tb_26 _ (List.mem_of_getElem? (i := 23) rfl)
theorem w_804 : Cond.methodLink "LoanHouseLaw" 38 yX12_about ∈ TBL := tb_26 _ (List.mem_of_getElem? (i := 24) rfl)
theorem w_805 : Cond.methodLink "LoanHouseLaw" 41 yX30_about ∈ TBL := tb_26 _ (List.mem_of_getElem? (i := 25) rfl)
theorem w_806 : Cond.methodLink "LoanHouseLaw" 42 yX12_out ∈ TBL := tb_26 _ (List.mem_of_getElem? (i := 26) rfl)
theorem w_807 : Cond.methodLink "LoanHouseLaw" 47 yX12_count ∈ TBL := tb_26 _ (List.mem_of_getElem? (i := 27) rfl)
theorem w_808 : Cond.methodLink "LoanHouseLaw" 50 yX30_count ∈ TBL := tb_26 _ (List.mem_of_getElem? (i := 28) rfl)
theorem w_809 : Cond.methodLink "LoanHouseLaw" 51 yX12_place ∈ TBL := tb_26 _ (List.mem_of_getElem? (i := 29) rfl)
theorem w_810 : Cond.methodLink "LoanHouseLaw" 56 yX12_loan ∈ TBL := tb_27 _ (List.mem_of_getElem? (i := 0) rfl)
theorem w_811 : Cond.methodLink "LoanHouseLaw" 59 yX30_loan ∈ TBL := tb_27 _ (List.mem_of_getElem? (i := 1) rfl)
theorem w_812 : Cond.methodLink "LoanHouseLaw" 60 yX12_force ∈ TBL := tb_27 _ (List.mem_of_getElem? (i := 2) rfl)
theorem w_813 : Cond.methodLink "LoanHouseLaw" 63 yX30_force ∈ TBL := tb_27 _ (List.mem_of_getElem? (i := 3) rfl)
theorem w_814 : Cond.methodLink "LoanHouseLaw" 64 yX12_function ∈ TBL := tb_27 _ (List.mem_of_getElem? (i := 4) rfl)
theorem w_815 : Cond.methodLink "LoanHouseLaw" 67 yX30_function ∈ TBL := tb_27 _ (List.mem_of_getElem? (i := 5) rfl)
theorem w_816 : Cond.methodLink "LoanHouseLaw" 68 yX12_size ∈ TBL := tb_27 _ (List.mem_of_getElem? (i := 6) rfl)
theorem w_817 : Cond.methodLink "LoanHouseLaw" 71 yX30_size ∈ TBL := tb_27 _ (List.mem_of_getElem? (i := 7) rfl)
theorem w_818 : Cond.methodLink "LoanHouseLaw" 72 yX12_strays ∈ TBL := tb_27 _ (List.mem_of_getElem? (i := 8) rfl)
theorem w_819 : Cond.methodLink "LoanHouseLaw" 76 yX30_strays ∈ TBL := tb_27 _ (List.mem_of_getElem? (i := 9) rfl)
theorem w_820 : Cond.methodLink "LoanHouseLaw" 77 yX12_twices ∈ TBL := tb_27 _ (List.mem_of_getElem? (i := 10) rfl)
theorem w_821 : Cond.methodLink "LoanHouseLaw" 80 yX30_twices ∈ TBL := tb_27 _ (List.mem_of_getElem? (i := 11) rfl)
theorem w_822 : Cond.methodLink "LoanHouseLaw" 81 yX12_lefts ∈ TBL := tb_27 _ (List.mem_of_getElem? (i := 12) rfl)
theorem w_823 : Cond.methodLink "LoanHouseLaw" 84 yX30_lefts ∈ TBL := tb_27 _ (List.mem_of_getElem? (i := 13) rfl)
theorem w_824 : Cond.methodLink "LoanHouseLaw" 85 yX12_clashes ∈ TBL := tb_27 _ (List.mem_of_getElem? (i := 14) rfl)
theorem w_825 : Cond.sameField "java/util/ArrayList" "java/util/AbstractList" "modCount" "I" ∈ TBL := tb_27 _ (List.mem_of_getElem? (i := 15) rfl)
theorem w_826 : Cond.laysStatic "java/lang/String" "COMPACT_STRINGS" "Z" ∈ TBL := tb_27 _ (List.mem_of_getElem? (i := 16) rfl)
theorem w_827 : Cond.laysStatic "jdk/internal/util/Preconditions" "SIOOBE_FORMATTER" "Ljava/util/function/BiFunction;" ∈ TBL := tb_27 _ (List.mem_of_getElem? (i := 17) rfl)
theorem w_828 : Cond.superclass "java/lang/StringBuilder" "java/lang/AbstractStringBuilder" ∈ TBL := tb_27 _ (List.mem_of_getElem? (i := 18) rfl)
theorem w_829 : Cond.laysStatic "java/util/ArrayList" "DEFAULTCAPACITY_EMPTY_ELEMENTDATA" "[Ljava/lang/Object;" ∈ TBL := tb_27 _ (List.mem_of_getElem? (i := 19) rfl)
theorem w_830 : Cond.privateMethod yJ5_ensureCapacityInternal_d00df ∈ TBL := tb_27 _ (List.mem_of_getElem? (i := 20) rfl)
theorem w_831 : Cond.sameMethod "java/lang/AbstractStringBuilder" "java/lang/AbstractStringBuilder" "isLatin1" "()Z" ∈ TBL := tb_27 _ (List.mem_of_getElem? (i := 21) rfl)
theorem w_832 : Cond.selects "java/lang/StringBuilder" yJ5_isLatin1_aae02 yJ5_isLatin1_aae02 ∈ TBL := tb_27 _ (List.mem_of_getElem? (i := 22) rfl)
theorem w_833 : Cond.sameMethod "java/lang/AbstractStringBuilder" "java/lang/AbstractStringBuilder" "getValue" "()[B" ∈ TBL := tb_27 _ (List.mem_of_getElem? (i := 23) rfl)
theorem w_834 : Cond.selects "java/lang/StringBuilder" yJ5_getValue_6d5f1 yJ5_getValue_6d5f1 ∈ TBL := tb_27 _ (List.mem_of_getElem? (i := 24) rfl)
theorem w_835 : Cond.sameMethod "java/lang/AbstractStringBuilder" "java/lang/AbstractStringBuilder" "length" "()I" ∈ TBL := tb_27 _ (List.mem_of_getElem? (i := 25) rfl)
theorem w_836 : Cond.selects "java/lang/StringBuilder" yJ5_length_8abf5 yJ4_length_8abf5 ∈ TBL := tb_27 _ (List.mem_of_getElem? (i := 26) rfl)
theorem w_837 : Cond.sameMethod "java/lang/AbstractStringBuilder" "java/lang/AbstractStringBuilder" "setLength" "(I)V" ∈ TBL := tb_27 _ (List.mem_of_getElem? (i := 27) rfl)
theorem w_838 : Cond.sameMethod "java/lang/AbstractStringBuilder" "java/lang/AbstractStringBuilder" "ensureCapacityInternal" "(I)V" ∈ TBL := tb_27 _ (List.mem_of_getElem? (i := 28) rfl)
theorem gi_0 : GoodIn lw_tbl TB0 := goodIn_r _ [94, 95, 92, 38, 91, 93, 169, 1057, 170, 1059, 96, 97, 39, 1061, 172, 173, 40, 1062, 282, 283, 45, 1063, 322, 323, 46, 1064, 359, 360, 47, 1065] (by decide +kernel) (by decide +kernel)
theorem gi_1 : GoodIn lw_tbl TB1 := goodIn_r _ [433, 434, 48, 1066, 583, 584, 50, 1067, 1071, 1072, 1073, 1112, 1110, 1111, 1058, 1113, 1116, 1115, 0, 1120, 1118, 1119, 1398, 1401, 1400, 1, 1069, 1068, 2069, 2067] (by decide +kernel) (by decide +kernel)
theorem gi_2 : GoodIn lw_tbl TB2 := goodIn_r _ [2068, 2073, 2071, 2072, 1060, 2077, 2075, 2076, 2078, 1070, 2302, 2300, 2301, 2310, 2308, 2309, 2318, 2316, 2317, 2322, 2320, 2321, 2331, 2329, 2330, 2348, 2346, 2347, 2353, 2351] (by decide +kernel) (by decide +kernel)
theorem gi_3 : GoodIn lw_tbl TB3 := goodIn_r _ [2352, 2361, 2359, 2360, 2365, 2363, 2364, 2369, 2367, 2368, 2373, 2371, 2372, 2381, 2379, 2380, 100, 99, 101, 171, 102, 106, 110, 113, 117, 121, 125, 129, 133, 136] (by decide +kernel) (by decide +kernel)
theorem gi_4 : GoodIn lw_tbl TB4 := goodIn_r _ [139, 143, 1234, 1233, 2, 1242, 1241, 3, 176, 175, 177, 179, 228, 229, 230, 231, 232, 236, 237, 238, 227, 189, 1124, 1123, 4, 1125, 1126, 1127, 62, 234] (by decide +kernel) (by decide +kernel)
theorem gi_5 : GoodIn lw_tbl TB5 := goodIn_r _ [235, 243, 244, 1128, 1140, 240, 1235, 241, 242, 1131, 1130, 5, 233, 1132, 1135, 1134, 6, 1136, 1139, 1138, 7, 1143, 1142, 8, 239, 1144, 1147, 1146, 9, 1238] (by decide +kernel) (by decide +kernel)
theorem gi_6 : GoodIn lw_tbl TB6 := goodIn_r _ [1237, 10, 286, 285, 287, 288, 1425, 1424, 11, 289, 290, 291, 292, 1426, 293, 1427, 1550, 1745, 1430, 1429, 12, 1553, 1552, 13, 1435, 1748, 1747, 14, 1438, 1437] (by decide +kernel) (by decide +kernel)
theorem gi_7 : GoodIn lw_tbl TB7 := goodIn_r _ [15, 1439, 1191, 1192, 63, 326, 325, 327, 328, 363, 362, 364, 371, 373, 432, 374, 377, 379, 381, 382, 437, 436, 438, 439, 440, 49, 518, 529, 531, 443] (by decide +kernel) (by decide +kernel)
theorem gi_8 : GoodIn lw_tbl TB8 := goodIn_r _ [442, 444, 446, 450, 455, 456, 462, 463, 475, 476, 587, 586, 588, 589, 590, 51, 971, 689, 690, 52, 977, 800, 801, 53, 983, 862, 863, 54, 988, 994] (by decide +kernel) (by decide +kernel)
theorem gi_9 : GoodIn lw_tbl TB9 := goodIn_r _ [997, 1001, 1004, 1007, 1010, 1022, 1405, 1404, 16, 1013, 1017, 1020, 1024, 593, 592, 594, 595, 598, 604, 605, 608, 613, 617, 620, 622, 626, 628, 633, 638, 640] (by decide +kernel) (by decide +kernel)
theorem gi_10 : GoodIn lw_tbl TB10 := goodIn_r _ [644, 1409, 1408, 17, 623, 636, 648, 603, 1506, 1505, 18, 693, 692, 694, 695, 696, 699, 703, 706, 710, 713, 718, 723, 728, 732, 734, 736, 741, 744, 749] (by decide +kernel) (by decide +kernel)
theorem gi_11 : GoodIn lw_tbl TB11 := goodIn_r _ [1413, 1412, 19, 752, 716, 758, 804, 803, 805, 806, 807, 809, 814, 817, 820, 823, 826, 831, 833, 1417, 1416, 20, 829, 835, 866, 865, 867, 868, 870, 873] (by decide +kernel) (by decide +kernel)
theorem gi_12 : GoodIn lw_tbl TB12 := goodIn_r _ [877, 881, 886, 889, 893, 896, 899, 903, 905, 912, 914, 916, 920, 923, 1421, 1420, 21, 908, 918, 926, 2386, 55, 2385, 2387, 2472, 2477, 2478, 2479, 2388, 2899] (by decide +kernel) (by decide +kernel)
theorem gi_13 : GoodIn lw_tbl TB13 := goodIn_r _ [41, 2480, 2484, 2390, 2391, 57, 2392, 2485, 2486, 2421, 2422, 60, 2423, 2489, 2490, 2447, 2448, 61, 2449, 2492, 2493, 2494, 2496, 2498, 2502, 2503, 2505, 2506, 2507, 2508] (by decide +kernel) (by decide +kernel)
theorem gi_14 : GoodIn lw_tbl TB14 := goodIn_r _ [2510, 2511, 2512, 2513, 2515, 2516, 2517, 2518, 2519, 2520, 2521, 2522, 2523, 2524, 2525, 2526, 2467, 2530, 2536, 2538, 2539, 2547, 2548, 2556, 2468, 3310, 76, 2559, 2470, 4090] (by decide +kernel) (by decide +kernel)
theorem gi_15 : GoodIn lw_tbl TB15 := goodIn_r _ [86, 2560, 2561, 2562, 2563, 2564, 2566, 2761, 2759, 2760, 2473, 2765, 2763, 2764, 2481, 2482, 2483, 2766, 2475, 2476, 2973, 2974, 70, 2487, 2491, 2504, 2488, 2998, 3801, 3853] (by decide +kernel) (by decide +kernel)
theorem gi_16 : GoodIn lw_tbl TB16 := goodIn_r _ [2514, 2550, 2769, 2768, 22, 2474, 2786, 2969, 2970, 2789, 2788, 23, 2954, 2957, 2956, 24, 2958, 2801, 2961, 2960, 25, 2962, 2963, 2804, 2803, 26, 2805, 2894, 3001, 3000] (by decide +kernel) (by decide +kernel)
theorem gi_17 : GoodIn lw_tbl TB17 := goodIn_r _ [27, 3002, 3005, 3004, 28, 3804, 3803, 29, 2982, 3301, 3024, 3025, 71, 3033, 3805, 3032, 3034, 3048, 3281, 3282, 75, 3288, 3287, 3289, 3290, 3050, 3041, 2454, 3042, 3035] (by decide +kernel) (by decide +kernel)
theorem gi_18 : GoodIn lw_tbl TB18 := goodIn_r _ [3037, 3856, 3855, 30, 2984, 3318, 3317, 3857, 3319, 3322, 3323, 3324, 2986, 3449, 3450, 79, 3458, 3860, 3859, 31, 3808, 3807, 32, 3094, 3097, 3096, 33, 4337, 4335, 4336] (by decide +kernel) (by decide +kernel)
theorem gi_19 : GoodIn lw_tbl TB19 := goodIn_r _ [4300, 4299, 34, 3890, 2509, 4223, 4345, 4343, 4344, 4346, 2527, 2528, 2529, 2531, 2532, 2533, 2534, 2535, 2540, 2541, 2542, 2543, 2544, 2545, 2546, 2551, 2553, 2552, 2554, 2555] (by decide +kernel) (by decide +kernel)
theorem gi_20 : GoodIn lw_tbl TB20 := goodIn_r _ [2557, 2558, 3320, 4634, 4632, 4633, 4546, 4545, 35, 4642, 4640, 4641, 2988, 3939, 3938, 36, 3461, 3882, 3883, 84, 3888, 3457, 3894, 3465, 3495, 3496, 80, 3508, 3501, 3507] (by decide +kernel) (by decide +kernel)
theorem gi_21 : GoodIn lw_tbl TB21 := goodIn_r _ [3550, 2456, 3574, 3463, 3460, 3459, 4653, 4651, 4652, 3969, 3970, 85, 3977, 3979, 3980, 3978, 4657, 4655, 4656, 4661, 4659, 4660, 3333, 3336, 3337, 3335, 4665, 4663, 4664, 4669] (by decide +kernel) (by decide +kernel)
theorem gi_22 : GoodIn lw_tbl TB22 := goodIn_r _ [4667, 4668, 4673, 4671, 4672, 4677, 4675, 4676, 4323, 4322, 2451, 2450, 2452, 2453, 2455, 2457, 2977, 2976, 2978, 2979, 2980, 2981, 2983, 2985, 2987, 2397, 56, 2396, 2398, 2399] (by decide +kernel) (by decide +kernel)
theorem gi_23 : GoodIn lw_tbl TB23 := goodIn_r _ [2407, 2408, 2919, 2913, 2411, 2815, 2814, 2811, 2810, 2812, 2841, 2409, 2911, 2908, 2845, 2842, 2394, 2393, 2395, 2897, 2895, 2896, 2898, 2900, 2808, 2806, 2807, 2809, 2917, 2916] (by decide +kernel) (by decide +kernel)
theorem gi_24 : GoodIn lw_tbl TB24 := goodIn_r _ [2918, 2902, 2901, 2903, 2905, 2904, 2906, 2907, 2912, 2920, 2941, 2921, 2940, 187, 2410, 182, 180, 181, 183, 192, 190, 191, 193, 197, 186, 184, 185, 196, 194, 195] (by decide +kernel) (by decide +kernel)
theorem gi_25 : GoodIn lw_tbl TB25 := goodIn_r _ [202, 201, 203, 205, 199, 42, 198, 200, 207, 43, 206, 2923, 69, 2922, 2924, 2838, 2926, 2925, 2839, 2840, 2431, 58, 2430, 2432, 2428, 59, 2427, 2429, 2437, 2425] (by decide +kernel) (by decide +kernel)
theorem gi_26 : GoodIn lw_tbl TB26 := goodIn_r _ [2424, 2426, 2433, 2435, 3304, 3302, 3303, 2436, 88, 89, 90, 2382, 2383, 2384, 1109, 2758, 1117, 2762, 2066, 4334, 4682, 2070, 2074, 4342, 2299, 4631, 2307, 2315, 4639, 2319] (by decide +kernel) (by decide +kernel)
theorem gi_27 : GoodIn lw_tbl TB27 := goodIn_r _ [2328, 4650, 2345, 4654, 2350, 4658, 2358, 4662, 2362, 4666, 2366, 4670, 2370, 4674, 2378, 2439, 188, 204, 2420, 2434, 2813, 2843, 2844, 2909, 2910, 2914, 2915, 4683, 4684] (by decide +kernel) (by decide +kernel)
theorem gi_X12 : GoodIn lw_tbl wsX120 := goodIn_r _ [1074, 1076, 1078, 1080, 1082, 1084, 1086, 1088, 1090, 1092, 1094, 1096, 1098, 1100, 1102, 1104, 1106] (by decide +kernel) (by decide +kernel)
theorem gi_X8 : GoodIn lw_tbl wsX80 := goodIn_r _ [144, 146, 148, 150, 152, 154, 156, 158, 160, 162, 164, 166] (by decide +kernel) (by decide +kernel)
theorem gi_X6 : GoodIn lw_tbl wsX60 := goodIn_r _ [245, 247, 249, 251, 253, 255, 257, 259, 261, 263, 265, 267, 269, 271, 273, 275, 277, 279] (by decide +kernel) (by decide +kernel)
theorem gi_X0 : GoodIn lw_tbl wsX00 := goodIn_r _ [299, 301, 303, 305, 307, 309, 311, 313, 315, 317, 319] (by decide +kernel) (by decide +kernel)
theorem gi_X1 : GoodIn lw_tbl wsX10 := goodIn_r _ [338, 340, 342, 344, 346, 348, 350, 352, 354, 356] (by decide +kernel) (by decide +kernel)
theorem gi_X11 : GoodIn lw_tbl wsX110 := goodIn_r _ [387, 389, 391, 393, 395, 397, 399, 401, 403, 405, 407, 409, 411, 413, 415, 417, 419, 421, 423, 425, 427, 429] (by decide +kernel) (by decide +kernel)
theorem gi_X3 : GoodIn lw_tbl wsX30 := goodIn_r _ [540, 542, 544, 546, 548, 550, 552, 554, 556, 558, 560, 562, 564, 566, 568, 570, 572, 574, 576, 578, 580] (by decide +kernel) (by decide +kernel)
theorem gi_X7 : GoodIn lw_tbl wsX70 := goodIn_r _ [477, 479, 481, 483, 485, 487, 489, 491, 493, 495, 497, 499, 501, 503, 505, 507, 509, 511, 513] (by decide +kernel) (by decide +kernel)
theorem gi_X5 : GoodIn lw_tbl wsX50 := goodIn_r _ [1026, 1028, 1030, 1032, 1034, 1036, 1038, 1040, 1042, 1044, 1046, 1048, 1050, 1052, 1054] (by decide +kernel) (by decide +kernel)
theorem gi_X9 : GoodIn lw_tbl wsX90 := goodIn_r _ [650, 652, 654, 656, 658, 660, 662, 664, 666, 668, 670, 672, 674, 676, 678, 680, 682, 684, 686] (by decide +kernel) (by decide +kernel)
theorem gi_X2 : GoodIn lw_tbl wsX20 := goodIn_r _ [761, 763, 765, 767, 769, 771, 773, 775, 777, 779, 781, 783, 785, 787, 789, 791, 793, 795, 797] (by decide +kernel) (by decide +kernel)
theorem gi_X10 : GoodIn lw_tbl wsX100 := goodIn_r _ [837, 839, 841, 843, 845, 847, 849, 851, 853, 855, 857, 859] (by decide +kernel) (by decide +kernel)
theorem gi_X4 : GoodIn lw_tbl wsX40 := goodIn_r _ [930, 932, 934, 936, 938, 940, 942, 944, 946, 948, 950, 952, 954, 956, 958, 960, 962, 964, 966, 968] (by decide +kernel) (by decide +kernel)
theorem gi_X30 : GoodIn lw_tbl wsX300 := goodIn_r _ [2567, 2569, 2571, 2573, 2575, 2577, 2579, 2581, 2583, 2585, 2587, 2589, 2591, 2593, 2595, 2597, 2599, 2601, 2603, 2605, 2607, 2609, 2611, 2613, 2615, 2617, 2619, 2621, 2623, 2625, 2627, 2629, 2631, 2633, 2635, 2637, 2639, 2641, 2643, 2645, 2647, 2649, 2651, 2653, 2655, 2657, 2659, 2661, 2663, 2665, 2667, 2669, 2671, 2673, 2675, 2677, 2679, 2681, 2683, 2685, 2687, 2689, 2691, 2693, 2695, 2697, 2699, 2701, 2703, 2705, 2707, 2709, 2711, 2713, 2715, 2717, 2719, 2721, 2723, 2725, 2727, 2729, 2731, 2733, 2735, 2737, 2739, 2741, 2743, 2745, 2747, 2749, 2751, 2753, 2755] (by decide +kernel) (by decide +kernel)
theorem gi_X26 : GoodIn lw_tbl wsX260 := goodIn_r _ [2459, 2461, 2463] (by decide +kernel) (by decide +kernel)
theorem gi_X23 : GoodIn lw_tbl wsX230 := goodIn_r _ [2989, 2991, 2993, 2995] (by decide +kernel) (by decide +kernel)
theorem gi_J4 : GoodIn lw_tbl wsJ40 := goodIn_r _ [2412, 2414, 2416, 2418] (by decide +kernel) (by decide +kernel)
theorem gi_J0 : GoodIn lw_tbl wsJ00 := goodIn_r _ [2944, 2946, 2948, 2950] (by decide +kernel) (by decide +kernel)
theorem gi_Jx4a65c : GoodIn lw_tbl wsJx4a65c0 := goodIn_r _ [2444, 2440, 2442] (by decide +kernel) (by decide +kernel)
theorem tbl_in : GoodIn lw_tbl TBL := goodIn_app gi_0 (goodIn_app gi_1 (goodIn_app gi_2 (goodIn_app gi_3 (goodIn_app gi_4 (goodIn_app gi_5 (goodIn_app gi_6 (goodIn_app gi_7 (goodIn_app gi_8 (goodIn_app gi_9 (goodIn_app gi_10 (goodIn_app gi_11 (goodIn_app gi_12 (goodIn_app gi_13 (goodIn_app gi_14 (goodIn_app gi_15 (goodIn_app gi_16 (goodIn_app gi_17 (goodIn_app gi_18 (goodIn_app gi_19 (goodIn_app gi_20 (goodIn_app gi_21 (goodIn_app gi_22 (goodIn_app gi_23 (goodIn_app gi_24 (goodIn_app gi_25 (goodIn_app gi_26 (goodIn_app gi_27 (goodIn_app gi_X12 (goodIn_app gi_X8 (goodIn_app gi_X6 (goodIn_app gi_X0 (goodIn_app gi_X1 (goodIn_app gi_X11 (goodIn_app gi_X3 (goodIn_app gi_X7 (goodIn_app gi_X5 (goodIn_app gi_X9 (goodIn_app gi_X2 (goodIn_app gi_X10 (goodIn_app gi_X4 (goodIn_app gi_X30 (goodIn_app gi_X26 (goodIn_app gi_X23 (goodIn_app gi_J4 (goodIn_app gi_J0 (gi_Jx4a65c))))))))))))))))))))))))))))))))))))))))))))))
theorem tbl_ok : ∀ w ∈ TBL, ((w.onTables && w.keeps) = true ∨ ∃ ty, w = .arrayClass ty) := fun w h => (tbl_in w h).2
def NST : List Cond := [.methodLinkNest "LoanHouse" 19 yX8_init "LoanHouse", .methodLinkNest "LoanHouse" 26 yX6_init "LoanHouse", .methodLinkNest "LoanHouse" 35 yX0_init "LoanHouse", .methodLinkNest "LoanHouse" 42 yX1_init "LoanHouse", .methodLinkNest "LoanHouse" 49 yX11_init "LoanHouse", .methodLinkNest "LoanHouse" 56 yX3_init "LoanHouse", .methodLinkNest "LoanHouse" 63 yX5_init "LoanHouse", .methodLinkNest "LoanHouse" 85 yX6_read "LoanHouse", .methodLinkNest "LoanHouse" 106 yX5_clear "LoanHouse", .methodLinkNest "LoanHouse" 109 yX0_check "LoanHouse", .methodLinkNest "LoanHouse" 113 ⟨"LoanHouse$Emitter", "emitAll", "(LLoanHouse$Program;)V"⟩ "LoanHouse", .methodLinkNest "LoanHouse" 117 ⟨"LoanHouse$Ways", "follow", "(LLoanHouse$Program;)V"⟩ "LoanHouse", .methodLinkNest "LoanHouse" 120 ⟨"LoanHouse$Ways", "strayPlace", "()I"⟩ "LoanHouse", .methodLinkNest "LoanHouse" 124 ⟨"LoanHouse$Ways", "strayOther", "()I"⟩ "LoanHouse", .methodLinkNest "LoanHouse" 127 ⟨"LoanHouse$Ways", "clashPlace", "()I"⟩ "LoanHouse", .methodLinkNest "LoanHouse" 130 ⟨"LoanHouse$Ways", "clashOther", "()I"⟩ "LoanHouse", .methodLinkNest "LoanHouse" 137 ⟨"LoanHouse$Machine", "start", "(LLoanHouse$Program;[JII)I"⟩ "LoanHouse", .methodLinkNest "LoanHouse" 141 ⟨"LoanHouse$Machine", "tell", "(I)I"⟩ "LoanHouse", .fieldLinkNest "LoanHouse" 144 "LoanHouse$Machine" "store" "LLoanHouse$Store;" "LoanHouse", .methodLinkNest "LoanHouse" 148 ⟨"LoanHouse$Store", "entry", "(II)J"⟩ "LoanHouse", .fieldLinkNest "LoanHouse" 154 "LoanHouse$Program" "types" "LLoanHouse$Types;" "LoanHouse", .fieldLinkNest "LoanHouse" 158 "LoanHouse$Types" "decls" "I" "LoanHouse", .fieldLinkNest "LoanHouse" 163 "LoanHouse$Program" "functions" "LLoanHouse$Functions;" "LoanHouse", .fieldLinkNest "LoanHouse" 167 "LoanHouse$Functions" "total" "I" "LoanHouse", .fieldLinkNest "LoanHouse" 172 "LoanHouse$Program" "places" "LLoanHouse$Places;" "LoanHouse", .fieldLinkNest "LoanHouse" 176 "LoanHouse$Places" "total" "I" "LoanHouse", .fieldLinkNest "LoanHouse" 179 "LoanHouse$Places" "loans" "I" "LoanHouse", .methodLinkNest "LoanHouse" 182 ⟨"LoanHouse$Places", "tell", "(II)I"⟩ "LoanHouse", .methodLinkNest "LoanHouse" 185 ⟨"LoanHouse$Program", "tellLoan", "(II)I"⟩ "LoanHouse", .methodLinkNest "LoanHouse" 188 ⟨"LoanHouse$Program", "inForce", "(II)I"⟩ "LoanHouse", .methodLinkNest "LoanHouse" 191 ⟨"LoanHouse$Functions", "tell", "(II)I"⟩ "LoanHouse", .fieldLinkNest "LoanHouse" 192 "LoanHouse$Types" "declCells" "[I" "LoanHouse", .fieldLinkNest "LoanHouse" 196 "LoanHouse$Store" "strays" "I" "LoanHouse", .fieldLinkNest "LoanHouse" 199 "LoanHouse$Store" "twices" "I" "LoanHouse", .methodLinkNest "LoanHouse" 202 ⟨"LoanHouse$Machine", "left", "()I"⟩ "LoanHouse", .methodLinkNest "LoanHouse$Reader" 79 yX8_clear "LoanHouse", .methodLinkNest "LoanHouse$Reader" 90 yX8_add "LoanHouse", .fieldLinkNest "LoanHouse$Reader" 112 "LoanHouse$Tree" "from" "[I" "LoanHouse", .methodLinkNest "LoanHouse$Reader" 115 ⟨"LoanHouse$Tree", "append", "(III)I"⟩ "LoanHouse", .fieldLinkNest "LoanHouse$Checker" 15 "LoanHouse$Program" "types" "LLoanHouse$Types;" "LoanHouse", .fieldLinkNest "LoanHouse$Checker" 22 "LoanHouse$Program" "functions" "LLoanHouse$Functions;" "LoanHouse", .fieldLinkNest "LoanHouse$Checker" 27 "LoanHouse$Program" "variables" "LLoanHouse$Variables;" "LoanHouse", .fieldLinkNest "LoanHouse$Checker" 32 "LoanHouse$Program" "places" "LLoanHouse$Places;" "LoanHouse", .fieldLinkNest "LoanHouse$Checker" 42 "LoanHouse$Tree" "a" "[I" "LoanHouse", .fieldLinkNest "LoanHouse$Checker" 52 "LoanHouse$Tree" "kind" "[I" "LoanHouse", .fieldLinkNest "LoanHouse$Checker" 59 "LoanHouse$Tree" "next" "[I" "LoanHouse", .methodLinkNest "LoanHouse$Checker" 62 yX9_measure "LoanHouse", .fieldLinkNest "LoanHouse$Checker" 70 "LoanHouse$Functions" "total" "I" "LoanHouse", .fieldLinkNest "LoanHouse$Checker" 90 "LoanHouse$Tree" "name" "[I" "LoanHouse", .fieldLinkNest "LoanHouse$Checker" 93 "LoanHouse$Tree" "from" "[I" "LoanHouse", .methodLinkNest "LoanHouse$Checker" 100 ⟨"LoanHouse$Functions", "find", "(I)I"⟩ "LoanHouse", .fieldLinkNest "LoanHouse$Checker" 104 "LoanHouse$Tree" "pos" "[I" "LoanHouse", .methodLinkNest "LoanHouse$Checker" 111 ⟨"LoanHouse$Functions", "add", "(II)V"⟩ "LoanHouse", .fieldLinkNest "LoanHouse$Checker" 114 "LoanHouse$Types" "decls" "I" "LoanHouse", .methodLinkNest "LoanHouse$Checker" 117 ⟨"LoanHouse$Types", "findDecl", "(I)I"⟩ "LoanHouse", .fieldLinkNest "LoanHouse$Checker" 120 "LoanHouse$Tree" "ref" "[I" "LoanHouse", .methodLinkNest "LoanHouse$Checker" 123 ⟨"LoanHouse$Types", "addDecl", "(II)V"⟩ "LoanHouse", .fieldLinkNest "LoanHouse$Checker" 174 "LoanHouse$Types" "declCells" "[I" "LoanHouse", .fieldLinkNest "LoanHouse$Checker" 177 "LoanHouse$Types" "declParts" "[I" "LoanHouse", .fieldLinkNest "LoanHouse$Checker" 180 "LoanHouse$Functions" "node" "[I" "LoanHouse", .fieldLinkNest "LoanHouse$Checker" 201 "LoanHouse$Tree" "b" "[I" "LoanHouse", .fieldLinkNest "LoanHouse$Checker" 224 "LoanHouse$Functions" "main" "I" "LoanHouse", .methodLinkNest "LoanHouse$Machine" 11 yX7_init "LoanHouse", .methodLinkNest "LoanHouse$Program" 11 yX9_init "LoanHouse", .methodLinkNest "LoanHouse$Program" 20 yX2_init "LoanHouse", .methodLinkNest "LoanHouse$Program" 27 yX10_init "LoanHouse", .methodLinkNest "LoanHouse$Program" 34 yX4_init "LoanHouse", .methodLinkNest "LoanHouse$Program" 61 yX9_clear "LoanHouse", .methodLinkNest "LoanHouse$Program" 64 yX2_clear "LoanHouse", .methodLinkNest "LoanHouse$Program" 65 yX10_clear "LoanHouse", .methodLinkNest "LoanHouse$Program" 66 yX4_clear "LoanHouse", .methodLinkNest "LoanHouseModel" 1237 yX23_init "LoanHouseModel"]
theorem nw_0 : Cond.methodLinkNest "LoanHouse" 19 yX8_init "LoanHouse" ∈ NST := List.mem_of_getElem? (i := 0) rfl
theorem nw_1 : Cond.methodLinkNest "LoanHouse" 26 yX6_init "LoanHouse" ∈ NST := List.mem_of_getElem? (i := 1) rfl
theorem nw_2 : Cond.methodLinkNest "LoanHouse" 35 yX0_init "LoanHouse" ∈ NST := List.mem_of_getElem? (i := 2) rfl
theorem nw_3 : Cond.methodLinkNest "LoanHouse" 42 yX1_init "LoanHouse" ∈ NST := List.mem_of_getElem? (i := 3) rfl
theorem nw_4 : Cond.methodLinkNest "LoanHouse" 49 yX11_init "LoanHouse" ∈ NST := List.mem_of_getElem? (i := 4) rfl
theorem nw_5 : Cond.methodLinkNest "LoanHouse" 56 yX3_init "LoanHouse" ∈ NST := List.mem_of_getElem? (i := 5) rfl
theorem nw_6 : Cond.methodLinkNest "LoanHouse" 63 yX5_init "LoanHouse" ∈ NST := List.mem_of_getElem? (i := 6) rfl
theorem nw_7 : Cond.methodLinkNest "LoanHouse" 85 yX6_read "LoanHouse" ∈ NST := List.mem_of_getElem? (i := 7) rfl
theorem nw_8 : Cond.methodLinkNest "LoanHouse" 106 yX5_clear "LoanHouse" ∈ NST := List.mem_of_getElem? (i := 8) rfl
theorem nw_9 : Cond.methodLinkNest "LoanHouse" 109 yX0_check "LoanHouse" ∈ NST := List.mem_of_getElem? (i := 9) rfl
theorem nw_10 : Cond.methodLinkNest "LoanHouse" 113 ⟨"LoanHouse$Emitter", "emitAll", "(LLoanHouse$Program;)V"⟩ "LoanHouse" ∈ NST := List.mem_of_getElem? (i := 10) rfl
theorem nw_11 : Cond.methodLinkNest "LoanHouse" 117 ⟨"LoanHouse$Ways", "follow", "(LLoanHouse$Program;)V"⟩ "LoanHouse" ∈ NST := List.mem_of_getElem? (i := 11) rfl
theorem nw_12 : Cond.methodLinkNest "LoanHouse" 120 ⟨"LoanHouse$Ways", "strayPlace", "()I"⟩ "LoanHouse" ∈ NST := List.mem_of_getElem? (i := 12) rfl
theorem nw_13 : Cond.methodLinkNest "LoanHouse" 124 ⟨"LoanHouse$Ways", "strayOther", "()I"⟩ "LoanHouse" ∈ NST := List.mem_of_getElem? (i := 13) rfl
theorem nw_14 : Cond.methodLinkNest "LoanHouse" 127 ⟨"LoanHouse$Ways", "clashPlace", "()I"⟩ "LoanHouse" ∈ NST := List.mem_of_getElem? (i := 14) rfl
theorem nw_15 : Cond.methodLinkNest "LoanHouse" 130 ⟨"LoanHouse$Ways", "clashOther", "()I"⟩ "LoanHouse" ∈ NST := List.mem_of_getElem? (i := 15) rfl
theorem nw_16 : Cond.methodLinkNest "LoanHouse" 137 ⟨"LoanHouse$Machine", "start", "(LLoanHouse$Program;[JII)I"⟩ "LoanHouse" ∈ NST := List.mem_of_getElem? (i := 16) rfl
theorem nw_17 : Cond.methodLinkNest "LoanHouse" 141 ⟨"LoanHouse$Machine", "tell", "(I)I"⟩ "LoanHouse" ∈ NST := List.mem_of_getElem? (i := 17) rfl
theorem nw_18 : Cond.fieldLinkNest "LoanHouse" 144 "LoanHouse$Machine" "store" "LLoanHouse$Store;" "LoanHouse" ∈ NST := List.mem_of_getElem? (i := 18) rfl
theorem nw_19 : Cond.methodLinkNest "LoanHouse" 148 ⟨"LoanHouse$Store", "entry", "(II)J"⟩ "LoanHouse" ∈ NST := List.mem_of_getElem? (i := 19) rfl
theorem nw_20 : Cond.fieldLinkNest "LoanHouse" 154 "LoanHouse$Program" "types" "LLoanHouse$Types;" "LoanHouse" ∈ NST := List.mem_of_getElem? (i := 20) rfl
theorem nw_21 : Cond.fieldLinkNest "LoanHouse" 158 "LoanHouse$Types" "decls" "I" "LoanHouse" ∈ NST := List.mem_of_getElem? (i := 21) rfl
theorem nw_22 : Cond.fieldLinkNest "LoanHouse" 163 "LoanHouse$Program" "functions" "LLoanHouse$Functions;" "LoanHouse" ∈ NST := List.mem_of_getElem? (i := 22) rfl
theorem nw_23 : Cond.fieldLinkNest "LoanHouse" 167 "LoanHouse$Functions" "total" "I" "LoanHouse" ∈ NST := List.mem_of_getElem? (i := 23) rfl
theorem nw_24 : Cond.fieldLinkNest "LoanHouse" 172 "LoanHouse$Program" "places" "LLoanHouse$Places;" "LoanHouse" ∈ NST := List.mem_of_getElem? (i := 24) rfl
theorem nw_25 : Cond.fieldLinkNest "LoanHouse" 176 "LoanHouse$Places" "total" "I" "LoanHouse" ∈ NST := List.mem_of_getElem? (i := 25) rfl
theorem nw_26 : Cond.fieldLinkNest "LoanHouse" 179 "LoanHouse$Places" "loans" "I" "LoanHouse" ∈ NST := List.mem_of_getElem? (i := 26) rfl
theorem nw_27 : Cond.methodLinkNest "LoanHouse" 182 ⟨"LoanHouse$Places", "tell", "(II)I"⟩ "LoanHouse" ∈ NST := List.mem_of_getElem? (i := 27) rfl
theorem nw_28 : Cond.methodLinkNest "LoanHouse" 185 ⟨"LoanHouse$Program", "tellLoan", "(II)I"⟩ "LoanHouse" ∈ NST := List.mem_of_getElem? (i := 28) rfl
theorem nw_29 : Cond.methodLinkNest "LoanHouse" 188 ⟨"LoanHouse$Program", "inForce", "(II)I"⟩ "LoanHouse" ∈ NST := List.mem_of_getElem? (i := 29) rfl
theorem nw_30 : Cond.methodLinkNest "LoanHouse" 191 ⟨"LoanHouse$Functions", "tell", "(II)I"⟩ "LoanHouse" ∈ NST := List.mem_of_getElem? (i := 30) rfl
theorem nw_31 : Cond.fieldLinkNest "LoanHouse" 192 "LoanHouse$Types" "declCells" "[I" "LoanHouse" ∈ NST := List.mem_of_getElem? (i := 31) rfl
theorem nw_32 : Cond.fieldLinkNest "LoanHouse" 196 "LoanHouse$Store" "strays" "I" "LoanHouse" ∈ NST := List.mem_of_getElem? (i := 32) rfl
theorem nw_33 : Cond.fieldLinkNest "LoanHouse" 199 "LoanHouse$Store" "twices" "I" "LoanHouse" ∈ NST := List.mem_of_getElem? (i := 33) rfl
theorem nw_34 : Cond.methodLinkNest "LoanHouse" 202 ⟨"LoanHouse$Machine", "left", "()I"⟩ "LoanHouse" ∈ NST := List.mem_of_getElem? (i := 34) rfl
theorem nw_35 : Cond.methodLinkNest "LoanHouse$Reader" 79 yX8_clear "LoanHouse" ∈ NST := List.mem_of_getElem? (i := 35) rfl
theorem nw_36 : Cond.methodLinkNest "LoanHouse$Reader" 90 yX8_add "LoanHouse" ∈ NST := List.mem_of_getElem? (i := 36) rfl
theorem nw_37 : Cond.fieldLinkNest "LoanHouse$Reader" 112 "LoanHouse$Tree" "from" "[I" "LoanHouse" ∈ NST := List.mem_of_getElem? (i := 37) rfl
theorem nw_38 : Cond.methodLinkNest "LoanHouse$Reader" 115 ⟨"LoanHouse$Tree", "append", "(III)I"⟩ "LoanHouse" ∈ NST := List.mem_of_getElem? (i := 38) rfl
theorem nw_39 : Cond.fieldLinkNest "LoanHouse$Checker" 15 "LoanHouse$Program" "types" "LLoanHouse$Types;" "LoanHouse" ∈ NST := List.mem_of_getElem? (i := 39) rfl
theorem nw_40 : Cond.fieldLinkNest "LoanHouse$Checker" 22 "LoanHouse$Program" "functions" "LLoanHouse$Functions;" "LoanHouse" ∈ NST := List.mem_of_getElem? (i := 40) rfl
theorem nw_41 : Cond.fieldLinkNest "LoanHouse$Checker" 27 "LoanHouse$Program" "variables" "LLoanHouse$Variables;" "LoanHouse" ∈ NST := List.mem_of_getElem? (i := 41) rfl
theorem nw_42 : Cond.fieldLinkNest "LoanHouse$Checker" 32 "LoanHouse$Program" "places" "LLoanHouse$Places;" "LoanHouse" ∈ NST := List.mem_of_getElem? (i := 42) rfl
theorem nw_43 : Cond.fieldLinkNest "LoanHouse$Checker" 42 "LoanHouse$Tree" "a" "[I" "LoanHouse" ∈ NST := List.mem_of_getElem? (i := 43) rfl
theorem nw_44 : Cond.fieldLinkNest "LoanHouse$Checker" 52 "LoanHouse$Tree" "kind" "[I" "LoanHouse" ∈ NST := List.mem_of_getElem? (i := 44) rfl
theorem nw_45 : Cond.fieldLinkNest "LoanHouse$Checker" 59 "LoanHouse$Tree" "next" "[I" "LoanHouse" ∈ NST := List.mem_of_getElem? (i := 45) rfl
theorem nw_46 : Cond.methodLinkNest "LoanHouse$Checker" 62 yX9_measure "LoanHouse" ∈ NST := List.mem_of_getElem? (i := 46) rfl
theorem nw_47 : Cond.fieldLinkNest "LoanHouse$Checker" 70 "LoanHouse$Functions" "total" "I" "LoanHouse" ∈ NST := List.mem_of_getElem? (i := 47) rfl
theorem nw_48 : Cond.fieldLinkNest "LoanHouse$Checker" 90 "LoanHouse$Tree" "name" "[I" "LoanHouse" ∈ NST := List.mem_of_getElem? (i := 48) rfl
theorem nw_49 : Cond.fieldLinkNest "LoanHouse$Checker" 93 "LoanHouse$Tree" "from" "[I" "LoanHouse" ∈ NST := List.mem_of_getElem? (i := 49) rfl
theorem nw_50 : Cond.methodLinkNest "LoanHouse$Checker" 100 ⟨"LoanHouse$Functions", "find", "(I)I"⟩ "LoanHouse" ∈ NST := List.mem_of_getElem? (i := 50) rfl
theorem nw_51 : Cond.fieldLinkNest "LoanHouse$Checker" 104 "LoanHouse$Tree" "pos" "[I" "LoanHouse" ∈ NST := List.mem_of_getElem? (i := 51) rfl
theorem nw_52 : Cond.methodLinkNest "LoanHouse$Checker" 111 ⟨"LoanHouse$Functions", "add", "(II)V"⟩ "LoanHouse" ∈ NST := List.mem_of_getElem? (i := 52) rfl
theorem nw_53 : Cond.fieldLinkNest "LoanHouse$Checker" 114 "LoanHouse$Types" "decls" "I" "LoanHouse" ∈ NST := List.mem_of_getElem? (i := 53) rfl
theorem nw_54 : Cond.methodLinkNest "LoanHouse$Checker" 117 ⟨"LoanHouse$Types", "findDecl", "(I)I"⟩ "LoanHouse" ∈ NST := List.mem_of_getElem? (i := 54) rfl
theorem nw_55 : Cond.fieldLinkNest "LoanHouse$Checker" 120 "LoanHouse$Tree" "ref" "[I" "LoanHouse" ∈ NST := List.mem_of_getElem? (i := 55) rfl
theorem nw_56 : Cond.methodLinkNest "LoanHouse$Checker" 123 ⟨"LoanHouse$Types", "addDecl", "(II)V"⟩ "LoanHouse" ∈ NST := List.mem_of_getElem? (i := 56) rfl
theorem nw_57 : Cond.fieldLinkNest "LoanHouse$Checker" 174 "LoanHouse$Types" "declCells" "[I" "LoanHouse" ∈ NST := List.mem_of_getElem? (i := 57) rfl
theorem nw_58 : Cond.fieldLinkNest "LoanHouse$Checker" 177 "LoanHouse$Types" "declParts" "[I" "LoanHouse" ∈ NST := List.mem_of_getElem? (i := 58) rfl
theorem nw_59 : Cond.fieldLinkNest "LoanHouse$Checker" 180 "LoanHouse$Functions" "node" "[I" "LoanHouse" ∈ NST := List.mem_of_getElem? (i := 59) rfl
theorem nw_60 : Cond.fieldLinkNest "LoanHouse$Checker" 201 "LoanHouse$Tree" "b" "[I" "LoanHouse" ∈ NST := List.mem_of_getElem? (i := 60) rfl
theorem nw_61 : Cond.fieldLinkNest "LoanHouse$Checker" 224 "LoanHouse$Functions" "main" "I" "LoanHouse" ∈ NST := List.mem_of_getElem? (i := 61) rfl
theorem nw_62 : Cond.methodLinkNest "LoanHouse$Machine" 11 yX7_init "LoanHouse" ∈ NST := List.mem_of_getElem? (i := 62) rfl
theorem nw_63 : Cond.methodLinkNest "LoanHouse$Program" 11 yX9_init "LoanHouse" ∈ NST := List.mem_of_getElem? (i := 63) rfl
theorem nw_64 : Cond.methodLinkNest "LoanHouse$Program" 20 yX2_init "LoanHouse" ∈ NST := List.mem_of_getElem? (i := 64) rfl
theorem nw_65 : Cond.methodLinkNest "LoanHouse$Program" 27 yX10_init "LoanHouse" ∈ NST := List.mem_of_getElem? (i := 65) rfl
theorem nw_66 : Cond.methodLinkNest "LoanHouse$Program" 34 yX4_init "LoanHouse" ∈ NST := List.mem_of_getElem? (i := 66) rfl
theorem nw_67 : Cond.methodLinkNest "LoanHouse$Program" 61 yX9_clear "LoanHouse" ∈ NST := List.mem_of_getElem? (i := 67) rfl
theorem nw_68 : Cond.methodLinkNest "LoanHouse$Program" 64 yX2_clear "LoanHouse" ∈ NST := List.mem_of_getElem? (i := 68) rfl
theorem nw_69 : Cond.methodLinkNest "LoanHouse$Program" 65 yX10_clear "LoanHouse" ∈ NST := List.mem_of_getElem? (i := 69) rfl
theorem nw_70 : Cond.methodLinkNest "LoanHouse$Program" 66 yX4_clear "LoanHouse" ∈ NST := List.mem_of_getElem? (i := 70) rfl
theorem nw_71 : Cond.methodLinkNest "LoanHouseModel" 1237 yX23_init "LoanHouseModel" ∈ NST := List.mem_of_getElem? (i := 71) rfl
theorem nst_in : ∀ w ∈ NST, w ∈ lw_tbl := fun w h => (by
  have e : NST = [98, 174, 284, 324, 361, 435, 585, 1121, 1402, 1422, 1749, 1862, 2037, 2038, 2054, 2058, 2079, 2303, 519, 2311, 976, 625, 982, 757, 993, 910, 928, 2323, 2332, 2349, 2354, 619, 472, 474, 2374, 1231, 1239, 111, 1283, 972, 978, 984, 989, 118, 103, 130, 1503, 754, 114, 112, 1440, 108, 1448, 624, 1452, 141, 1456, 618, 621, 698, 123, 760, 441, 591, 691, 802, 864, 1406, 1410, 1414, 1418, 2975].filterMap (fun i => lw_tbl[i]?) := by decide +kernel
  rw [e] at h
  obtain ⟨i, -, hi⟩ := List.mem_filterMap.mp h
  exact List.mem_of_getElem? hi)
def isNest : Cond → Bool
  | .fieldLinkNest .. => true
  | .methodLinkNest .. => true
  | _ => false
theorem nst_ok : ∀ w ∈ NST, isNest w = true := by decide +kernel
def CL : List vw_C := [("LoanHouse", TX12, 17), ("LoanHouse$Tree", TX8, 12), ("LoanHouse$Reader", TX6, 18), ("LoanHouse$Checker", TX0, 11), ("LoanHouse$Emitter", TX1, 10), ("LoanHouse$Ways", TX11, 22), ("LoanHouse$Machine", TX3, 21), ("LoanHouse$Store", TX7, 19), ("LoanHouse$Program", TX5, 15), ("LoanHouse$Types", TX9, 19), ("LoanHouse$Functions", TX2, 19), ("LoanHouse$Variables", TX10, 12), ("LoanHouse$Places", TX4, 20), ("LoanHouseModel", TX30, 95), ("LoanHouseModel$Type", TX26, 3), ("LoanHouseModel$Program", TX23, 4), ("java/lang/StringBuilder", TJ4, 4), ("java/lang/String", TJ0, 4), ("java/util/ArrayList", TJx4a65c, 3)]

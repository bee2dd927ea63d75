/-! a layer of its own over the kit: the heap, the locals and the rest of the machine are hidden in one judgement G over the listed world, the listed locals, the stack -/
abbrev KS : Type := Nat → Nat
def TYS (K : KS) : List (ClassId × FieldType) := [(K 0, .int), (K 1, .long), (K 2, .byte), (K 3, .boolean), (K 4, .object "java/lang/String")]
def AOS : List String := ["LoanHouseModel$Exp", "LoanHouseModel$Fn", "LoanHouseModel$Node", "LoanHouseModel$Type", "LoanHouseModel$Var", "java/lang/Object", "java/lang/String"]
def txW : String := "record choice told fn of let if else while break continue return match print fail read new box row open len push pop swap int bool true false and or not main"
def byW : List Int32 := [114, 101, 99, 111, 114, 100, 32, 99, 104, 111, 105, 99, 101, 32, 116, 111, 108, 100, 32, 102, 110, 32, 111, 102, 32, 108, 101, 116, 32, 105, 102, 32, 101, 108, 115, 101, 32, 119, 104, 105, 108, 101, 32, 98, 114, 101, 97, 107, 32, 99, 111, 110, 116, 105, 110, 117, 101, 32, 114, 101, 116, 117, 114, 110, 32, 109, 97, 116, 99, 104, 32, 112, 114, 105, 110, 116, 32, 102, 97, 105, 108, 32, 114, 101, 97, 100, 32, 110, 101, 119, 32, 98, 111, 120, 32, 114, 111, 119, 32, 111, 112, 101, 110, 32, 108, 101, 110, 32, 112, 117, 115, 104, 32, 112, 111, 112, 32, 115, 119, 97, 112, 32, 105, 110, 116, 32, 98, 111, 111, 108, 32, 116, 114, 117, 101, 32, 102, 97, 108, 115, 101, 32, 97, 110, 100, 32, 111, 114, 32, 110, 111, 116, 32, 109, 97, 105, 110]
def fW (j : Nat) : Int32 := byW.getD j 0
def EV (K : KS) (A : Nat → Prop) (U : State) (H : Heap) : Prop :=
  (∀ w ∈ NST, va_Nw w U) ∧ (∀ C ∈ AOS, va_AO C U) ∧ vk_R "LoanHouse$Reader" 9 txW (K 10) U ∧ vk_R "LoanHouseModel" 208 "" (K 13) U ∧ vk_R "LoanHouseModel" 816 "main" (K 14) U ∧
  va_Z "java/lang/String" "COMPACT_STRINGS" "Z" (.int 1) A U H ∧ va_Zq "jdk/internal/util/Preconditions" "SIOOBE_FORMATTER" "Ljava/util/function/BiFunction;" A U H ∧ va_Z "java/util/ArrayList" "DEFAULTCAPACITY_EMPTY_ELEMENTDATA" "[Ljava/lang/Object;" (.ref (K 12)) A U H ∧
  va_O "java/lang/String" (K 10) A U H ∧ va_OF "java/lang/String" "coder" "B" (.int 0) (K 10) A U H ∧ va_OF "java/lang/String" "value" "[B" (.ref (K 11)) (K 10) A U H ∧ va_T .byte (K 11) 157 (fun j => .int (fW j)) A U H ∧ va_O "java/lang/String" (K 13) A U H ∧ (Cond.arrayOver (.array .long)).before #[] U = true
theorem nst_tab {w : Cond} (h : isNest w = true) : w.onTables = true := by
  cases w <;> first | rfl | (simp [isNest] at h)
theorem nst_warm {w : Cond} (h : isNest w = true) {s U : State} (hW : s.WarmedH U.vm) (hZ : va_Nw w s) : va_Nw w U := by
  cases w <;> first | exact va_Nw.warmF hW hZ | exact va_Nw.warmM hW hZ | (simp [isNest] at h)
theorem EV.to {K : KS} {A B : Nat → Prop} {s U : State} {H : Heap} {locs : List Loc} (h : EV K A s s.heap) (hW : s.WarmedH U.vm) (hS : va_S A s.heap H locs) (hH : U.heap = H) (hAB : ∀ q, B q → A q) : EV K B U U.heap := by
  obtain ⟨h1, h2, h3, h4, h5, h6, h7, h8, h9, h10, h11, h12, h13, h14⟩ := h
  have hk := hS.2.1
  subst hH
  have ha := hW.alike
  exact ⟨fun w hw => nst_warm (nst_ok w hw) hW (h1 w hw), fun C hC => (h2 C hC).moved ha, h3.warm hW, h4.warm hW, h5.warm hW, va_Z.moved ha ((h6.kept hk).narrow hAB), va_Zq.moved ha ((h7.kept hk).narrow hAB), va_Z.moved ha ((h8.kept hk).narrow hAB), va_O.moved ha ((h9.kept hk).narrow hAB), va_OF.moved ha ((h10.kept hk).narrow hAB), va_OF.moved ha ((h11.kept hk).narrow hAB), va_T.moved ha ((h12.kept hk).narrow hAB), va_O.moved ha ((h13.kept hk).narrow hAB), over_moved ha h14⟩
theorem EV.same {K : KS} {A : Nat → Prop} {u U : State} {H : Heap} (h : EV K A u H) (hv : U.vm = u.vm) : EV K A U H := by
  obtain ⟨h1, h2, h3, h4, h5, h6, h7, h8, h9, h10, h11, h12, h13, h14⟩ := h
  have ha : u.vm.Alike U.vm := by rw [hv]; exact Vm.Alike.refl u.vm
  exact ⟨fun w hw => va_Nw.same (nst_tab (nst_ok w hw)) hv.symm (h1 w hw), fun C hC => (h2 C hC).moved ha, h3.same hv, h4.same hv, h5.same hv, va_Z.moved ha h6, va_Zq.moved ha h7, va_Z.moved ha h8, va_O.moved ha h9, va_OF.moved ha h10, va_OF.moved ha h11, va_T.moved ha h12, va_O.moved ha h13, over_moved ha h14⟩
/-- what a walk stands in: program, launch, env, room, state, method, arguments, below, method, code, end, classes, K, A, locals -/
abbrev GX : Type := Program × Launch × Env × Room × State × MethodId × Array Value × List Frame × Method × Code × (State → Prop) × va_G × KS × (Nat → Prop) × Nat
abbrev gp (X : GX) : Program := X.1
abbrev gl (X : GX) : Launch := X.2.1
abbrev ge (X : GX) : Env := X.2.2.1
abbrev gR (X : GX) : Room := X.2.2.2.1
abbrev gs (X : GX) : State := X.2.2.2.2.1
abbrev gm (X : GX) : MethodId := X.2.2.2.2.2.1
abbrev ga (X : GX) : Array Value := X.2.2.2.2.2.2.1
abbrev gb (X : GX) : List Frame := X.2.2.2.2.2.2.2.1
abbrev gt (X : GX) : Method := X.2.2.2.2.2.2.2.2.1
abbrev gc (X : GX) : Code := X.2.2.2.2.2.2.2.2.2.1
abbrev gQ (X : GX) : State → Prop := X.2.2.2.2.2.2.2.2.2.2.1
abbrev gD (X : GX) : va_G := X.2.2.2.2.2.2.2.2.2.2.2.1
abbrev gK (X : GX) : KS := X.2.2.2.2.2.2.2.2.2.2.2.2.1
abbrev gA (X : GX) : Nat → Prop := X.2.2.2.2.2.2.2.2.2.2.2.2.2.1
abbrev gn (X : GX) : Nat := X.2.2.2.2.2.2.2.2.2.2.2.2.2.2
def G (X : GX) (cells slots : Nat) (ws : va_W) (lv : List (Nat × Value)) (pc : Nat) (st : List Value) : Prop :=
  ∀ (H : Heap) (locs : List Loc) (ls : Array Slot), va_P (gD X) CL ws H → va_D (gA X) ws → va_S (gA X) (gs X).heap H locs → lv_has ls (gn X) lv → W (gp X) (gl X) (ge X) (gR X) (gs X) (gm X) (ga X) (gb X) (gt X) (gc X) H locs cells slots (gQ X) (F0 (gm X) pc ls st)
def GC (X : GX) (cc : ByteArray) (nL : Nat) (own : String) (ret : Option FieldType) : Prop :=
  (gp X).tables.exec = Jvm.exec ∧ (gc X).code = cc ∧ (gt X).sig.returnType = ret ∧ (gc X).maxLocals = nL ∧ gn X = nL ∧ (gs X).vm.findClass own = some (gm X).cls ∧ (∀ w ∈ TBL, w.before (ga X) (gs X) = true) ∧ va_K (gD X) CL (TYS (gK X)) (gs X) ∧ (∀ q, (gs X).heap.size ≤ q → (gA X) q) ∧ (gt X).locks = false ∧ EV (gK X) (gA X) (gs X) (gs X).heap
def WPost (D : va_G) (ws : va_W) (sz : Nat) (Post : Option Value → va_W → Prop) : Array Value → State → Outcome → State → Prop := fun _ st oc t => (∃ (v : Option Value) (ws' : va_W), oc = .returned v ∧ Post v ws' ∧ va_P D CL ws' t.heap ∧ va_D (va_A ws sz) ws') ∧ va_F (va_A ws sz) st t
def WPre (D : va_G) (K : KS) (ws : va_W) (sz : Nat) : State → Prop := fun U => U.heap.size = sz ∧ va_P D CL ws U.heap ∧ va_K D CL (TYS K) U ∧ va_D (fun _ => True) ws ∧ EV K (va_A ws sz) U U.heap
/-- a contract: from the world ws, with the arguments av, the method returns, and the answer and the world behind it are as Post says -/
def Con (l : Launch) (D : va_G) (K : KS) (y : MethodName) (cc : ByteArray) (nL : Nat) (ret : Option FieldType) (fr lo mc ms : Nat) (av : List Value) (ws : va_W) (Post : Option Value → va_W → Prop) : Prop :=
  ∀ sz : Nat, Met l y (Cond.code y cc nL ret :: TBL) ({ frames := fr, cells := mc, slots := ms, locals := lo }) (va_Pc av (WPre D K ws sz)) (WPost D ws sz Post) mc ms (va_A ws sz)
def GR (X : GX) (fr lo mc ms : Nat) : Prop := gR X = { frames := fr, cells := mc, slots := ms, locals := lo }
def GQ (X : GX) (ws : va_W) (mc ms : Nat) (Post : Option Value → va_W → Prop) : Prop := gQ X = MQ (gb X) (WPost (gD X) ws (gs X).heap.size Post) (ga X) (gs X) mc ms (va_A ws (gs X).heap.size) ∧ gA X = va_A ws (gs X).heap.size
theorem Con.of {l : Launch} {D : va_G} {K : KS} {y : MethodName} {cc : ByteArray} {nL : Nat} {ret : Option FieldType} {fr lo mc ms : Nat} {av : List Value} {ws : va_W} {Post : Option Value → va_W → Prop} (hy : plainName y.cls = true) (hlen : (lg_sl av).length ≤ nL)
    (h : ∀ X : GX, gl X = l → gD X = D → gK X = K → GC X cc nL y.cls ret → GR X fr lo mc ms → GQ X ws mc ms Post → (gt X).name = y.name → G X 0 0 ws (lv_args 0 av) 0 []) : Con l D K y cc nL ret fr lo mc ms av ws Post := by
  intro sz
  refine Met.ofW (cc := cc) (maxL := nL) (ret := ret) hy rfl ?_
  intro p e s m args below meth c s₁ B hml hv
  obtain ⟨rfl, hsz, hP, hK, hD0, hE⟩ := hv
  have hts := atoms_spec (ws := Cond.code y cc nL ret :: TBL) B.pre
  have hown : s.vm.findClass y.cls = some m.cls := findClass_of_methodNamed B.named
  have hname := (name_of_methodNamed B.named B.method).1
  subst hsz
  have hl := lv_entry av (n := nL) hlen
  rw [lg_entry_eq]
  have hA : ∀ q : Nat, s.heap.size ≤ q → va_A ws s.heap.size q := fun q h => Or.inr h
  exact h (p, l, e, _, s, m, av.toArray, below, meth, c, _, D, K, va_A ws s.heap.size, nL) rfl rfl rfl ⟨B.exec, B.bytes, B.returns, hml, rfl, hown, fun w hw => hts w (List.mem_cons_of_mem _ hw), hK, hA, B.notSynchronized, hE⟩ rfl ⟨rfl, rfl⟩ hname s.heap [] _ hP hD0.self va_S.rf hl
section G2
variable {X : GX} {cc : ByteArray} {nL : Nat} {own : String} {ret : Option FieldType} {a b : Nat} {ws : va_W} {lv : List (Nat × Value)} {pc z : Nat} {st : List Value}
theorem g_ws {w2 : va_W} (h : ws = w2) (k : G X a b w2 lv pc st) : G X a b ws lv pc st := h ▸ k
theorem g_st {s2 : List Value} (h : st = s2) (k : G X a b ws lv pc s2) : G X a b ws lv pc st := h ▸ k
theorem g_lv {l2 : List (Nat × Value)} (ks : List Nat) (h : lv_pick lv ks = l2) (k : G X a b ws l2 pc st) : G X a b ws lv pc st := fun H locs ls hP hD hS hl => k H locs ls hP hD hS (lv_sub hl ks h)
theorem g_pc (h : pc = z) (k : G X a b ws lv z st) : G X a b ws lv pc st := h ▸ k
/-- fewer cells, in any order, by their places -/
theorem g_sub {w2 : va_W} (is : List Nat) (hn : va_nd is = true) (hs : is.map (fun i => ws[i]?) = w2.map some) (hf : is.filterMap (fun i => ws[i]?) = w2) (k : G X a b w2 lv pc st) : G X a b ws lv pc st := fun H locs ls hP hD hS hl => k H locs ls (hP.sub is hf) (hD.sub is hn hs) hS hl
theorem g_widen {a2 b2 : Nat} (h1 : a ≤ a2) (h2 : b ≤ b2) (k : G X a2 b2 ws lv pc st) : G X a b ws lv pc st := fun H locs ls hP hD hS hl => W.widen h1 h2 (k H locs ls hP hD hS hl)
theorem g_iconst {n : Int} {v : Int32} (C : GC X cc nL own ret) (hdg : decode cc pc = .ok (.iconst n, 1)) (hv : Int32.ofInt n = v) (hz : pc + 1 = z) (k : G X a b ws lv z (.int v :: st)) : G X a b ws lv pc (st) := fun H locs ls hP hD hS hl => by
  subst hz
  exact lv_iconst C.1 C.2.1 hdg hv (k H locs ls hP hD hS hl)
theorem g_bipush {n : Int} {v : Int32} (C : GC X cc nL own ret) (hdg : decode cc pc = .ok (.bipush n, 2)) (hv : (Int8.ofInt n).toInt32 = v) (hz : pc + 2 = z) (k : G X a b ws lv z (.int v :: st)) : G X a b ws lv pc (st) := fun H locs ls hP hD hS hl => by
  subst hz
  exact lv_bipush C.1 C.2.1 hdg hv (k H locs ls hP hD hS hl)
theorem g_sipush {n : Int} {v : Int32} (C : GC X cc nL own ret) (hdg : decode cc pc = .ok (.sipush n, 3)) (hv : (Int16.ofInt n).toInt32 = v) (hz : pc + 3 = z) (k : G X a b ws lv z (.int v :: st)) : G X a b ws lv pc (st) := fun H locs ls hP hD hS hl => by
  subst hz
  exact lv_sipush C.1 C.2.1 hdg hv (k H locs ls hP hD hS hl)
theorem g_lconst {n : Fin 2} {v : Int64} (C : GC X cc nL own ret) (hdg : decode cc pc = .ok (.lconst n, 1)) (hv : Int64.ofNat (n : Nat) = v) (hz : pc + 1 = z) (k : G X a b ws lv z (.long v :: st)) : G X a b ws lv pc (st) := fun H locs ls hP hD hS hl => by
  subst hz
  exact lv_lconst C.1 C.2.1 hdg hv (k H locs ls hP hD hS hl)
theorem g_null  (C : GC X cc nL own ret) (hdg : decode cc pc = .ok (.aconst_null, 1)) (hz : pc + 1 = z) (k : G X a b ws lv z (.null :: st)) : G X a b ws lv pc (st) := fun H locs ls hP hD hS hl => by
  subst hz
  exact lv_null C.1 C.2.1 hdg (k H locs ls hP hD hS hl)
theorem g_iload_n {k0 : Fin 4} {i : Nat} {x : Int32} (C : GC X cc nL own ret) (hdg : decode cc pc = .ok (.iload_n k0, 1)) (j : Nat) (hi : (k0 : Nat) = i) (hj : lv[j]? = some (i, .int x)) (hz : pc + 1 = z) (k : G X a b ws lv z (.int x :: st)) : G X a b ws lv pc (st) := fun H locs ls hP hD hS hl => by
  subst hz
  exact lv_iload_n C.1 C.2.1 hdg hi (lv_at hl j hj) (k H locs ls hP hD hS hl)
theorem g_iload {i : Nat} {x : Int32} (C : GC X cc nL own ret) (hdg : decode cc pc = .ok (.iload i, 2)) (j : Nat) (hj : lv[j]? = some (i, .int x)) (hz : pc + 2 = z) (k : G X a b ws lv z (.int x :: st)) : G X a b ws lv pc (st) := fun H locs ls hP hD hS hl => by
  subst hz
  exact lv_iload C.1 C.2.1 hdg (lv_at hl j hj) (k H locs ls hP hD hS hl)
theorem g_lload_n {k0 : Fin 4} {i : Nat} {x : Int64} (C : GC X cc nL own ret) (hdg : decode cc pc = .ok (.lload_n k0, 1)) (j : Nat) (hi : (k0 : Nat) = i) (hj : lv[j]? = some (i, .long x)) (hz : pc + 1 = z) (k : G X a b ws lv z (.long x :: st)) : G X a b ws lv pc (st) := fun H locs ls hP hD hS hl => by
  subst hz
  exact lv_lload_n C.1 C.2.1 hdg hi (lv_at hl j hj) (k H locs ls hP hD hS hl)
theorem g_lload {i : Nat} {x : Int64} (C : GC X cc nL own ret) (hdg : decode cc pc = .ok (.lload i, 2)) (j : Nat) (hj : lv[j]? = some (i, .long x)) (hz : pc + 2 = z) (k : G X a b ws lv z (.long x :: st)) : G X a b ws lv pc (st) := fun H locs ls hP hD hS hl => by
  subst hz
  exact lv_lload C.1 C.2.1 hdg (lv_at hl j hj) (k H locs ls hP hD hS hl)
theorem g_aload_n {k0 : Fin 4} {i : Nat} {x : Nat} (C : GC X cc nL own ret) (hdg : decode cc pc = .ok (.aload_n k0, 1)) (j : Nat) (hi : (k0 : Nat) = i) (hj : lv[j]? = some (i, .ref x)) (hz : pc + 1 = z) (k : G X a b ws lv z (.ref x :: st)) : G X a b ws lv pc (st) := fun H locs ls hP hD hS hl => by
  subst hz
  exact lv_aload_n C.1 C.2.1 hdg hi (lv_at hl j hj) (k H locs ls hP hD hS hl)
theorem g_aload {i : Nat} {x : Nat} (C : GC X cc nL own ret) (hdg : decode cc pc = .ok (.aload i, 2)) (j : Nat) (hj : lv[j]? = some (i, .ref x)) (hz : pc + 2 = z) (k : G X a b ws lv z (.ref x :: st)) : G X a b ws lv pc (st) := fun H locs ls hP hD hS hl => by
  subst hz
  exact lv_aload C.1 C.2.1 hdg (lv_at hl j hj) (k H locs ls hP hD hS hl)
theorem g_aload_nN {k0 : Fin 4} {i : Nat} (C : GC X cc nL own ret) (hdg : decode cc pc = .ok (.aload_n k0, 1)) (j : Nat) (hi : (k0 : Nat) = i) (hj : lv[j]? = some (i, .null)) (hz : pc + 1 = z) (k : G X a b ws lv z (.null :: st)) : G X a b ws lv pc (st) := fun H locs ls hP hD hS hl => by
  subst hz
  exact lv_aload_nN C.1 C.2.1 hdg hi (lv_at hl j hj) (k H locs ls hP hD hS hl)
theorem g_aloadN {i : Nat} (C : GC X cc nL own ret) (hdg : decode cc pc = .ok (.aload i, 2)) (j : Nat) (hj : lv[j]? = some (i, .null)) (hz : pc + 2 = z) (k : G X a b ws lv z (.null :: st)) : G X a b ws lv pc (st) := fun H locs ls hP hD hS hl => by
  subst hz
  exact lv_aloadN C.1 C.2.1 hdg (lv_at hl j hj) (k H locs ls hP hD hS hl)
theorem g_istore_n {k0 : Fin 4} {i : Nat} {x : Int32} {l2 : List (Nat × Value)} (C : GC X cc nL own ret) (hdg : decode cc pc = .ok (.istore_n k0, 1)) (hi : (k0 : Nat) = i) (hn : i < nL) (hf : (i, Value.int x) :: lv.filter (fun q => !(q.1 == i) && !(q.1 + 1 == i && q.2.category == 2)) = l2) (hz : pc + 1 = z) (k : G X a b ws l2 z st) : G X a b ws lv pc (.int x :: st) := fun H locs ls hP hD hS hl => by
  subst hz
  exact lv_istore_n C.1 C.2.1 hdg hi hl (by rw [C.2.2.2.2.1]; exact hn) hf (fun ls hl => k H locs ls hP hD hS hl)
theorem g_istore {i : Nat} {x : Int32} {l2 : List (Nat × Value)} (C : GC X cc nL own ret) (hdg : decode cc pc = .ok (.istore i, 2)) (hn : i < nL) (hf : (i, Value.int x) :: lv.filter (fun q => !(q.1 == i) && !(q.1 + 1 == i && q.2.category == 2)) = l2) (hz : pc + 2 = z) (k : G X a b ws l2 z st) : G X a b ws lv pc (.int x :: st) := fun H locs ls hP hD hS hl => by
  subst hz
  exact lv_istore C.1 C.2.1 hdg hl (by rw [C.2.2.2.2.1]; exact hn) hf (fun ls hl => k H locs ls hP hD hS hl)
theorem g_astore_n {k0 : Fin 4} {i : Nat} {x : Nat} {l2 : List (Nat × Value)} (C : GC X cc nL own ret) (hdg : decode cc pc = .ok (.astore_n k0, 1)) (hi : (k0 : Nat) = i) (hn : i < nL) (hf : (i, Value.ref x) :: lv.filter (fun q => !(q.1 == i) && !(q.1 + 1 == i && q.2.category == 2)) = l2) (hz : pc + 1 = z) (k : G X a b ws l2 z st) : G X a b ws lv pc (.ref x :: st) := fun H locs ls hP hD hS hl => by
  subst hz
  exact lv_astore_n C.1 C.2.1 hdg hi hl (by rw [C.2.2.2.2.1]; exact hn) hf (fun ls hl => k H locs ls hP hD hS hl)
theorem g_astore {i : Nat} {x : Nat} {l2 : List (Nat × Value)} (C : GC X cc nL own ret) (hdg : decode cc pc = .ok (.astore i, 2)) (hn : i < nL) (hf : (i, Value.ref x) :: lv.filter (fun q => !(q.1 == i) && !(q.1 + 1 == i && q.2.category == 2)) = l2) (hz : pc + 2 = z) (k : G X a b ws l2 z st) : G X a b ws lv pc (.ref x :: st) := fun H locs ls hP hD hS hl => by
  subst hz
  exact lv_astore C.1 C.2.1 hdg hl (by rw [C.2.2.2.2.1]; exact hn) hf (fun ls hl => k H locs ls hP hD hS hl)
theorem g_astore_nN {k0 : Fin 4} {i : Nat} {l2 : List (Nat × Value)} (C : GC X cc nL own ret) (hdg : decode cc pc = .ok (.astore_n k0, 1)) (hi : (k0 : Nat) = i) (hn : i < nL) (hf : (i, Value.null) :: lv.filter (fun q => !(q.1 == i) && !(q.1 + 1 == i && q.2.category == 2)) = l2) (hz : pc + 1 = z) (k : G X a b ws l2 z st) : G X a b ws lv pc (.null :: st) := fun H locs ls hP hD hS hl => by
  subst hz
  exact lv_astore_nN C.1 C.2.1 hdg hi hl (by rw [C.2.2.2.2.1]; exact hn) hf (fun ls hl => k H locs ls hP hD hS hl)
theorem g_astoreN {i : Nat} {l2 : List (Nat × Value)} (C : GC X cc nL own ret) (hdg : decode cc pc = .ok (.astore i, 2)) (hn : i < nL) (hf : (i, Value.null) :: lv.filter (fun q => !(q.1 == i) && !(q.1 + 1 == i && q.2.category == 2)) = l2) (hz : pc + 2 = z) (k : G X a b ws l2 z st) : G X a b ws lv pc (.null :: st) := fun H locs ls hP hD hS hl => by
  subst hz
  exact lv_astoreN C.1 C.2.1 hdg hl (by rw [C.2.2.2.2.1]; exact hn) hf (fun ls hl => k H locs ls hP hD hS hl)
theorem g_iinc {i : Nat} {n : Int} {x v : Int32} {l2 : List (Nat × Value)} (C : GC X cc nL own ret) (hdg : decode cc pc = .ok (.iinc i n, 3)) (j : Nat) (hj : lv[j]? = some (i, .int x)) (hv : x + Int32.ofInt n = v) (hn : i < nL) (hf : (i, Value.int v) :: lv.filter (fun q => !(q.1 == i) && !(q.1 + 1 == i && q.2.category == 2)) = l2) (hz : pc + 3 = z) (k : G X a b ws l2 z st) : G X a b ws lv pc st := fun H locs ls hP hD hS hl => by
  subst hz
  exact lv_iinc C.1 C.2.1 hdg hl (k := j) hj hv (by rw [C.2.2.2.2.1]; exact hn) hf (fun ls hl => k H locs ls hP hD hS hl)
theorem g_iadd {x y v : Int32} (C : GC X cc nL own ret) (hdg : decode cc pc = .ok (.iadd, 1)) (hv : x + y = v) (hz : pc + 1 = z) (k : G X a b ws lv z (.int v :: st)) : G X a b ws lv pc (.int y :: .int x :: st) := fun H locs ls hP hD hS hl => by
  subst hz; subst hv
  exact lv_iadd C.1 C.2.1 hdg (k H locs ls hP hD hS hl)
theorem g_isub {x y v : Int32} (C : GC X cc nL own ret) (hdg : decode cc pc = .ok (.isub, 1)) (hv : x - y = v) (hz : pc + 1 = z) (k : G X a b ws lv z (.int v :: st)) : G X a b ws lv pc (.int y :: .int x :: st) := fun H locs ls hP hD hS hl => by
  subst hz; subst hv
  exact lv_isub C.1 C.2.1 hdg (k H locs ls hP hD hS hl)
theorem g_imul {x y v : Int32} (C : GC X cc nL own ret) (hdg : decode cc pc = .ok (.imul, 1)) (hv : x * y = v) (hz : pc + 1 = z) (k : G X a b ws lv z (.int v :: st)) : G X a b ws lv pc (.int y :: .int x :: st) := fun H locs ls hP hD hS hl => by
  subst hz; subst hv
  exact lv_imul C.1 C.2.1 hdg (k H locs ls hP hD hS hl)
theorem g_iand {x y v : Int32} (C : GC X cc nL own ret) (hdg : decode cc pc = .ok (.iand, 1)) (hv : x &&& y = v) (hz : pc + 1 = z) (k : G X a b ws lv z (.int v :: st)) : G X a b ws lv pc (.int y :: .int x :: st) := fun H locs ls hP hD hS hl => by
  subst hz; subst hv
  exact lv_iand C.1 C.2.1 hdg (k H locs ls hP hD hS hl)
theorem g_ior {x y v : Int32} (C : GC X cc nL own ret) (hdg : decode cc pc = .ok (.ior, 1)) (hv : x ||| y = v) (hz : pc + 1 = z) (k : G X a b ws lv z (.int v :: st)) : G X a b ws lv pc (.int y :: .int x :: st) := fun H locs ls hP hD hS hl => by
  subst hz; subst hv
  exact lv_ior C.1 C.2.1 hdg (k H locs ls hP hD hS hl)
theorem g_ixor {x y v : Int32} (C : GC X cc nL own ret) (hdg : decode cc pc = .ok (.ixor, 1)) (hv : x ^^^ y = v) (hz : pc + 1 = z) (k : G X a b ws lv z (.int v :: st)) : G X a b ws lv pc (.int y :: .int x :: st) := fun H locs ls hP hD hS hl => by
  subst hz; subst hv
  exact lv_ixor C.1 C.2.1 hdg (k H locs ls hP hD hS hl)
theorem g_ishr {x y v : Int32} (C : GC X cc nL own ret) (hdg : decode cc pc = .ok (.ishr, 1)) (hv : x >>> (y &&& 31) = v) (hz : pc + 1 = z) (k : G X a b ws lv z (.int v :: st)) : G X a b ws lv pc (.int y :: .int x :: st) := fun H locs ls hP hD hS hl => by
  subst hz; subst hv
  exact lv_ishr C.1 C.2.1 hdg (k H locs ls hP hD hS hl)
theorem g_ishl {x y v : Int32} (C : GC X cc nL own ret) (hdg : decode cc pc = .ok (.ishl, 1)) (hv : x <<< (y &&& 31) = v) (hz : pc + 1 = z) (k : G X a b ws lv z (.int v :: st)) : G X a b ws lv pc (.int y :: .int x :: st) := fun H locs ls hP hD hS hl => by
  subst hz; subst hv
  exact lv_ishl C.1 C.2.1 hdg (k H locs ls hP hD hS hl)
theorem g_iushr {x y v : Int32} (C : GC X cc nL own ret) (hdg : decode cc pc = .ok (.iushr, 1)) (hv : (x.toUInt32 >>> (y.toUInt32 &&& Int32.toUInt32 31)).toInt32 = v) (hz : pc + 1 = z) (k : G X a b ws lv z (.int v :: st)) : G X a b ws lv pc (.int y :: .int x :: st) := fun H locs ls hP hD hS hl => by
  subst hz
  exact lv_iushr C.1 C.2.1 hdg hv (k H locs ls hP hD hS hl)
theorem g_land {x y v : Int64} (C : GC X cc nL own ret) (hdg : decode cc pc = .ok (.land, 1)) (hv : x &&& y = v) (hz : pc + 1 = z) (k : G X a b ws lv z (.long v :: st)) : G X a b ws lv pc (.long y :: .long x :: st) := fun H locs ls hP hD hS hl => by
  subst hz; subst hv
  exact lv_land C.1 C.2.1 hdg (k H locs ls hP hD hS hl)
theorem g_lor {x y v : Int64} (C : GC X cc nL own ret) (hdg : decode cc pc = .ok (.lor, 1)) (hv : x ||| y = v) (hz : pc + 1 = z) (k : G X a b ws lv z (.long v :: st)) : G X a b ws lv pc (.long y :: .long x :: st) := fun H locs ls hP hD hS hl => by
  subst hz; subst hv
  exact lv_lor C.1 C.2.1 hdg (k H locs ls hP hD hS hl)
theorem g_ladd {x y v : Int64} (C : GC X cc nL own ret) (hdg : decode cc pc = .ok (.ladd, 1)) (hv : x + y = v) (hz : pc + 1 = z) (k : G X a b ws lv z (.long v :: st)) : G X a b ws lv pc (.long y :: .long x :: st) := fun H locs ls hP hD hS hl => by
  subst hz; subst hv
  exact lv_ladd C.1 C.2.1 hdg (k H locs ls hP hD hS hl)
theorem g_lshl {x v : Int64} {y : Int32} (C : GC X cc nL own ret) (hdg : decode cc pc = .ok (.lshl, 1)) (hv : x <<< (y.toInt64 &&& 63) = v) (hz : pc + 1 = z) (k : G X a b ws lv z (.long v :: st)) : G X a b ws lv pc (.int y :: .long x :: st) := fun H locs ls hP hD hS hl => by
  subst hz
  exact lv_lshl C.1 C.2.1 hdg hv (k H locs ls hP hD hS hl)
theorem g_lcmp {x y : Int64} {v : Int32} (C : GC X cc nL own ret) (hdg : decode cc pc = .ok (.lcmp, 1)) (hv : lg_cmp x y = v) (hz : pc + 1 = z) (k : G X a b ws lv z (.int v :: st)) : G X a b ws lv pc (.long y :: .long x :: st) := fun H locs ls hP hD hS hl => by
  subst hz; subst hv
  exact W.lcmp C.1 C.2.1 hdg (k H locs ls hP hD hS hl)
theorem g_i2b {x : Int32} {v : Int32} (C : GC X cc nL own ret) (hdg : decode cc pc = .ok (.i2b, 1)) (hv : x.toInt8.toInt32 = v) (hz : pc + 1 = z) (k : G X a b ws lv z (.int v :: st)) : G X a b ws lv pc (.int x :: st) := fun H locs ls hP hD hS hl => by
  subst hz
  exact lv_i2b C.1 C.2.1 hdg hv (k H locs ls hP hD hS hl)
theorem g_i2c {x : Int32} {v : Int32} (C : GC X cc nL own ret) (hdg : decode cc pc = .ok (.i2c, 1)) (hv : (x.toUInt32 % 65536).toInt32 = v) (hz : pc + 1 = z) (k : G X a b ws lv z (.int v :: st)) : G X a b ws lv pc (.int x :: st) := fun H locs ls hP hD hS hl => by
  subst hz
  exact lv_i2c C.1 C.2.1 hdg hv (k H locs ls hP hD hS hl)
theorem g_i2l {x : Int32} {v : Int64} (C : GC X cc nL own ret) (hdg : decode cc pc = .ok (.i2l, 1)) (hv : x.toInt64 = v) (hz : pc + 1 = z) (k : G X a b ws lv z (.long v :: st)) : G X a b ws lv pc (.int x :: st) := fun H locs ls hP hD hS hl => by
  subst hz
  exact lv_i2l C.1 C.2.1 hdg hv (k H locs ls hP hD hS hl)
theorem g_dup {va : Value} (C : GC X cc nL own ret) (hdg : decode cc pc = .ok (.dup, 1)) (hc : va.category = 1) (hz : pc + 1 = z) (k : G X a b ws lv z (va :: va :: st)) : G X a b ws lv pc (va :: st) := fun H locs ls hP hD hS hl => by
  subst hz
  exact lv_dup C.1 C.2.1 hdg hc (k H locs ls hP hD hS hl)
theorem g_pop {va : Value} (C : GC X cc nL own ret) (hdg : decode cc pc = .ok (.pop, 1)) (hc : va.category = 1) (hz : pc + 1 = z) (k : G X a b ws lv z (st)) : G X a b ws lv pc (va :: st) := fun H locs ls hP hD hS hl => by
  subst hz
  exact lv_pop C.1 C.2.1 hdg hc (k H locs ls hP hD hS hl)
theorem g_dup_x1 {va vb : Value} (C : GC X cc nL own ret) (hdg : decode cc pc = .ok (.dup_x1, 1)) (hc : va.category = 1) (hc2 : vb.category = 1) (hz : pc + 1 = z) (k : G X a b ws lv z (va :: vb :: va :: st)) : G X a b ws lv pc (va :: vb :: st) := fun H locs ls hP hD hS hl => by
  subst hz
  exact lv_dup_x1 C.1 C.2.1 hdg hc hc2 (k H locs ls hP hD hS hl)
theorem g_goto {off : Int} (C : GC X cc nL own ret) (hdg : decode cc pc = .ok (.goto off, 3)) (ht : (pc : Int) + off = (z : Int)) (k : G X a b ws lv z st) : G X a b ws lv pc st := fun H locs ls hP hD hS hl => lv_goto C.1 C.2.1 hdg ht (k H locs ls hP hD hS hl)
theorem g_if_eq {x : Int32} {off : Int} {z2 : Nat} (C : GC X cc nL own ret) (hdg : decode cc pc = .ok (.ifCond .eq off, 3)) (ht : (pc : Int) + off = (z2 : Int)) (hz : pc + 3 = z) (kt : x = 0 → G X a b ws lv z2 st) (kf : ¬ x = 0 → G X a b ws lv z st) : G X a b ws lv pc (.int x :: st) := fun H locs ls hP hD hS hl => by
  subst hz
  exact lv_if_eq C.1 C.2.1 hdg ht (fun h => kt h H locs ls hP hD hS hl) (fun h => kf h H locs ls hP hD hS hl)
theorem g_if_eq_t {x : Int32} {off : Int} (C : GC X cc nL own ret) (hdg : decode cc pc = .ok (.ifCond .eq off, 3)) (h : x = 0) (ht : (pc : Int) + off = (z : Int)) (kt : G X a b ws lv z st) : G X a b ws lv pc (.int x :: st) := fun H locs ls hP hD hS hl => lv_if_eq C.1 C.2.1 hdg ht (fun _ => kt H locs ls hP hD hS hl) (fun h2 => by first | exact absurd h h2 | exact absurd h2 h)
theorem g_if_eq_f {x : Int32} {off : Int} (z2 : Nat) (C : GC X cc nL own ret) (hdg : decode cc pc = .ok (.ifCond .eq off, 3)) (h : ¬ x = 0) (ht : (pc : Int) + off = (z2 : Int)) (hz : pc + 3 = z) (kf : G X a b ws lv z st) : G X a b ws lv pc (.int x :: st) := fun H locs ls hP hD hS hl => by
  subst hz
  exact lv_if_eq C.1 C.2.1 hdg ht (fun h2 => by first | exact absurd h h2 | exact absurd h2 h) (fun _ => kf H locs ls hP hD hS hl)
theorem g_icmp_eq {x y : Int32} {off : Int} {z2 : Nat} (C : GC X cc nL own ret) (hdg : decode cc pc = .ok (.if_icmp .eq off, 3)) (ht : (pc : Int) + off = (z2 : Int)) (hz : pc + 3 = z) (kt : x = y → G X a b ws lv z2 st) (kf : ¬ x = y → G X a b ws lv z st) : G X a b ws lv pc (.int y :: .int x :: st) := fun H locs ls hP hD hS hl => by
  subst hz
  exact lv_icmp_eq C.1 C.2.1 hdg ht (fun h => kt h H locs ls hP hD hS hl) (fun h => kf h H locs ls hP hD hS hl)
theorem g_icmp_eq_t {x y : Int32} {off : Int} (C : GC X cc nL own ret) (hdg : decode cc pc = .ok (.if_icmp .eq off, 3)) (h : x = y) (ht : (pc : Int) + off = (z : Int)) (kt : G X a b ws lv z st) : G X a b ws lv pc (.int y :: .int x :: st) := fun H locs ls hP hD hS hl => lv_icmp_eq C.1 C.2.1 hdg ht (fun _ => kt H locs ls hP hD hS hl) (fun h2 => by first | exact absurd h h2 | exact absurd h2 h)
theorem g_icmp_eq_f {x y : Int32} {off : Int} (z2 : Nat) (C : GC X cc nL own ret) (hdg : decode cc pc = .ok (.if_icmp .eq off, 3)) (h : ¬ x = y) (ht : (pc : Int) + off = (z2 : Int)) (hz : pc + 3 = z) (kf : G X a b ws lv z st) : G X a b ws lv pc (.int y :: .int x :: st) := fun H locs ls hP hD hS hl => by
  subst hz
  exact lv_icmp_eq C.1 C.2.1 hdg ht (fun h2 => by first | exact absurd h h2 | exact absurd h2 h) (fun _ => kf H locs ls hP hD hS hl)
theorem g_if_ne {x : Int32} {off : Int} {z2 : Nat} (C : GC X cc nL own ret) (hdg : decode cc pc = .ok (.ifCond .ne off, 3)) (ht : (pc : Int) + off = (z2 : Int)) (hz : pc + 3 = z) (kt : ¬ x = 0 → G X a b ws lv z2 st) (kf : x = 0 → G X a b ws lv z st) : G X a b ws lv pc (.int x :: st) := fun H locs ls hP hD hS hl => by
  subst hz
  exact lv_if_ne C.1 C.2.1 hdg ht (fun h => kt h H locs ls hP hD hS hl) (fun h => kf h H locs ls hP hD hS hl)
theorem g_if_ne_t {x : Int32} {off : Int} (C : GC X cc nL own ret) (hdg : decode cc pc = .ok (.ifCond .ne off, 3)) (h : ¬ x = 0) (ht : (pc : Int) + off = (z : Int)) (kt : G X a b ws lv z st) : G X a b ws lv pc (.int x :: st) := fun H locs ls hP hD hS hl => lv_if_ne C.1 C.2.1 hdg ht (fun _ => kt H locs ls hP hD hS hl) (fun h2 => by first | exact absurd h h2 | exact absurd h2 h)
theorem g_if_ne_f {x : Int32} {off : Int} (z2 : Nat) (C : GC X cc nL own ret) (hdg : decode cc pc = .ok (.ifCond .ne off, 3)) (h : x = 0) (ht : (pc : Int) + off = (z2 : Int)) (hz : pc + 3 = z) (kf : G X a b ws lv z st) : G X a b ws lv pc (.int x :: st) := fun H locs ls hP hD hS hl => by
  subst hz
  exact lv_if_ne C.1 C.2.1 hdg ht (fun h2 => by first | exact absurd h h2 | exact absurd h2 h) (fun _ => kf H locs ls hP hD hS hl)
theorem g_icmp_ne {x y : Int32} {off : Int} {z2 : Nat} (C : GC X cc nL own ret) (hdg : decode cc pc = .ok (.if_icmp .ne off, 3)) (ht : (pc : Int) + off = (z2 : Int)) (hz : pc + 3 = z) (kt : ¬ x = y → G X a b ws lv z2 st) (kf : x = y → G X a b ws lv z st) : G X a b ws lv pc (.int y :: .int x :: st) := fun H locs ls hP hD hS hl => by
  subst hz
  exact lv_icmp_ne C.1 C.2.1 hdg ht (fun h => kt h H locs ls hP hD hS hl) (fun h => kf h H locs ls hP hD hS hl)
theorem g_icmp_ne_t {x y : Int32} {off : Int} (C : GC X cc nL own ret) (hdg : decode cc pc = .ok (.if_icmp .ne off, 3)) (h : ¬ x = y) (ht : (pc : Int) + off = (z : Int)) (kt : G X a b ws lv z st) : G X a b ws lv pc (.int y :: .int x :: st) := fun H locs ls hP hD hS hl => lv_icmp_ne C.1 C.2.1 hdg ht (fun _ => kt H locs ls hP hD hS hl) (fun h2 => by first | exact absurd h h2 | exact absurd h2 h)
theorem g_icmp_ne_f {x y : Int32} {off : Int} (z2 : Nat) (C : GC X cc nL own ret) (hdg : decode cc pc = .ok (.if_icmp .ne off, 3)) (h : x = y) (ht : (pc : Int) + off = (z2 : Int)) (hz : pc + 3 = z) (kf : G X a b ws lv z st) : G X a b ws lv pc (.int y :: .int x :: st) := fun H locs ls hP hD hS hl => by
  subst hz
  exact lv_icmp_ne C.1 C.2.1 hdg ht (fun h2 => by first | exact absurd h h2 | exact absurd h2 h) (fun _ => kf H locs ls hP hD hS hl)
theorem g_if_lt {x : Int32} {off : Int} {z2 : Nat} (C : GC X cc nL own ret) (hdg : decode cc pc = .ok (.ifCond .lt off, 3)) (ht : (pc : Int) + off = (z2 : Int)) (hz : pc + 3 = z) (kt : x < 0 → G X a b ws lv z2 st) (kf : ¬ x < 0 → G X a b ws lv z st) : G X a b ws lv pc (.int x :: st) := fun H locs ls hP hD hS hl => by
  subst hz
  exact lv_if_lt C.1 C.2.1 hdg ht (fun h => kt h H locs ls hP hD hS hl) (fun h => kf h H locs ls hP hD hS hl)
theorem g_if_lt_t {x : Int32} {off : Int} (C : GC X cc nL own ret) (hdg : decode cc pc = .ok (.ifCond .lt off, 3)) (h : x < 0) (ht : (pc : Int) + off = (z : Int)) (kt : G X a b ws lv z st) : G X a b ws lv pc (.int x :: st) := fun H locs ls hP hD hS hl => lv_if_lt C.1 C.2.1 hdg ht (fun _ => kt H locs ls hP hD hS hl) (fun h2 => by first | exact absurd h h2 | exact absurd h2 h)
theorem g_if_lt_f {x : Int32} {off : Int} (z2 : Nat) (C : GC X cc nL own ret) (hdg : decode cc pc = .ok (.ifCond .lt off, 3)) (h : ¬ x < 0) (ht : (pc : Int) + off = (z2 : Int)) (hz : pc + 3 = z) (kf : G X a b ws lv z st) : G X a b ws lv pc (.int x :: st) := fun H locs ls hP hD hS hl => by
  subst hz
  exact lv_if_lt C.1 C.2.1 hdg ht (fun h2 => by first | exact absurd h h2 | exact absurd h2 h) (fun _ => kf H locs ls hP hD hS hl)
theorem g_icmp_lt {x y : Int32} {off : Int} {z2 : Nat} (C : GC X cc nL own ret) (hdg : decode cc pc = .ok (.if_icmp .lt off, 3)) (ht : (pc : Int) + off = (z2 : Int)) (hz : pc + 3 = z) (kt : x < y → G X a b ws lv z2 st) (kf : ¬ x < y → G X a b ws lv z st) : G X a b ws lv pc (.int y :: .int x :: st) := fun H locs ls hP hD hS hl => by
  subst hz
  exact lv_icmp_lt C.1 C.2.1 hdg ht (fun h => kt h H locs ls hP hD hS hl) (fun h => kf h H locs ls hP hD hS hl)
theorem g_icmp_lt_t {x y : Int32} {off : Int} (C : GC X cc nL own ret) (hdg : decode cc pc = .ok (.if_icmp .lt off, 3)) (h : x < y) (ht : (pc : Int) + off = (z : Int)) (kt : G X a b ws lv z st) : G X a b ws lv pc (.int y :: .int x :: st) := fun H locs ls hP hD hS hl => lv_icmp_lt C.1 C.2.1 hdg ht (fun _ => kt H locs ls hP hD hS hl) (fun h2 => by first | exact absurd h h2 | exact absurd h2 h)
theorem g_icmp_lt_f {x y : Int32} {off : Int} (z2 : Nat) (C : GC X cc nL own ret) (hdg : decode cc pc = .ok (.if_icmp .lt off, 3)) (h : ¬ x < y) (ht : (pc : Int) + off = (z2 : Int)) (hz : pc + 3 = z) (kf : G X a b ws lv z st) : G X a b ws lv pc (.int y :: .int x :: st) := fun H locs ls hP hD hS hl => by
  subst hz
  exact lv_icmp_lt C.1 C.2.1 hdg ht (fun h2 => by first | exact absurd h h2 | exact absurd h2 h) (fun _ => kf H locs ls hP hD hS hl)
theorem g_if_ge {x : Int32} {off : Int} {z2 : Nat} (C : GC X cc nL own ret) (hdg : decode cc pc = .ok (.ifCond .ge off, 3)) (ht : (pc : Int) + off = (z2 : Int)) (hz : pc + 3 = z) (kt : 0 ≤ x → G X a b ws lv z2 st) (kf : ¬ 0 ≤ x → G X a b ws lv z st) : G X a b ws lv pc (.int x :: st) := fun H locs ls hP hD hS hl => by
  subst hz
  exact lv_if_ge C.1 C.2.1 hdg ht (fun h => kt h H locs ls hP hD hS hl) (fun h => kf h H locs ls hP hD hS hl)
theorem g_if_ge_t {x : Int32} {off : Int} (C : GC X cc nL own ret) (hdg : decode cc pc = .ok (.ifCond .ge off, 3)) (h : 0 ≤ x) (ht : (pc : Int) + off = (z : Int)) (kt : G X a b ws lv z st) : G X a b ws lv pc (.int x :: st) := fun H locs ls hP hD hS hl => lv_if_ge C.1 C.2.1 hdg ht (fun _ => kt H locs ls hP hD hS hl) (fun h2 => by first | exact absurd h h2 | exact absurd h2 h)
theorem g_if_ge_f {x : Int32} {off : Int} (z2 : Nat) (C : GC X cc nL own ret) (hdg : decode cc pc = .ok (.ifCond .ge off, 3)) (h : ¬ 0 ≤ x) (ht : (pc : Int) + off = (z2 : Int)) (hz : pc + 3 = z) (kf : G X a b ws lv z st) : G X a b ws lv pc (.int x :: st) := fun H locs ls hP hD hS hl => by
  subst hz
  exact lv_if_ge C.1 C.2.1 hdg ht (fun h2 => by first | exact absurd h h2 | exact absurd h2 h) (fun _ => kf H locs ls hP hD hS hl)
theorem g_icmp_ge {x y : Int32} {off : Int} {z2 : Nat} (C : GC X cc nL own ret) (hdg : decode cc pc = .ok (.if_icmp .ge off, 3)) (ht : (pc : Int) + off = (z2 : Int)) (hz : pc + 3 = z) (kt : y ≤ x → G X a b ws lv z2 st) (kf : ¬ y ≤ x → G X a b ws lv z st) : G X a b ws lv pc (.int y :: .int x :: st) := fun H locs ls hP hD hS hl => by
  subst hz
  exact lv_icmp_ge C.1 C.2.1 hdg ht (fun h => kt h H locs ls hP hD hS hl) (fun h => kf h H locs ls hP hD hS hl)
theorem g_icmp_ge_t {x y : Int32} {off : Int} (C : GC X cc nL own ret) (hdg : decode cc pc = .ok (.if_icmp .ge off, 3)) (h : y ≤ x) (ht : (pc : Int) + off = (z : Int)) (kt : G X a b ws lv z st) : G X a b ws lv pc (.int y :: .int x :: st) := fun H locs ls hP hD hS hl => lv_icmp_ge C.1 C.2.1 hdg ht (fun _ => kt H locs ls hP hD hS hl) (fun h2 => by first | exact absurd h h2 | exact absurd h2 h)
theorem g_icmp_ge_f {x y : Int32} {off : Int} (z2 : Nat) (C : GC X cc nL own ret) (hdg : decode cc pc = .ok (.if_icmp .ge off, 3)) (h : ¬ y ≤ x) (ht : (pc : Int) + off = (z2 : Int)) (hz : pc + 3 = z) (kf : G X a b ws lv z st) : G X a b ws lv pc (.int y :: .int x :: st) := fun H locs ls hP hD hS hl => by
  subst hz
  exact lv_icmp_ge C.1 C.2.1 hdg ht (fun h2 => by first | exact absurd h h2 | exact absurd h2 h) (fun _ => kf H locs ls hP hD hS hl)
theorem g_if_gt {x : Int32} {off : Int} {z2 : Nat} (C : GC X cc nL own ret) (hdg : decode cc pc = .ok (.ifCond .gt off, 3)) (ht : (pc : Int) + off = (z2 : Int)) (hz : pc + 3 = z) (kt : 0 < x → G X a b ws lv z2 st) (kf : ¬ 0 < x → G X a b ws lv z st) : G X a b ws lv pc (.int x :: st) := fun H locs ls hP hD hS hl => by
  subst hz
  exact lv_if_gt C.1 C.2.1 hdg ht (fun h => kt h H locs ls hP hD hS hl) (fun h => kf h H locs ls hP hD hS hl)
theorem g_if_gt_t {x : Int32} {off : Int} (C : GC X cc nL own ret) (hdg : decode cc pc = .ok (.ifCond .gt off, 3)) (h : 0 < x) (ht : (pc : Int) + off = (z : Int)) (kt : G X a b ws lv z st) : G X a b ws lv pc (.int x :: st) := fun H locs ls hP hD hS hl => lv_if_gt C.1 C.2.1 hdg ht (fun _ => kt H locs ls hP hD hS hl) (fun h2 => by first | exact absurd h h2 | exact absurd h2 h)
theorem g_if_gt_f {x : Int32} {off : Int} (z2 : Nat) (C : GC X cc nL own ret) (hdg : decode cc pc = .ok (.ifCond .gt off, 3)) (h : ¬ 0 < x) (ht : (pc : Int) + off = (z2 : Int)) (hz : pc + 3 = z) (kf : G X a b ws lv z st) : G X a b ws lv pc (.int x :: st) := fun H locs ls hP hD hS hl => by
  subst hz
  exact lv_if_gt C.1 C.2.1 hdg ht (fun h2 => by first | exact absurd h h2 | exact absurd h2 h) (fun _ => kf H locs ls hP hD hS hl)
theorem g_icmp_gt {x y : Int32} {off : Int} {z2 : Nat} (C : GC X cc nL own ret) (hdg : decode cc pc = .ok (.if_icmp .gt off, 3)) (ht : (pc : Int) + off = (z2 : Int)) (hz : pc + 3 = z) (kt : y < x → G X a b ws lv z2 st) (kf : ¬ y < x → G X a b ws lv z st) : G X a b ws lv pc (.int y :: .int x :: st) := fun H locs ls hP hD hS hl => by
  subst hz
  exact lv_icmp_gt C.1 C.2.1 hdg ht (fun h => kt h H locs ls hP hD hS hl) (fun h => kf h H locs ls hP hD hS hl)
theorem g_icmp_gt_t {x y : Int32} {off : Int} (C : GC X cc nL own ret) (hdg : decode cc pc = .ok (.if_icmp .gt off, 3)) (h : y < x) (ht : (pc : Int) + off = (z : Int)) (kt : G X a b ws lv z st) : G X a b ws lv pc (.int y :: .int x :: st) := fun H locs ls hP hD hS hl => lv_icmp_gt C.1 C.2.1 hdg ht (fun _ => kt H locs ls hP hD hS hl) (fun h2 => by first | exact absurd h h2 | exact absurd h2 h)
theorem g_icmp_gt_f {x y : Int32} {off : Int} (z2 : Nat) (C : GC X cc nL own ret) (hdg : decode cc pc = .ok (.if_icmp .gt off, 3)) (h : ¬ y < x) (ht : (pc : Int) + off = (z2 : Int)) (hz : pc + 3 = z) (kf : G X a b ws lv z st) : G X a b ws lv pc (.int y :: .int x :: st) := fun H locs ls hP hD hS hl => by
  subst hz
  exact lv_icmp_gt C.1 C.2.1 hdg ht (fun h2 => by first | exact absurd h h2 | exact absurd h2 h) (fun _ => kf H locs ls hP hD hS hl)
theorem g_if_le {x : Int32} {off : Int} {z2 : Nat} (C : GC X cc nL own ret) (hdg : decode cc pc = .ok (.ifCond .le off, 3)) (ht : (pc : Int) + off = (z2 : Int)) (hz : pc + 3 = z) (kt : x ≤ 0 → G X a b ws lv z2 st) (kf : ¬ x ≤ 0 → G X a b ws lv z st) : G X a b ws lv pc (.int x :: st) := fun H locs ls hP hD hS hl => by
  subst hz
  exact lv_if_le C.1 C.2.1 hdg ht (fun h => kt h H locs ls hP hD hS hl) (fun h => kf h H locs ls hP hD hS hl)
theorem g_if_le_t {x : Int32} {off : Int} (C : GC X cc nL own ret) (hdg : decode cc pc = .ok (.ifCond .le off, 3)) (h : x ≤ 0) (ht : (pc : Int) + off = (z : Int)) (kt : G X a b ws lv z st) : G X a b ws lv pc (.int x :: st) := fun H locs ls hP hD hS hl => lv_if_le C.1 C.2.1 hdg ht (fun _ => kt H locs ls hP hD hS hl) (fun h2 => by first | exact absurd h h2 | exact absurd h2 h)
theorem g_if_le_f {x : Int32} {off : Int} (z2 : Nat) (C : GC X cc nL own ret) (hdg : decode cc pc = .ok (.ifCond .le off, 3)) (h : ¬ x ≤ 0) (ht : (pc : Int) + off = (z2 : Int)) (hz : pc + 3 = z) (kf : G X a b ws lv z st) : G X a b ws lv pc (.int x :: st) := fun H locs ls hP hD hS hl => by
  subst hz
  exact lv_if_le C.1 C.2.1 hdg ht (fun h2 => by first | exact absurd h h2 | exact absurd h2 h) (fun _ => kf H locs ls hP hD hS hl)
theorem g_icmp_le {x y : Int32} {off : Int} {z2 : Nat} (C : GC X cc nL own ret) (hdg : decode cc pc = .ok (.if_icmp .le off, 3)) (ht : (pc : Int) + off = (z2 : Int)) (hz : pc + 3 = z) (kt : x ≤ y → G X a b ws lv z2 st) (kf : ¬ x ≤ y → G X a b ws lv z st) : G X a b ws lv pc (.int y :: .int x :: st) := fun H locs ls hP hD hS hl => by
  subst hz
  exact lv_icmp_le C.1 C.2.1 hdg ht (fun h => kt h H locs ls hP hD hS hl) (fun h => kf h H locs ls hP hD hS hl)
theorem g_icmp_le_t {x y : Int32} {off : Int} (C : GC X cc nL own ret) (hdg : decode cc pc = .ok (.if_icmp .le off, 3)) (h : x ≤ y) (ht : (pc : Int) + off = (z : Int)) (kt : G X a b ws lv z st) : G X a b ws lv pc (.int y :: .int x :: st) := fun H locs ls hP hD hS hl => lv_icmp_le C.1 C.2.1 hdg ht (fun _ => kt H locs ls hP hD hS hl) (fun h2 => by first | exact absurd h h2 | exact absurd h2 h)
theorem g_icmp_le_f {x y : Int32} {off : Int} (z2 : Nat) (C : GC X cc nL own ret) (hdg : decode cc pc = .ok (.if_icmp .le off, 3)) (h : ¬ x ≤ y) (ht : (pc : Int) + off = (z2 : Int)) (hz : pc + 3 = z) (kf : G X a b ws lv z st) : G X a b ws lv pc (.int y :: .int x :: st) := fun H locs ls hP hD hS hl => by
  subst hz
  exact lv_icmp_le C.1 C.2.1 hdg ht (fun h2 => by first | exact absurd h h2 | exact absurd h2 h) (fun _ => kf H locs ls hP hD hS hl)
theorem g_nullN {off : Int} (C : GC X cc nL own ret) (hdg : decode cc pc = .ok (.ifnull off, 3)) (ht : (pc : Int) + off = (z : Int)) (k : G X a b ws lv z st) : G X a b ws lv pc (.null :: st) := fun H locs ls hP hD hS hl => lv_ifnullN C.1 C.2.1 hdg ht (k H locs ls hP hD hS hl)
theorem g_nullR {off : Int} {x : Nat} (C : GC X cc nL own ret) (hdg : decode cc pc = .ok (.ifnull off, 3)) (hz : pc + 3 = z) (k : G X a b ws lv z st) : G X a b ws lv pc (.ref x :: st) := fun H locs ls hP hD hS hl => by
  subst hz
  exact lv_ifnull C.1 C.2.1 hdg (k H locs ls hP hD hS hl)
theorem g_nonnullN {off : Int} (C : GC X cc nL own ret) (hdg : decode cc pc = .ok (.ifnonnull off, 3)) (hz : pc + 3 = z) (k : G X a b ws lv z st) : G X a b ws lv pc (.null :: st) := fun H locs ls hP hD hS hl => by
  subst hz
  exact lv_ifnonnullN C.1 C.2.1 hdg (k H locs ls hP hD hS hl)
theorem g_nonnullR {off : Int} {x : Nat} (C : GC X cc nL own ret) (hdg : decode cc pc = .ok (.ifnonnull off, 3)) (ht : (pc : Int) + off = (z : Int)) (k : G X a b ws lv z st) : G X a b ws lv pc (.ref x :: st) := fun H locs ls hP hD hS hl => lv_ifnonnull C.1 C.2.1 hdg ht (k H locs ls hP hD hS hl)
theorem g_tableOut {dflt lo hi : Int} {offs : Array Int} {len : Nat} {x : Int32} (C : GC X cc nL own ret) (hdg : decode cc pc = .ok (.tableswitch dflt lo hi offs, len)) (h : x.toInt < lo ∨ hi < x.toInt) (ht : (pc : Int) + dflt = (z : Int)) (k : G X a b ws lv z st) : G X a b ws lv pc (.int x :: st) := fun H locs ls hP hD hS hl => lv_tableOut C.1 C.2.1 hdg h ht (k H locs ls hP hD hS hl)
theorem g_tableIn {dflt lo hi : Int} {offs : Array Int} {len : Nat} {x : Int32} {off : Int} (C : GC X cc nL own ret) (hdg : decode cc pc = .ok (.tableswitch dflt lo hi offs, len)) (h1 : ¬ x.toInt < lo) (h2 : ¬ hi < x.toInt) (ho : offs[(x.toInt - lo).toNat]? = some off) (ht : (pc : Int) + off = (z : Int)) (k : G X a b ws lv z st) : G X a b ws lv pc (.int x :: st) := fun H locs ls hP hD hS hl => lv_tableIn C.1 C.2.1 hdg h1 h2 ho ht (k H locs ls hP hD hS hl)
theorem g_topi {x : Int32} (k : ∀ y : Int32, y = x → G X a b ws lv pc (.int y :: st)) : G X a b ws lv pc (.int x :: st) := k x rfl
theorem g_ldc {index : Nat} {v : Int32} (C : GC X cc nL own ret) (hdg : decode cc pc = .ok (.ldc index, 2)) (hw : Cond.constant own index v ∈ TBL) (hz : pc + 2 = z) (k : G X a b ws lv z (.int v :: st)) : G X a b ws lv pc st := fun H locs ls hP hD hS hl => by
  subst hz
  exact lv_ldc C.1 C.2.1 C.2.2.2.2.2.1 (C.2.2.2.2.2.2.1 _ hw) hdg (k H locs ls hP hD hS hl)
theorem g_ldcw {index : Nat} {v : Int32} (C : GC X cc nL own ret) (hdg : decode cc pc = .ok (.ldc_w index, 3)) (hw : Cond.constant own index v ∈ TBL) (hz : pc + 3 = z) (k : G X a b ws lv z (.int v :: st)) : G X a b ws lv pc st := fun H locs ls hP hD hS hl => by
  subst hz
  exact lv_ldcw C.1 C.2.1 C.2.2.2.2.2.1 (C.2.2.2.2.2.2.1 _ hw) hdg (k H locs ls hP hD hS hl)
theorem g_ldc2 {index : Nat} {v : Int64} (C : GC X cc nL own ret) (hdg : decode cc pc = .ok (.ldc2_w index, 3)) (hw : Cond.constantLong own index v ∈ TBL) (hz : pc + 3 = z) (k : G X a b ws lv z (.long v :: st)) : G X a b ws lv pc st := fun H locs ls hP hD hS hl => by
  subst hz
  exact lv_ldc2 C.1 C.2.1 C.2.2.2.2.2.1 (C.2.2.2.2.2.2.1 _ hw) hdg (k H locs ls hP hD hS hl)
theorem g_ldcS {index q : Nat} {tx : String} (C : GC X cc nL own ret) (hdg : decode cc pc = .ok (.ldc index, 2)) (hZ : vk_R own index tx q (gs X)) (hz : pc + 2 = z) (k : G X a b ws lv z (.ref q :: st)) : G X a b ws lv pc st := fun H locs ls hP hD hS hl => by
  subst hz
  exact va_ldcS C.1 C.2.1 C.2.2.2.2.2.1 hZ hdg (k H locs ls hP hD hS hl)
theorem g_gets {Cn n d : String} {v : Value} {index : Nat} (C : GC X cc nL own ret) (hdg : decode cc pc = .ok (.getstatic index, 3)) (hZ : va_Z Cn n d v (gA X) (gs X) (gs X).heap) (hw : Cond.fieldLink own index Cn n d ∈ TBL) (hz : pc + 3 = z) (k : G X a b ws lv z (v :: st)) : G X a b ws lv pc st := fun H locs ls hP hD hS hl => by
  subst hz
  exact va_gets C.1 C.2.1 hZ hS C.2.2.2.2.2.1 (C.2.2.2.2.2.2.1 _ hw) (fun _ h => h) hdg (k H locs ls hP hD hS hl)
/-- a class of CL: its place, its fields -/
def GCL (ci : Nat) (Cn : String) (T : u_T) (N : Nat) (ty0 : Nat → FieldType) : Prop := CL[ci]? = some (Cn, T, N) ∧ (∀ w ∈ u_ws Cn T N, w ∈ TBL) ∧ (∀ k, k < N → parseFieldDescriptor (T k).2.2.1 = some (ty0 k)) ∧ (∀ a, a < N → ∀ b, b < N → a ≠ b → (T a).2.1 ≠ (T b).2.1)
theorem g_get {ci N index o : Nat} {Cn ref : String} {T : u_T} {ty0 : Nat → FieldType} {fs : List Value} {v : Value} (C : GC X cc nL own ret) (Y : GCL ci Cn T N ty0) (hdg : decode cc pc = .ok (.getfield index, 3)) (j : Nat) (he : ws[j]? = some (o, .inr (ci, fs))) (kf : Nat) (hk : kf < N) (hw : Cond.fieldLink own index ref (T kf).2.1 (T kf).2.2.1 ∈ TBL) (hr : ref = (T kf).1) (hv : fs[kf]? = some v) (hz : pc + 3 = z) (k : G X a b ws lv z (v :: st)) : G X a b ws lv pc (.ref o :: st) := fun H locs ls hP hD hS hl => by
  subst hz
  exact va_get C.1 C.2.1 C.2.2.2.2.2.2.1 Y.2.1 C.2.2.2.2.2.1 C.2.2.2.2.2.2.2.1 hP j he Y.1 kf hk (C.2.2.2.2.2.2.1 _ hw) (fun _ h => by rw [hr]; exact h) hv hdg (k H locs ls hP hD hS hl)
theorem g_getN {ci N index o : Nat} {Cn ref host : String} {T : u_T} {ty0 : Nat → FieldType} {fs : List Value} {v : Value} (C : GC X cc nL own ret) (Y : GCL ci Cn T N ty0) (hdg : decode cc pc = .ok (.getfield index, 3)) (j : Nat) (he : ws[j]? = some (o, .inr (ci, fs))) (kf : Nat) (hk : kf < N) (hw : Cond.fieldLinkNest own index ref (T kf).2.1 (T kf).2.2.1 host ∈ NST) (hr : ref = (T kf).1) (hv : fs[kf]? = some v) (hz : pc + 3 = z) (k : G X a b ws lv z (v :: st)) : G X a b ws lv pc (.ref o :: st) := fun H locs ls hP hD hS hl => by
  subst hz
  exact va_getN C.1 C.2.1 C.2.2.2.2.2.2.1 Y.2.1 C.2.2.2.2.2.1 C.2.2.2.2.2.2.2.1 hP j he Y.1 kf hk (va_Nw.use rfl (C.2.2.2.2.2.2.2.2.2.2.1 _ hw)) (fun _ h => by rw [hr]; exact h) hv hdg (k H locs ls hP hD hS hl)
theorem g_put {ci N index o : Nat} {Cn ref : String} {T : u_T} {ty0 : Nat → FieldType} {fs : List Value} {v : Value} {w2 : va_W} (C : GC X cc nL own ret) (Y : GCL ci Cn T N ty0) (hdg : decode cc pc = .ok (.putfield index, 3)) (j : Nat) (he : ws[j]? = some (o, .inr (ci, fs))) (kf : Nat) (hk : kf < N) (hw : Cond.fieldLink own index ref (T kf).2.1 (T kf).2.2.1 ∈ TBL) (hr : ref = (T kf).1) (hfin : (T kf).2.2.2 = false) (hn : narrow (ty0 kf) v = v) (hfit : fits (ty0 kf) v = true) (hl0 : kf < fs.length) (h2 : ws.set j (o, .inr (ci, fs.set kf v)) = w2) (hz : pc + 3 = z) (k : G X a b w2 lv z st) : G X a b ws lv pc (v :: .ref o :: st) := fun H locs ls hP hD hS hl => by
  subst hz; subst h2
  exact va_put C.1 C.2.1 C.2.2.2.2.2.2.1 Y.2.1 ty0 Y.2.2.1 Y.2.2.2 C.2.2.2.2.2.1 C.2.2.2.2.2.2.2.1 hP hD hS j he Y.1 kf hk (C.2.2.2.2.2.2.1 _ hw) (fun _ h => by rw [hr]; exact h) hfin (Y.2.2.1 kf hk) hn hfit hl0 hdg (fun H locs hP hD hS => k H locs ls hP hD hS hl)
theorem g_putN {ci N index o : Nat} {Cn ref host : String} {T : u_T} {ty0 : Nat → FieldType} {fs : List Value} {v : Value} {w2 : va_W} (C : GC X cc nL own ret) (Y : GCL ci Cn T N ty0) (hdg : decode cc pc = .ok (.putfield index, 3)) (j : Nat) (he : ws[j]? = some (o, .inr (ci, fs))) (kf : Nat) (hk : kf < N) (hw : Cond.fieldLinkNest own index ref (T kf).2.1 (T kf).2.2.1 host ∈ NST) (hr : ref = (T kf).1) (hfin : (T kf).2.2.2 = false) (hn : narrow (ty0 kf) v = v) (hfit : fits (ty0 kf) v = true) (hl0 : kf < fs.length) (h2 : ws.set j (o, .inr (ci, fs.set kf v)) = w2) (hz : pc + 3 = z) (k : G X a b w2 lv z st) : G X a b ws lv pc (v :: .ref o :: st) := fun H locs ls hP hD hS hl => by
  subst hz; subst h2
  exact va_putN C.1 C.2.1 C.2.2.2.2.2.2.1 Y.2.1 ty0 Y.2.2.1 Y.2.2.2 C.2.2.2.2.2.1 C.2.2.2.2.2.2.2.1 hP hD hS j he Y.1 kf hk (va_Nw.use rfl (C.2.2.2.2.2.2.2.2.2.2.1 _ hw)) (fun _ h => by rw [hr]; exact h) hfin (Y.2.2.1 kf hk) hn hfit hl0 hdg (fun H locs hP hD hS => k H locs ls hP hD hS hl)
theorem g_putF {ci N index o : Nat} {Cn ref : String} {T : u_T} {ty0 : Nat → FieldType} {fs : List Value} {v : Value} {w2 : va_W} (C : GC X cc nL own ret) (Y : GCL ci Cn T N ty0) (hdg : decode cc pc = .ok (.putfield index, 3)) (j : Nat) (he : ws[j]? = some (o, .inr (ci, fs))) (kf : Nat) (hk : kf < N) (hw : Cond.fieldLink own index ref (T kf).2.1 (T kf).2.2.1 ∈ TBL) (hr : ref = (T kf).1) (hfin : (T kf).2.2.2 = true) (hin : (gt X).name = "<init>") (hdecl : (T kf).1 = own) (hn : narrow (ty0 kf) v = v) (hfit : fits (ty0 kf) v = true) (hl0 : kf < fs.length) (h2 : ws.set j (o, .inr (ci, fs.set kf v)) = w2) (hz : pc + 3 = z) (k : G X a b w2 lv z st) : G X a b ws lv pc (v :: .ref o :: st) := fun H locs ls hP hD hS hl => by
  subst hz; subst h2
  exact va_putF C.1 C.2.1 C.2.2.2.2.2.2.1 Y.2.1 ty0 Y.2.2.1 Y.2.2.2 C.2.2.2.2.2.1 C.2.2.2.2.2.2.2.1 hP hD hS j he Y.1 kf hk (C.2.2.2.2.2.2.1 _ hw) (fun _ h => by rw [hr]; exact h) hfin hin hdecl (Y.2.2.1 kf hk) hn hfit hl0 hdg (fun H locs hP hD hS => k H locs ls hP hD hS hl)
theorem cls_one {D : va_G} {cl : List vw_C} {K : KS} {s : State} {cA : ClassId} {ty : FieldType} {t : Nat} (hK : va_K D cl (TYS K) s) (hK2 : va_K D cl (TYS K ++ [(cA, ty)]) s) {cB : ClassId} (ht : (TYS K)[t]? = some (cB, ty)) : cA = cB := by
  have h1 := (hK.2 t _ ht).2
  have h2 := (hK2.2 (TYS K).length (cA, ty) (by rw [List.getElem?_append_right (Nat.le_refl _), Nat.sub_self]; rfl)).2
  cases ty with
  | object C =>
    obtain ⟨_, _, _, _, _, e1⟩ := h1
    obtain ⟨_, _, _, _, _, e2⟩ := h2
    exact Option.some.inj (e2.symm.trans e1)
  | _ => exact Option.some.inj (Eq.trans (Eq.symm h2) h1)
theorem g_objInit {idx o : Nat} {fr lo mc ms : Nat} (C : GC X cc nL own ret) (hR : GR X fr lo mc ms) (hdg : decode cc pc = .ok (.invokespecial idx, 3)) (hw : Cond.methodLink own idx objectInit ∈ TBL) (hi : Cond.instanceMethod objectInit ∈ TBL) (hc : Cond.code objectInit ⟨#[0xb1]⟩ 1 none ∈ TBL) (hfr : 1 ≤ fr) (hlo : (st.map fun v => v.category).sum + 12 ≤ lo) (hz : pc + 3 = z) (k : G X a b ws lv z st) : G X a b ws lv pc (.ref o :: st) := fun H locs ls hP hD hS hl => by
  subst hz
  refine W.objInit C.1 C.2.1 C.2.2.2.2.2.1 (C.2.2.2.2.2.2.1 _ hw) (C.2.2.2.2.2.2.1 _ hi) (C.2.2.2.2.2.2.1 _ hc) rfl (by rw [C.2.2.2.1, ← C.2.2.2.2.1]; exact hl.1) rfl hdg (by rw [hR]; exact hfr) (by rw [hR]; show 2 * 0 + _ + 12 ≤ lo; omega) ?_
  exact k H locs ls hP hD hS hl
theorem g_newI {n : Int32} {N : Nat} {fr lo mc ms a2 b2 : Nat} (C : GC X cc nL own ret) (hR : GR X fr lo mc ms) (hdg : decode cc pc = .ok (.newarray .int, 2)) (hw : Cond.arrayClass .int ∈ TBL) (hn : ¬ n < 0) (hN : n.toNatClampNeg = N) (hb : N * componentBytes .int ≤ 536870912) (ha : a + 1 = a2) (hb2 : b + N = b2) (ha3 : a2 ≤ mc) (hb3 : b2 ≤ ms) (hz : pc + 2 = z) (k : ∀ q : Nat, G X a2 b2 (ws ++ [(q, .inl (gK X 0, N, .inl (fun _ => 0)))]) lv z (.ref q :: st)) : G X a b ws lv pc (.int n :: st) := fun H locs ls hP hD hS hl => by
  subst hz; subst ha; subst hb2
  refine va_newa (atype := .int) C.1 C.2.1 (C.2.2.2.2.2.2.1 _ hw) (ty := .int) rfl C.2.2.2.2.2.2.2.1 hP hD hS C.2.2.2.2.2.2.2.2.1 (a0 := (N, .inl (fun _ => 0))) (fun cA => rfl) hn hN hb (by rw [hR]; exact ha3) (by rw [hR]; exact hb3) hdg (fun q cA H1 hK2 hP2 hD2 hS2 => ?_)
  have e := cls_one (t := 0) C.2.2.2.2.2.2.2.1 hK2 rfl
  subst e
  exact k q H1 locs ls hP2 hD2 hS2 hl
theorem g_newID {n : Int32} {N : Nat} {fr lo mc ms a2 b2 : Nat} (C : GC X cc nL own ret) (hR : GR X fr lo mc ms) (hdg : decode cc pc = .ok (.newarray .int, 2)) (hw : Cond.arrayClass .int ∈ TBL) (hn : ¬ n < 0) (hN : n.toNatClampNeg = N) (hb : N * componentBytes .int ≤ 536870912) (ha : a + 1 = a2) (hb2 : b + N = b2) (ha3 : a2 ≤ mc) (hb3 : b2 ≤ ms) (hz : pc + 2 = z) (k : ∀ q : Nat, G X a2 b2 ws lv z (.ref q :: st)) : G X a b ws lv pc (.int n :: st) := fun H locs ls hP hD hS hl => by
  subst hz; subst ha; subst hb2
  refine va_newa (atype := .int) C.1 C.2.1 (C.2.2.2.2.2.2.1 _ hw) (ty := .int) rfl C.2.2.2.2.2.2.2.1 hP hD hS C.2.2.2.2.2.2.2.2.1 (a0 := (N, .inl (fun _ => 0))) (fun cA => rfl) hn hN hb (by rw [hR]; exact ha3) (by rw [hR]; exact hb3) hdg (fun q cA H1 hK2 hP2 hD2 hS2 => ?_)
  exact k q H1 locs ls (fun k q h => hP2 k q (by rw [List.getElem?_append_left (List.getElem?_eq_some_iff.mp h).1]; exact h)) ⟨fun i j p q hi hj => hD2.1 i j p q (by rw [List.getElem?_append_left (List.getElem?_eq_some_iff.mp hi).1]; exact hi) (by rw [List.getElem?_append_left (List.getElem?_eq_some_iff.mp hj).1]; exact hj), fun k q h => hD2.2 k q (by rw [List.getElem?_append_left (List.getElem?_eq_some_iff.mp h).1]; exact h)⟩ hS2 hl
theorem g_newJ {n : Int32} {N : Nat} {fr lo mc ms a2 b2 : Nat} (C : GC X cc nL own ret) (hR : GR X fr lo mc ms) (hdg : decode cc pc = .ok (.newarray .long, 2)) (hw : Cond.arrayClass .long ∈ TBL) (hn : ¬ n < 0) (hN : n.toNatClampNeg = N) (hb : N * componentBytes .long ≤ 536870912) (ha : a + 1 = a2) (hb2 : b + N = b2) (ha3 : a2 ≤ mc) (hb3 : b2 ≤ ms) (hz : pc + 2 = z) (k : ∀ q : Nat, G X a2 b2 (ws ++ [(q, .inl (gK X 1, N, .inr (.inl (fun _ => 0))))]) lv z (.ref q :: st)) : G X a b ws lv pc (.int n :: st) := fun H locs ls hP hD hS hl => by
  subst hz; subst ha; subst hb2
  refine va_newa (atype := .long) C.1 C.2.1 (C.2.2.2.2.2.2.1 _ hw) (ty := .long) rfl C.2.2.2.2.2.2.2.1 hP hD hS C.2.2.2.2.2.2.2.2.1 (a0 := (N, .inr (.inl (fun _ => 0)))) (fun cA => rfl) hn hN hb (by rw [hR]; exact ha3) (by rw [hR]; exact hb3) hdg (fun q cA H1 hK2 hP2 hD2 hS2 => ?_)
  have e := cls_one (t := 1) C.2.2.2.2.2.2.2.1 hK2 rfl
  subst e
  exact k q H1 locs ls hP2 hD2 hS2 hl
theorem g_newJD {n : Int32} {N : Nat} {fr lo mc ms a2 b2 : Nat} (C : GC X cc nL own ret) (hR : GR X fr lo mc ms) (hdg : decode cc pc = .ok (.newarray .long, 2)) (hw : Cond.arrayClass .long ∈ TBL) (hn : ¬ n < 0) (hN : n.toNatClampNeg = N) (hb : N * componentBytes .long ≤ 536870912) (ha : a + 1 = a2) (hb2 : b + N = b2) (ha3 : a2 ≤ mc) (hb3 : b2 ≤ ms) (hz : pc + 2 = z) (k : ∀ q : Nat, G X a2 b2 ws lv z (.ref q :: st)) : G X a b ws lv pc (.int n :: st) := fun H locs ls hP hD hS hl => by
  subst hz; subst ha; subst hb2
  refine va_newa (atype := .long) C.1 C.2.1 (C.2.2.2.2.2.2.1 _ hw) (ty := .long) rfl C.2.2.2.2.2.2.2.1 hP hD hS C.2.2.2.2.2.2.2.2.1 (a0 := (N, .inr (.inl (fun _ => 0)))) (fun cA => rfl) hn hN hb (by rw [hR]; exact ha3) (by rw [hR]; exact hb3) hdg (fun q cA H1 hK2 hP2 hD2 hS2 => ?_)
  exact k q H1 locs ls (fun k q h => hP2 k q (by rw [List.getElem?_append_left (List.getElem?_eq_some_iff.mp h).1]; exact h)) ⟨fun i j p q hi hj => hD2.1 i j p q (by rw [List.getElem?_append_left (List.getElem?_eq_some_iff.mp hi).1]; exact hi) (by rw [List.getElem?_append_left (List.getElem?_eq_some_iff.mp hj).1]; exact hj), fun k q h => hD2.2 k q (by rw [List.getElem?_append_left (List.getElem?_eq_some_iff.mp h).1]; exact h)⟩ hS2 hl
theorem g_newB {n : Int32} {N : Nat} {fr lo mc ms a2 b2 : Nat} (C : GC X cc nL own ret) (hR : GR X fr lo mc ms) (hdg : decode cc pc = .ok (.newarray .byte, 2)) (hw : Cond.arrayClass .byte ∈ TBL) (hn : ¬ n < 0) (hN : n.toNatClampNeg = N) (hb : N * componentBytes .byte ≤ 536870912) (ha : a + 1 = a2) (hb2 : b + N = b2) (ha3 : a2 ≤ mc) (hb3 : b2 ≤ ms) (hz : pc + 2 = z) (k : ∀ q : Nat, G X a2 b2 (ws ++ [(q, .inl (gK X 2, N, .inl (fun _ => 0)))]) lv z (.ref q :: st)) : G X a b ws lv pc (.int n :: st) := fun H locs ls hP hD hS hl => by
  subst hz; subst ha; subst hb2
  refine va_newa (atype := .byte) C.1 C.2.1 (C.2.2.2.2.2.2.1 _ hw) (ty := .byte) rfl C.2.2.2.2.2.2.2.1 hP hD hS C.2.2.2.2.2.2.2.2.1 (a0 := (N, .inl (fun _ => 0))) (fun cA => rfl) hn hN hb (by rw [hR]; exact ha3) (by rw [hR]; exact hb3) hdg (fun q cA H1 hK2 hP2 hD2 hS2 => ?_)
  have e := cls_one (t := 2) C.2.2.2.2.2.2.2.1 hK2 rfl
  subst e
  exact k q H1 locs ls hP2 hD2 hS2 hl
theorem g_newBD {n : Int32} {N : Nat} {fr lo mc ms a2 b2 : Nat} (C : GC X cc nL own ret) (hR : GR X fr lo mc ms) (hdg : decode cc pc = .ok (.newarray .byte, 2)) (hw : Cond.arrayClass .byte ∈ TBL) (hn : ¬ n < 0) (hN : n.toNatClampNeg = N) (hb : N * componentBytes .byte ≤ 536870912) (ha : a + 1 = a2) (hb2 : b + N = b2) (ha3 : a2 ≤ mc) (hb3 : b2 ≤ ms) (hz : pc + 2 = z) (k : ∀ q : Nat, G X a2 b2 ws lv z (.ref q :: st)) : G X a b ws lv pc (.int n :: st) := fun H locs ls hP hD hS hl => by
  subst hz; subst ha; subst hb2
  refine va_newa (atype := .byte) C.1 C.2.1 (C.2.2.2.2.2.2.1 _ hw) (ty := .byte) rfl C.2.2.2.2.2.2.2.1 hP hD hS C.2.2.2.2.2.2.2.2.1 (a0 := (N, .inl (fun _ => 0))) (fun cA => rfl) hn hN hb (by rw [hR]; exact ha3) (by rw [hR]; exact hb3) hdg (fun q cA H1 hK2 hP2 hD2 hS2 => ?_)
  exact k q H1 locs ls (fun k q h => hP2 k q (by rw [List.getElem?_append_left (List.getElem?_eq_some_iff.mp h).1]; exact h)) ⟨fun i j p q hi hj => hD2.1 i j p q (by rw [List.getElem?_append_left (List.getElem?_eq_some_iff.mp hi).1]; exact hi) (by rw [List.getElem?_append_left (List.getElem?_eq_some_iff.mp hj).1]; exact hj), fun k q h => hD2.2 k q (by rw [List.getElem?_append_left (List.getElem?_eq_some_iff.mp h).1]; exact h)⟩ hS2 hl
theorem g_newZ {n : Int32} {N : Nat} {fr lo mc ms a2 b2 : Nat} (C : GC X cc nL own ret) (hR : GR X fr lo mc ms) (hdg : decode cc pc = .ok (.newarray .boolean, 2)) (hw : Cond.arrayClass .boolean ∈ TBL) (hn : ¬ n < 0) (hN : n.toNatClampNeg = N) (hb : N * componentBytes .boolean ≤ 536870912) (ha : a + 1 = a2) (hb2 : b + N = b2) (ha3 : a2 ≤ mc) (hb3 : b2 ≤ ms) (hz : pc + 2 = z) (k : ∀ q : Nat, G X a2 b2 (ws ++ [(q, .inl (gK X 3, N, .inl (fun _ => 0)))]) lv z (.ref q :: st)) : G X a b ws lv pc (.int n :: st) := fun H locs ls hP hD hS hl => by
  subst hz; subst ha; subst hb2
  refine va_newa (atype := .boolean) C.1 C.2.1 (C.2.2.2.2.2.2.1 _ hw) (ty := .boolean) rfl C.2.2.2.2.2.2.2.1 hP hD hS C.2.2.2.2.2.2.2.2.1 (a0 := (N, .inl (fun _ => 0))) (fun cA => rfl) hn hN hb (by rw [hR]; exact ha3) (by rw [hR]; exact hb3) hdg (fun q cA H1 hK2 hP2 hD2 hS2 => ?_)
  have e := cls_one (t := 3) C.2.2.2.2.2.2.2.1 hK2 rfl
  subst e
  exact k q H1 locs ls hP2 hD2 hS2 hl
theorem g_newZD {n : Int32} {N : Nat} {fr lo mc ms a2 b2 : Nat} (C : GC X cc nL own ret) (hR : GR X fr lo mc ms) (hdg : decode cc pc = .ok (.newarray .boolean, 2)) (hw : Cond.arrayClass .boolean ∈ TBL) (hn : ¬ n < 0) (hN : n.toNatClampNeg = N) (hb : N * componentBytes .boolean ≤ 536870912) (ha : a + 1 = a2) (hb2 : b + N = b2) (ha3 : a2 ≤ mc) (hb3 : b2 ≤ ms) (hz : pc + 2 = z) (k : ∀ q : Nat, G X a2 b2 ws lv z (.ref q :: st)) : G X a b ws lv pc (.int n :: st) := fun H locs ls hP hD hS hl => by
  subst hz; subst ha; subst hb2
  refine va_newa (atype := .boolean) C.1 C.2.1 (C.2.2.2.2.2.2.1 _ hw) (ty := .boolean) rfl C.2.2.2.2.2.2.2.1 hP hD hS C.2.2.2.2.2.2.2.2.1 (a0 := (N, .inl (fun _ => 0))) (fun cA => rfl) hn hN hb (by rw [hR]; exact ha3) (by rw [hR]; exact hb3) hdg (fun q cA H1 hK2 hP2 hD2 hS2 => ?_)
  exact k q H1 locs ls (fun k q h => hP2 k q (by rw [List.getElem?_append_left (List.getElem?_eq_some_iff.mp h).1]; exact h)) ⟨fun i j p q hi hj => hD2.1 i j p q (by rw [List.getElem?_append_left (List.getElem?_eq_some_iff.mp hi).1]; exact hi) (by rw [List.getElem?_append_left (List.getElem?_eq_some_iff.mp hj).1]; exact hj), fun k q h => hD2.2 k q (by rw [List.getElem?_append_left (List.getElem?_eq_some_iff.mp h).1]; exact h)⟩ hS2 hl
theorem g_newqD {n : Int32} {N index : Nat} {Cn : String} {fr lo mc ms a2 b2 : Nat} (C : GC X cc nL own ret) (hR : GR X fr lo mc ms) (hdg : decode cc pc = .ok (.anewarray index, 3)) (hw : Cond.classLink own index Cn ∈ TBL) (hAO : Cn ∈ AOS) (hn : ¬ n < 0) (hN : n.toNatClampNeg = N) (hb : N * 4 ≤ 536870912) (ha : a + 1 = a2) (hb2 : b + N = b2) (ha3 : a2 ≤ mc) (hb3 : b2 ≤ ms) (hz : pc + 3 = z) (k : ∀ q : Nat, G X a2 b2 ws lv z (.ref q :: st)) : G X a b ws lv pc (.int n :: st) := fun H locs ls hP hD hS hl => by
  subst hz; subst ha; subst hb2
  refine va_newq C.1 C.2.1 C.2.2.2.2.2.1 (C.2.2.2.2.2.2.1 _ hw) (C.2.2.2.2.2.2.2.2.2.2.2.1 _ hAO) C.2.2.2.2.2.2.2.1 hP hD hS C.2.2.2.2.2.2.2.2.1 hn hN hb (by rw [hR]; exact ha3) (by rw [hR]; exact hb3) hdg (fun q cA H1 hK2 hP2 hD2 hS2 => ?_)
  exact k q H1 locs ls (fun k q h => hP2 k q (by rw [List.getElem?_append_left (List.getElem?_eq_some_iff.mp h).1]; exact h)) ⟨fun i j p q hi hj => hD2.1 i j p q (by rw [List.getElem?_append_left (List.getElem?_eq_some_iff.mp hi).1]; exact hi) (by rw [List.getElem?_append_left (List.getElem?_eq_some_iff.mp hj).1]; exact hj), fun k q h => hD2.2 k q (by rw [List.getElem?_append_left (List.getElem?_eq_some_iff.mp h).1]; exact h)⟩ hS2 hl
theorem g_newqS {n : Int32} {N index : Nat} {Cn : String} {fr lo mc ms a2 b2 : Nat} (C : GC X cc nL own ret) (hR : GR X fr lo mc ms) (hdg : decode cc pc = .ok (.anewarray index, 3)) (hw : Cond.classLink own index Cn ∈ TBL) (hAO : Cn ∈ AOS) (hn : ¬ n < 0) (hN : n.toNatClampNeg = N) (hb : N * 4 ≤ 536870912) (ha : a + 1 = a2) (hb2 : b + N = b2) (ha3 : a2 ≤ mc) (hb3 : b2 ≤ ms) (hz : pc + 3 = z) (hS0 : Cn = "java/lang/String") (k : ∀ q : Nat, G X a2 b2 (ws ++ [(q, .inl (gK X 4, N, .inr (.inr (.inr (.inr (fun _ => none))))))]) lv z (.ref q :: st)) : G X a b ws lv pc (.int n :: st) := fun H locs ls hP hD hS hl => by
  subst hz; subst ha; subst hb2
  refine va_newq C.1 C.2.1 C.2.2.2.2.2.1 (C.2.2.2.2.2.2.1 _ hw) (C.2.2.2.2.2.2.2.2.2.2.2.1 _ hAO) C.2.2.2.2.2.2.2.1 hP hD hS C.2.2.2.2.2.2.2.2.1 hn hN hb (by rw [hR]; exact ha3) (by rw [hR]; exact hb3) hdg (fun q cA H1 hK2 hP2 hD2 hS2 => ?_)
  subst hS0
  have e := cls_one (t := 4) C.2.2.2.2.2.2.2.1 hK2 rfl
  subst e
  exact k q H1 locs ls hP2 hD2 hS2 hl
theorem g_new {ci N index : Nat} {Cn : String} {T : u_T} {ty0 : Nat → FieldType} {fs : List Value} {fr lo mc ms a2 b2 : Nat} (C : GC X cc nL own ret) (hR : GR X fr lo mc ms) (Y : GCL ci Cn T N ty0) (hdg : decode cc pc = .ok (.new index, 3)) (hw : Cond.classLink own index Cn ∈ TBL) (hi : Cond.instantiable Cn N ∈ TBL) (hini : Cond.initialized Cn ∈ TBL) (hfs : fs = (List.range N).map (fun j => defaultValue (ty0 j))) (ha : a + 1 = a2) (hb2 : b + N = b2) (ha3 : a2 ≤ mc) (hb3 : b2 ≤ ms) (hz : pc + 3 = z) (k : ∀ q : Nat, G X a2 b2 (ws ++ [(q, .inr (ci, fs))]) lv z (.ref q :: st)) : G X a b ws lv pc st := fun H locs ls hP hD hS hl => by
  subst hz; subst ha; subst hb2
  refine va_new C.1 C.2.1 C.2.2.2.2.2.2.1 Y.2.1 ty0 Y.2.2.1 C.2.2.2.2.2.1 (C.2.2.2.2.2.2.1 _ hw) (C.2.2.2.2.2.2.1 _ hi) (C.2.2.2.2.2.2.1 _ hini) C.2.2.2.2.2.2.2.1 hP hD hS C.2.2.2.2.2.2.2.2.1 Y.1 (fs := fs) (fun j hj => ?_) (by rw [hR]; exact ha3) (by rw [hR]; exact hb3) hdg (fun q H1 hP hD hS => k q H1 locs ls hP hD hS hl)
  rw [hfs]
  simp [vp_V, hj]
theorem g_alen {o n : Nat} {cA : ClassId} {x} {ty : FieldType} {v : Int32} (C : GC X cc nL own ret) (hdg : decode cc pc = .ok (.arraylength, 1)) (j : Nat) (he : ws[j]? = some (o, .inl (cA, n, x))) (t : Nat) (ht : (TYS (gK X))[t]? = some (cA, ty)) (hv : Int32.ofNat n = v) (hz : pc + 1 = z) (k : G X a b ws lv z (.int v :: st)) : G X a b ws lv pc (.ref o :: st) := fun H locs ls hP hD hS hl => by
  subst hz
  exact va_alen C.1 C.2.1 C.2.2.2.2.2.2.2.1 hP j t he ht hv hdg (k H locs ls hP hD hS hl)
theorem g_iald {o n : Nat} {f : Nat → Int32} {i : Int32} {v : Int32} (C : GC X cc nL own ret) (hdg : decode cc pc = .ok (.iaload, 1)) (j : Nat) (he : ws[j]? = some (o, .inl (gK X 0, n, .inl f))) (hin : vp_in i n) (hv : f i.toNatClampNeg = v) (hz : pc + 1 = z) (k : G X a b ws lv z (.int v :: st)) : G X a b ws lv pc (.int i :: .ref o :: st) := fun H locs ls hP hD hS hl => by
  subst hz; subst hv
  exact va_iald C.1 C.2.1 C.2.2.2.2.2.2.2.1 hP j 0 he rfl hin hdg (k H locs ls hP hD hS hl)
theorem g_bald {o n : Nat} {f : Nat → Int32} {i : Int32} {v : Int32} (C : GC X cc nL own ret) (hdg : decode cc pc = .ok (.baload, 1)) (j : Nat) (he : ws[j]? = some (o, .inl (gK X 2, n, .inl f))) (hin : vp_in i n) (hv : f i.toNatClampNeg = v) (hz : pc + 1 = z) (k : G X a b ws lv z (.int v :: st)) : G X a b ws lv pc (.int i :: .ref o :: st) := fun H locs ls hP hD hS hl => by
  subst hz; subst hv
  exact va_bald C.1 C.2.1 C.2.2.2.2.2.2.2.1 hP j 2 he rfl hin hdg (k H locs ls hP hD hS hl)
theorem g_zald {o n : Nat} {f : Nat → Int32} {i : Int32} {v : Int32} (C : GC X cc nL own ret) (hdg : decode cc pc = .ok (.baload, 1)) (j : Nat) (he : ws[j]? = some (o, .inl (gK X 3, n, .inl f))) (hin : vp_in i n) (hv : f i.toNatClampNeg = v) (hz : pc + 1 = z) (k : G X a b ws lv z (.int v :: st)) : G X a b ws lv pc (.int i :: .ref o :: st) := fun H locs ls hP hD hS hl => by
  subst hz; subst hv
  exact va_zald C.1 C.2.1 C.2.2.2.2.2.2.2.1 hP j 3 he rfl hin hdg (k H locs ls hP hD hS hl)
theorem g_lald {o n : Nat} {f : Nat → Int64} {i : Int32} {v : Int64} (C : GC X cc nL own ret) (hdg : decode cc pc = .ok (.laload, 1)) (j : Nat) (he : ws[j]? = some (o, .inl (gK X 1, n, .inr (.inl f)))) (hin : vp_in i n) (hv : f i.toNatClampNeg = v) (hz : pc + 1 = z) (k : G X a b ws lv z (.long v :: st)) : G X a b ws lv pc (.int i :: .ref o :: st) := fun H locs ls hP hD hS hl => by
  subst hz; subst hv
  exact va_lald C.1 C.2.1 C.2.2.2.2.2.2.2.1 hP j 1 he rfl hin hdg (k H locs ls hP hD hS hl)
theorem g_iast {o n : Nat} {f : Nat → Int32} {i : Int32} {x : Int32} {w2 : va_W} (C : GC X cc nL own ret) (hdg : decode cc pc = .ok (.iastore, 1)) (j : Nat) (he : ws[j]? = some (o, .inl (gK X 0, n, .inl f))) (hin : vp_in i n) (h2 : ws.set j (o, .inl (gK X 0, n, .inl (upd f i.toNatClampNeg x))) = w2) (hz : pc + 1 = z) (k : G X a b w2 lv z st) : G X a b ws lv pc (.int x :: .int i :: .ref o :: st) := fun H locs ls hP hD hS hl => by
  subst hz; subst h2
  exact va_iast C.1 C.2.1 C.2.2.2.2.2.2.2.1 hP hD hS j 0 he rfl hin hdg (fun H locs hP hD hS => k H locs ls hP hD hS hl)
theorem g_bast {o n : Nat} {f : Nat → Int32} {i : Int32} {x : Int32} {w2 : va_W} (C : GC X cc nL own ret) (hdg : decode cc pc = .ok (.bastore, 1)) (j : Nat) (he : ws[j]? = some (o, .inl (gK X 2, n, .inl f))) (hin : vp_in i n) (h2 : ws.set j (o, .inl (gK X 2, n, .inl (upd f i.toNatClampNeg (vp_nar .byte x)))) = w2) (hz : pc + 1 = z) (k : G X a b w2 lv z st) : G X a b ws lv pc (.int x :: .int i :: .ref o :: st) := fun H locs ls hP hD hS hl => by
  subst hz; subst h2
  exact va_bast C.1 C.2.1 C.2.2.2.2.2.2.2.1 hP hD hS j 2 he rfl hin hdg (fun H locs hP hD hS => k H locs ls hP hD hS hl)
theorem g_last {o n : Nat} {f : Nat → Int64} {i : Int32} {x : Int64} {w2 : va_W} (C : GC X cc nL own ret) (hdg : decode cc pc = .ok (.lastore, 1)) (j : Nat) (he : ws[j]? = some (o, .inl (gK X 1, n, .inr (.inl f)))) (hin : vp_in i n) (h2 : ws.set j (o, .inl (gK X 1, n, .inr (.inl (vp_updL f i.toNatClampNeg x)))) = w2) (hz : pc + 1 = z) (k : G X a b w2 lv z st) : G X a b ws lv pc (.long x :: .int i :: .ref o :: st) := fun H locs ls hP hD hS hl => by
  subst hz; subst h2
  exact va_last C.1 C.2.1 C.2.2.2.2.2.2.2.1 hP hD hS j 1 he rfl hin hdg (fun H locs hP hD hS => k H locs ls hP hD hS hl)
theorem g_aast {o n v : Nat} {f : Nat → Option Nat} {i : Int32} {w2 : va_W} (C : GC X cc nL own ret) (hdg : decode cc pc = .ok (.aastore, 1)) (j : Nat) (he : ws[j]? = some (o, .inl (gK X 4, n, .inr (.inr (.inr (.inr f)))))) (hr : ∀ H locs, va_P (gD X) CL ws H → va_S (gA X) (gs X).heap H locs → va_Any "java/lang/String" (gs X) H v) (hin : vp_in i n) (h2 : ws.set j (o, .inl (gK X 4, n, .inr (.inr (.inr (.inr (va_up f i.toNatClampNeg (some v))))))) = w2) (hz : pc + 1 = z) (k : G X a b w2 lv z st) : G X a b ws lv pc (.ref v :: .int i :: .ref o :: st) := fun H locs ls hP hD hS hl => by
  subst hz; subst h2
  exact va_astqM C.1 C.2.1 C.2.2.2.2.2.2.2.1 hP hD hS j 4 he rfl (hr H locs hP hS) hin hdg (fun H locs hP hD hS => k H locs ls hP hD hS hl)
theorem g_aald {o n : Nat} {f : Nat → Option Nat} {i : Int32} {v : Value} (C : GC X cc nL own ret) (hdg : decode cc pc = .ok (.aaload, 1)) (j : Nat) (he : ws[j]? = some (o, .inl (gK X 4, n, .inr (.inr (.inr (.inr f)))))) (hin : vp_in i n) (hv : va_rf (f i.toNatClampNeg) = v) (hz : pc + 1 = z) (k : G X a b ws lv z (v :: st)) : G X a b ws lv pc (.int i :: .ref o :: st) := fun H locs ls hP hD hS hl => by
  subst hz; subst hv
  exact va_aldq C.1 C.2.1 C.2.2.2.2.2.2.2.1 hP j 4 he rfl hin hdg (k H locs ls hP hD hS hl)
/-- ends -/
theorem g_vret {w0 : va_W} {mc ms : Nat} {Post : Option Value → va_W → Prop} (C : GC X cc nL own none) (hQ : GQ X w0 mc ms Post) (hdg : decode cc pc = .ok (.return_, 1)) (ha : a ≤ mc) (hb : b ≤ ms) (hp : Post none ws) : G X a b ws lv pc [] := fun H locs ls hP hD hS hl => by
  refine W.widen ha hb ?_
  rw [show gQ X = _ from hQ.1]
  rw [hQ.2] at hD hS
  exact W.vret C.1 C.2.1 C.2.2.1 (fun t ht hW => ⟨⟨none, ws, rfl, hp, by rw [ht]; exact hP, hD⟩, hS.F ht⟩) hS.2.2 hdg C.2.2.2.2.2.2.2.2.2.1
theorem g_iret {w0 : va_W} {mc ms : Nat} {v : Int32} {ty : FieldType} {Post : Option Value → va_W → Prop} (C : GC X cc nL own (some ty)) (hQ : GQ X w0 mc ms Post) (hdg : decode cc pc = .ok (.ireturn, 1)) (hn : narrow ty (.int v) = .int v) (ha : a ≤ mc) (hb : b ≤ ms) (hp : Post (some (.int v)) ws) : G X a b ws lv pc [.int v] := fun H locs ls hP hD hS hl => by
  refine W.widen ha hb ?_
  rw [show gQ X = _ from hQ.1]
  rw [hQ.2] at hD hS
  exact W.zret C.1 C.2.1 C.2.2.1 hn (fun t ht hW => ⟨⟨_, ws, rfl, hp, by rw [ht]; exact hP, hD⟩, hS.F ht⟩) hS.2.2 hdg C.2.2.2.2.2.2.2.2.2.1
theorem g_lret {w0 : va_W} {mc ms : Nat} {v : Int64} {Post : Option Value → va_W → Prop} (C : GC X cc nL own (some .long)) (hQ : GQ X w0 mc ms Post) (hdg : decode cc pc = .ok (.lreturn, 1)) (ha : a ≤ mc) (hb : b ≤ ms) (hp : Post (some (.long v)) ws) : G X a b ws lv pc [.long v] := fun H locs ls hP hD hS hl => by
  refine W.widen ha hb ?_
  rw [show gQ X = _ from hQ.1]
  rw [hQ.2] at hD hS
  exact W.lret C.1 C.2.1 C.2.2.1 (fun t ht hW => ⟨⟨_, ws, rfl, hp, by rw [ht]; exact hP, hD⟩, hS.F ht⟩) hS.2.2 hdg C.2.2.2.2.2.2.2.2.2.1
theorem g_aret {w0 : va_W} {mc ms : Nat} {v : Value} {rt : FieldType} {Post : Option Value → va_W → Prop} (C : GC X cc nL own (some rt)) (hQ : GQ X w0 mc ms Post) (hdg : decode cc pc = .ok (.areturn, 1)) (hrt : (∃ n, rt = .object n) ∨ ∃ t, rt = .array t) (hv : v = .null ∨ ∃ a, v = .ref a) (ha : a ≤ mc) (hb : b ≤ ms) (hp : Post (some v) ws) : G X a b ws lv pc [v] := fun H locs ls hP hD hS hl => by
  refine W.widen ha hb ?_
  rw [show gQ X = _ from hQ.1]
  rw [hQ.2] at hD hS
  exact W.aret C.1 C.2.1 C.2.2.1 hrt hv (fun t ht hW => ⟨⟨_, ws, rfl, hp, by rw [ht]; exact hP, hD⟩, hS.F ht⟩) hS.2.2 hdg C.2.2.2.2.2.2.2.2.2.1
/-- calls: the callee's cells by their places isC, the others by isR -/
theorem g_back {ar : Array Value} {wc wr : va_W} {isC isR : List Nat} {mc ms a2 b2 : Nat} {Post : Option Value → va_W → Prop} {rest : List Value} (C : GC X cc nL own ret) (hC : isC.map (fun i => ws[i]?) = wc.map some) (hRr : isR.map (fun i => ws[i]?) = wr.map some) (hn2 : va_nd isR = true) (hdis : ∀ i ∈ isR, i ∉ isC) {H : Heap} {locs : List Loc} {ls : Array Slot} (hP : va_P (gD X) CL ws H) (hD : va_D (gA X) ws) (hS : va_S (gA X) (gs X).heap H locs) (hl : lv_has ls (gn X) lv)
    (hr : va_Run (gp X) (gl X) (ge X) (gR X) (gs X) (gm X) (ga X) (gb X) (gt X) (gc X) H locs a b mc ms (F0 (gm X) pc ls st) rest (WPost (gD X) wc H.size Post ar) (va_A wc H.size)) (ha : a + mc = a2) (hb : b + ms = b2) (hz : pc + 3 = z)
    (kk : ∀ (v : Option Value) (ws' : va_W), Post v ws' → G X a2 b2 (wr ++ ws') lv z (v.toList ++ rest)) : W (gp X) (gl X) (ge X) (gR X) (gs X) (gm X) (ga X) (gb X) (gt X) (gc X) H locs a b (gQ X) (F0 (gm X) pc ls st) := by
  subst hz; subst ha; subst hb
  have hF := va_free hD hS C.2.2.2.2.2.2.2.2.1 isC hC
  intro T hT Y
  obtain ⟨v, st₀, t, T', L, h0, Y', hL, e1, e2, ⟨⟨v', ws', hv, hp, hP1, hD1⟩, hz, hk⟩, stp⟩ := hr T hT Y
  cases hv
  rw [h0] at hz hk
  rw [← e1] at hP1
  obtain ⟨hP2, hD2⟩ := va_join hP hD isC isR hC hRr hn2 hdis (fun q h1 h2 => by rw [e1]; exact hk q h1 h2) hF hP1 hD1
  have hS2 : va_S (gA X) (gs X).heap T'.heap (locs ++ L) := ⟨Nat.le_trans hS.1 (by rw [e1]; exact hz), fun q h1 h2 => by
    rw [e1, hk q (Nat.lt_of_lt_of_le h1 hS.1) (fun w => h2 (hF q w))]
    exact hS.2.1 q h1 h2, fun q hq => by
    rcases List.mem_append.mp hq with h | h
    · exact hS.2.2 q h
    · exact hF _ (hL q h)⟩
  obtain ⟨t2, a1, b1⟩ := kk v ws' hp T'.heap (locs ++ L) ls hP2 hD2 hS2 hl T' rfl Y'
  exact ⟨t2, stp t2 a1, b1⟩
theorem con_pre {wc : va_W} {isC : List Nat} {av : List Value} (C : GC X cc nL own ret) (hn : va_nd isC = true) (hC : isC.map (fun i => ws[i]?) = wc.map some) (hCf : isC.filterMap (fun i => ws[i]?) = wc) {H : Heap} {locs : List Loc} (hP : va_P (gD X) CL ws H) (hD : va_D (gA X) ws) (hS : va_S (gA X) (gs X).heap H locs) : PreS (gs X) H (va_Pc av (WPre (gD X) (gK X) wc H.size)) av := by
  have hF := va_free hD hS C.2.2.2.2.2.2.2.2.1 isC hC
  refine ⟨fun a U g mk q => ?_, fun U hU hW => ⟨rfl, by rw [hU], by rw [hU]; exact hP.sub isC hCf, va_K.moved hW.alike C.2.2.2.2.2.2.2.1, (hD.sub isC hn hC).weaken (fun _ _ _ _ => trivial), C.2.2.2.2.2.2.2.2.2.2.to hW hS hU hF⟩⟩
  obtain ⟨q0, q1, qP, qK, qD, qE⟩ := q
  exact ⟨q0, q1, qP, va_K.moved (u := U) (U := U.calling g mk a) (Vm.Alike.refl U.vm) qK, qD, qE.same rfl⟩
theorem con_good {y : MethodName} {cy : ByteArray} {nLy : Nat} {rety : Option FieldType} (h : Cond.code y cy nLy rety ∈ TBL) : GoodIn TBL (Cond.code y cy nLy rety :: TBL) := fun w hw => by
  rcases List.mem_cons.mp hw with e | e
  · subst e
    exact ⟨h, tbl_ok _ h⟩
  · exact ⟨e, tbl_ok _ e⟩
theorem g_callV {Cn0 : String} {y : MethodName} {cy : ByteArray} {nLy index n : Nat} {rety : Option FieldType} {fr lo mc ms fr0 lo0 mc0 ms0 a2 b2 : Nat} {av As rest : List Value} {wc wr : va_W} {Post : Option Value → va_W → Prop}  (C : GC X cc nL own ret) (hR : GR X fr0 lo0 mc0 ms0) (hM : Con (gl X) (gD X) (gK X) y cy nLy rety fr lo mc ms av wc Post) (hdg : decode cc pc = .ok (.invokevirtual index, 3)) (hlk : Cond.methodLink own index y ∈ TBL) (hin : Cond.instanceMethod y ∈ TBL) (hse : Cond.selects Cn0 y y ∈ TBL) (hcd : Cond.code y cy nLy rety ∈ TBL) (hini : Cond.initialized y.cls ∈ TBL) (hd : y.cls ≠ "java/lang/invoke/MethodHandle" ∧ y.cls ≠ "java/lang/invoke/VarHandle" ∧ (parseMethodDescriptor y.desc).map (fun d => d.parameters.length) = some n) (isC isR : List Nat) (hn : va_nd isC = true) (hn2 : va_nd isR = true) (hC : isC.map (fun i => ws[i]?) = wc.map some) (hCf : isC.filterMap (fun i => ws[i]?) = wc) (hRr : isR.map (fun i => ws[i]?) = wr.map some) (hdis : ∀ i ∈ isR, i ∉ isC) (hroom : fr + 1 ≤ fr0 ∧ 8 + (nLy + 11) + lo ≤ lo0) (ha : a + mc = a2) (hb : b + ms = b2) (ha3 : a2 ≤ mc0) (hb3 : b2 ≤ ms0) (hcat : (rest.map fun v => v.category).sum ≤ 8) (hnp : As.length = n) (hz : pc + 3 = z) (j : Nat) {o ci N : Nat} {Cn : String} {T : u_T} {ty0 : Nat → FieldType} {fs : List Value} (Y : GCL ci Cn T N ty0) (he : ws[j]? = some (o, .inr (ci, fs))) (hsc : Cn0 = Cn) (hst : st = As.reverse ++ .ref o :: rest) (hav : av = .ref o :: As) (kk : ∀ (v : Option Value) (ws' : va_W), Post v ws' → G X a2 b2 (wr ++ ws') lv z (v.toList ++ rest)) : G X a b ws lv pc st := fun H locs ls hP hD hS hl => by
  subst hst; subst hav
  exact g_back C hC hRr hn2 hdis hP hD hS hl (va_runV (As := As) (rest := rest) ⟨C.1, C.2.1, C.2.2.2.1, C.2.2.2.2.2.1, C.2.2.2.2.2.2.1⟩ (hM H.size) ⟨callB_of n C.2.2.2.2.2.2.1 (con_good hcd) rfl rfl rfl (C.2.2.2.2.2.2.1 _ hini) (C.2.2.2.2.2.2.1 _ hlk) hd ⟨by rw [hR]; exact hroom.1, by rw [hR]; exact hroom.2⟩, C.2.2.2.2.2.2.1 _ hin, C.2.2.2.2.2.2.1 _ (hsc ▸ hse)⟩ ⟨(con_pre C hn hC hCf hP hD hS).1, va_recv C.2.2.2.2.2.2.2.1 hP Y.1 he, (con_pre C hn hC hCf hP hD hS).2⟩ rfl hnp (hl.1.trans C.2.2.2.2.1) rfl (lv_room hcat) hdg ⟨by rw [hR, ha]; exact ha3, by rw [hR, hb]; exact hb3⟩) ha hb hz kk
theorem g_callVN {Cn0 : String} {y : MethodName} {cy : ByteArray} {nLy index n : Nat} {rety : Option FieldType} {fr lo mc ms fr0 lo0 mc0 ms0 a2 b2 : Nat} {av As rest : List Value} {wc wr : va_W} {Post : Option Value → va_W → Prop} {host : String} (C : GC X cc nL own ret) (hR : GR X fr0 lo0 mc0 ms0) (hM : Con (gl X) (gD X) (gK X) y cy nLy rety fr lo mc ms av wc Post) (hdg : decode cc pc = .ok (.invokevirtual index, 3)) (hlk : Cond.methodLinkNest own index y host ∈ NST) (hin : Cond.instanceMethod y ∈ TBL) (hse : Cond.selects Cn0 y y ∈ TBL) (hcd : Cond.code y cy nLy rety ∈ TBL) (hini : Cond.initialized y.cls ∈ TBL) (hd : y.cls ≠ "java/lang/invoke/MethodHandle" ∧ y.cls ≠ "java/lang/invoke/VarHandle" ∧ (parseMethodDescriptor y.desc).map (fun d => d.parameters.length) = some n) (isC isR : List Nat) (hn : va_nd isC = true) (hn2 : va_nd isR = true) (hC : isC.map (fun i => ws[i]?) = wc.map some) (hCf : isC.filterMap (fun i => ws[i]?) = wc) (hRr : isR.map (fun i => ws[i]?) = wr.map some) (hdis : ∀ i ∈ isR, i ∉ isC) (hroom : fr + 1 ≤ fr0 ∧ 8 + (nLy + 11) + lo ≤ lo0) (ha : a + mc = a2) (hb : b + ms = b2) (ha3 : a2 ≤ mc0) (hb3 : b2 ≤ ms0) (hcat : (rest.map fun v => v.category).sum ≤ 8) (hnp : As.length = n) (hz : pc + 3 = z) (j : Nat) {o ci N : Nat} {Cn : String} {T : u_T} {ty0 : Nat → FieldType} {fs : List Value} (Y : GCL ci Cn T N ty0) (he : ws[j]? = some (o, .inr (ci, fs))) (hsc : Cn0 = Cn) (hst : st = As.reverse ++ .ref o :: rest) (hav : av = .ref o :: As) (kk : ∀ (v : Option Value) (ws' : va_W), Post v ws' → G X a2 b2 (wr ++ ws') lv z (v.toList ++ rest)) : G X a b ws lv pc st := fun H locs ls hP hD hS hl => by
  subst hst; subst hav
  exact g_back C hC hRr hn2 hdis hP hD hS hl (va_runVN (As := As) (rest := rest) ⟨C.1, C.2.1, C.2.2.2.1, C.2.2.2.2.2.1, C.2.2.2.2.2.2.1⟩ (hM H.size) ⟨va_cnB n C.2.2.2.2.2.2.1 (con_good hcd) rfl rfl rfl (C.2.2.2.2.2.2.2.2.2.2.1 _ hlk) (C.2.2.2.2.2.2.1 _ hini) hd ⟨by rw [hR]; exact hroom.1, by rw [hR]; exact hroom.2⟩, C.2.2.2.2.2.2.1 _ hin, C.2.2.2.2.2.2.1 _ (hsc ▸ hse)⟩ ⟨(con_pre C hn hC hCf hP hD hS).1, va_recv C.2.2.2.2.2.2.2.1 hP Y.1 he, (con_pre C hn hC hCf hP hD hS).2⟩ rfl hnp (hl.1.trans C.2.2.2.2.1) rfl (lv_room hcat) hdg ⟨by rw [hR, ha]; exact ha3, by rw [hR, hb]; exact hb3⟩) ha hb hz kk
theorem g_callI {y : MethodName} {cy : ByteArray} {nLy index n : Nat}  {fr lo mc ms fr0 lo0 mc0 ms0 a2 b2 : Nat} {av As rest : List Value} {wc wr : va_W} {Post : Option Value → va_W → Prop}  (C : GC X cc nL own ret) (hR : GR X fr0 lo0 mc0 ms0) (hM : Con (gl X) (gD X) (gK X) y cy nLy none fr lo mc ms av wc Post) (hdg : decode cc pc = .ok (.invokespecial index, 3)) (hlk : Cond.methodLink own index y ∈ TBL) (hin : Cond.instanceMethod y ∈ TBL) (hy : y.name = "<init>") (hcd : Cond.code y cy nLy none ∈ TBL) (hini : Cond.initialized y.cls ∈ TBL) (hd : y.cls ≠ "java/lang/invoke/MethodHandle" ∧ y.cls ≠ "java/lang/invoke/VarHandle" ∧ (parseMethodDescriptor y.desc).map (fun d => d.parameters.length) = some n) (isC isR : List Nat) (hn : va_nd isC = true) (hn2 : va_nd isR = true) (hC : isC.map (fun i => ws[i]?) = wc.map some) (hCf : isC.filterMap (fun i => ws[i]?) = wc) (hRr : isR.map (fun i => ws[i]?) = wr.map some) (hdis : ∀ i ∈ isR, i ∉ isC) (hroom : fr + 1 ≤ fr0 ∧ 8 + (nLy + 11) + lo ≤ lo0) (ha : a + mc = a2) (hb : b + ms = b2) (ha3 : a2 ≤ mc0) (hb3 : b2 ≤ ms0) (hcat : (rest.map fun v => v.category).sum ≤ 8) (hnp : As.length = n) (hz : pc + 3 = z) {o : Nat} (hst : st = As.reverse ++ .ref o :: rest) (hav : av = .ref o :: As) (kk : ∀ (v : Option Value) (ws' : va_W), Post v ws' → G X a2 b2 (wr ++ ws') lv z (v.toList ++ rest)) : G X a b ws lv pc st := fun H locs ls hP hD hS hl => by
  subst hst; subst hav
  exact g_back C hC hRr hn2 hdis hP hD hS hl (va_runI (As := As) (rest := rest) ⟨C.1, C.2.1, C.2.2.2.1, C.2.2.2.2.2.1, C.2.2.2.2.2.2.1⟩ (hM H.size) ⟨callB_of n C.2.2.2.2.2.2.1 (con_good hcd) rfl rfl rfl (C.2.2.2.2.2.2.1 _ hini) (C.2.2.2.2.2.2.1 _ hlk) hd ⟨by rw [hR]; exact hroom.1, by rw [hR]; exact hroom.2⟩, hy, C.2.2.2.2.2.2.1 _ hin⟩ (con_pre C hn hC hCf hP hD hS) rfl hnp (hl.1.trans C.2.2.2.2.1) rfl (lv_room hcat) hdg ⟨by rw [hR, ha]; exact ha3, by rw [hR, hb]; exact hb3⟩) ha hb hz kk
theorem g_callIN {y : MethodName} {cy : ByteArray} {nLy index n : Nat}  {fr lo mc ms fr0 lo0 mc0 ms0 a2 b2 : Nat} {av As rest : List Value} {wc wr : va_W} {Post : Option Value → va_W → Prop} {host : String} (C : GC X cc nL own ret) (hR : GR X fr0 lo0 mc0 ms0) (hM : Con (gl X) (gD X) (gK X) y cy nLy none fr lo mc ms av wc Post) (hdg : decode cc pc = .ok (.invokespecial index, 3)) (hlk : Cond.methodLinkNest own index y host ∈ NST) (hin : Cond.instanceMethod y ∈ TBL) (hy : y.name = "<init>") (hcd : Cond.code y cy nLy none ∈ TBL) (hini : Cond.initialized y.cls ∈ TBL) (hd : y.cls ≠ "java/lang/invoke/MethodHandle" ∧ y.cls ≠ "java/lang/invoke/VarHandle" ∧ (parseMethodDescriptor y.desc).map (fun d => d.parameters.length) = some n) (isC isR : List Nat) (hn : va_nd isC = true) (hn2 : va_nd isR = true) (hC : isC.map (fun i => ws[i]?) = wc.map some) (hCf : isC.filterMap (fun i => ws[i]?) = wc) (hRr : isR.map (fun i => ws[i]?) = wr.map some) (hdis : ∀ i ∈ isR, i ∉ isC) (hroom : fr + 1 ≤ fr0 ∧ 8 + (nLy + 11) + lo ≤ lo0) (ha : a + mc = a2) (hb : b + ms = b2) (ha3 : a2 ≤ mc0) (hb3 : b2 ≤ ms0) (hcat : (rest.map fun v => v.category).sum ≤ 8) (hnp : As.length = n) (hz : pc + 3 = z) {o : Nat} (hst : st = As.reverse ++ .ref o :: rest) (hav : av = .ref o :: As) (kk : ∀ (v : Option Value) (ws' : va_W), Post v ws' → G X a2 b2 (wr ++ ws') lv z (v.toList ++ rest)) : G X a b ws lv pc st := fun H locs ls hP hD hS hl => by
  subst hst; subst hav
  exact g_back C hC hRr hn2 hdis hP hD hS hl (va_runIN (As := As) (rest := rest) ⟨C.1, C.2.1, C.2.2.2.1, C.2.2.2.2.2.1, C.2.2.2.2.2.2.1⟩ (hM H.size) ⟨va_cnB n C.2.2.2.2.2.2.1 (con_good hcd) rfl rfl rfl (C.2.2.2.2.2.2.2.2.2.2.1 _ hlk) (C.2.2.2.2.2.2.1 _ hini) hd ⟨by rw [hR]; exact hroom.1, by rw [hR]; exact hroom.2⟩, hy, C.2.2.2.2.2.2.1 _ hin⟩ (con_pre C hn hC hCf hP hD hS) rfl hnp (hl.1.trans C.2.2.2.2.1) rfl (lv_room hcat) hdg ⟨by rw [hR, ha]; exact ha3, by rw [hR, hb]; exact hb3⟩) ha hb hz kk
theorem g_callS {y : MethodName} {cy : ByteArray} {nLy index n : Nat} {rety : Option FieldType} {fr lo mc ms fr0 lo0 mc0 ms0 a2 b2 : Nat} {av As rest : List Value} {wc wr : va_W} {Post : Option Value → va_W → Prop}  (C : GC X cc nL own ret) (hR : GR X fr0 lo0 mc0 ms0) (hM : Con (gl X) (gD X) (gK X) y cy nLy rety fr lo mc ms av wc Post) (hdg : decode cc pc = .ok (.invokestatic index, 3)) (hlk : Cond.methodLink own index y ∈ TBL) (hstt : Cond.static y ∈ TBL) (hcd : Cond.code y cy nLy rety ∈ TBL) (hini : Cond.initialized y.cls ∈ TBL) (hd : y.cls ≠ "java/lang/invoke/MethodHandle" ∧ y.cls ≠ "java/lang/invoke/VarHandle" ∧ (parseMethodDescriptor y.desc).map (fun d => d.parameters.length) = some n) (isC isR : List Nat) (hn : va_nd isC = true) (hn2 : va_nd isR = true) (hC : isC.map (fun i => ws[i]?) = wc.map some) (hCf : isC.filterMap (fun i => ws[i]?) = wc) (hRr : isR.map (fun i => ws[i]?) = wr.map some) (hdis : ∀ i ∈ isR, i ∉ isC) (hroom : fr + 1 ≤ fr0 ∧ 8 + (nLy + 11) + lo ≤ lo0) (ha : a + mc = a2) (hb : b + ms = b2) (ha3 : a2 ≤ mc0) (hb3 : b2 ≤ ms0) (hcat : (rest.map fun v => v.category).sum ≤ 8) (hnp : As.length = n) (hz : pc + 3 = z) (hst : st = As.reverse ++ rest) (hav : As = av) (kk : ∀ (v : Option Value) (ws' : va_W), Post v ws' → G X a2 b2 (wr ++ ws') lv z (v.toList ++ rest)) : G X a b ws lv pc st := fun H locs ls hP hD hS hl => by
  subst hst; subst hav
  exact g_back C hC hRr hn2 hdis hP hD hS hl (va_runS (As := As) (rest := rest) ⟨C.1, C.2.1, C.2.2.2.1, C.2.2.2.2.2.1, C.2.2.2.2.2.2.1⟩ (hM H.size) ⟨callB_of n C.2.2.2.2.2.2.1 (con_good hcd) rfl rfl rfl (C.2.2.2.2.2.2.1 _ hini) (C.2.2.2.2.2.2.1 _ hlk) hd ⟨by rw [hR]; exact hroom.1, by rw [hR]; exact hroom.2⟩, C.2.2.2.2.2.2.1 _ hstt⟩ (con_pre C hn hC hCf hP hD hS) rfl hnp (hl.1.trans C.2.2.2.2.1) rfl (lv_room hcat) hdg ⟨by rw [hR, ha]; exact ha3, by rw [hR, hb]; exact hb3⟩) ha hb hz kk
theorem evW (C : GC X cc nL own ret) : vk_R "LoanHouse$Reader" 9 txW (gK X 10) (gs X) := C.2.2.2.2.2.2.2.2.2.2.2.2.1
theorem evE (C : GC X cc nL own ret) : vk_R "LoanHouseModel" 208 "" (gK X 13) (gs X) := C.2.2.2.2.2.2.2.2.2.2.2.2.2.1
theorem evM (C : GC X cc nL own ret) : vk_R "LoanHouseModel" 816 "main" (gK X 14) (gs X) := C.2.2.2.2.2.2.2.2.2.2.2.2.2.2.1
theorem evC (C : GC X cc nL own ret) : va_Z "java/lang/String" "COMPACT_STRINGS" "Z" (.int 1) (gA X) (gs X) (gs X).heap := C.2.2.2.2.2.2.2.2.2.2.2.2.2.2.2.1
theorem evF (C : GC X cc nL own ret) : va_Zq "jdk/internal/util/Preconditions" "SIOOBE_FORMATTER" "Ljava/util/function/BiFunction;" (gA X) (gs X) (gs X).heap := C.2.2.2.2.2.2.2.2.2.2.2.2.2.2.2.2.1
theorem evD (C : GC X cc nL own ret) : va_Z "java/util/ArrayList" "DEFAULTCAPACITY_EMPTY_ELEMENTDATA" "[Ljava/lang/Object;" (.ref (gK X 12)) (gA X) (gs X) (gs X).heap := C.2.2.2.2.2.2.2.2.2.2.2.2.2.2.2.2.2.1
theorem evWo (C : GC X cc nL own ret) : va_O "java/lang/String" (gK X 10) (gA X) (gs X) (gs X).heap := C.2.2.2.2.2.2.2.2.2.2.2.2.2.2.2.2.2.2.1
theorem evWc (C : GC X cc nL own ret) : va_OF "java/lang/String" "coder" "B" (.int 0) (gK X 10) (gA X) (gs X) (gs X).heap := C.2.2.2.2.2.2.2.2.2.2.2.2.2.2.2.2.2.2.2.1
theorem evWv (C : GC X cc nL own ret) : va_OF "java/lang/String" "value" "[B" (.ref (gK X 11)) (gK X 10) (gA X) (gs X) (gs X).heap := C.2.2.2.2.2.2.2.2.2.2.2.2.2.2.2.2.2.2.2.2.1
theorem evWt (C : GC X cc nL own ret) : va_T .byte (gK X 11) 157 (fun j => .int (fW j)) (gA X) (gs X) (gs X).heap := C.2.2.2.2.2.2.2.2.2.2.2.2.2.2.2.2.2.2.2.2.2.1
theorem evEo (C : GC X cc nL own ret) : va_O "java/lang/String" (gK X 13) (gA X) (gs X) (gs X).heap := C.2.2.2.2.2.2.2.2.2.2.2.2.2.2.2.2.2.2.2.2.2.2.1
theorem evA (C : GC X cc nL own ret) : (Cond.arrayOver (.array .long)).before #[] (gs X) = true := C.2.2.2.2.2.2.2.2.2.2.2.2.2.2.2.2.2.2.2.2.2.2.2
theorem g_getE {index o : Nat} {on n d : String} {v : Value} (C : GC X cc nL own ret) (hdg : decode cc pc = .ok (.getfield index, 3)) (hE : va_OF on n d v o (gA X) (gs X) (gs X).heap) (hw : Cond.fieldLink own index on n d ∈ TBL) (hz : pc + 3 = z) (k : G X a b ws lv z (v :: st)) : G X a b ws lv pc (.ref o :: st) := fun H locs ls hP hD hS hl => by
  subst hz
  exact vk_getf C.1 C.2.1 hE hS C.2.2.2.2.2.1 (C.2.2.2.2.2.2.1 _ hw) (fun _ h => h) hdg (k H locs ls hP hD hS hl)
theorem g_tlen {o N : Nat} {ty : FieldType} {f : Nat → Value} {v : Int32} (C : GC X cc nL own ret) (hdg : decode cc pc = .ok (.arraylength, 1)) (hT : va_T ty o N f (gA X) (gs X) (gs X).heap) (hv : Int32.ofNat N = v) (hz : pc + 1 = z) (k : G X a b ws lv z (.int v :: st)) : G X a b ws lv pc (.ref o :: st) := fun H locs ls hP hD hS hl => by
  subst hz
  exact va_tlen C.1 C.2.1 hT hS hv hdg (k H locs ls hP hD hS hl)
theorem g_tb {o N : Nat} {f : Nat → Value} {i : Int32} {v : Value} (C : GC X cc nL own ret) (hdg : decode cc pc = .ok (.baload, 1)) (hT : va_T .byte o N f (gA X) (gs X) (gs X).heap) (hin : vp_in i N) (hv : f i.toNatClampNeg = v) (hz : pc + 1 = z) (k : G X a b ws lv z (v :: st)) : G X a b ws lv pc (.int i :: .ref o :: st) := fun H locs ls hP hD hS hl => by
  subst hz
  exact va_tb C.1 C.2.1 hT hS hin hv hdg (k H locs ls hP hD hS hl)
theorem g_callVE {Cn0 : String} {y : MethodName} {cy : ByteArray} {nLy index n : Nat} {rety : Option FieldType} {fr lo mc ms fr0 lo0 mc0 ms0 a2 b2 : Nat} {av As rest : List Value} {wc wr : va_W} {Post : Option Value → va_W → Prop}  (C : GC X cc nL own ret) (hR : GR X fr0 lo0 mc0 ms0) (hM : Con (gl X) (gD X) (gK X) y cy nLy rety fr lo mc ms av wc Post) (hdg : decode cc pc = .ok (.invokevirtual index, 3)) (hlk : Cond.methodLink own index y ∈ TBL) (hin : Cond.instanceMethod y ∈ TBL) (hse : Cond.selects Cn0 y y ∈ TBL) (hcd : Cond.code y cy nLy rety ∈ TBL) (hini : Cond.initialized y.cls ∈ TBL) (hd : y.cls ≠ "java/lang/invoke/MethodHandle" ∧ y.cls ≠ "java/lang/invoke/VarHandle" ∧ (parseMethodDescriptor y.desc).map (fun d => d.parameters.length) = some n) (isC isR : List Nat) (hn : va_nd isC = true) (hn2 : va_nd isR = true) (hC : isC.map (fun i => ws[i]?) = wc.map some) (hCf : isC.filterMap (fun i => ws[i]?) = wc) (hRr : isR.map (fun i => ws[i]?) = wr.map some) (hdis : ∀ i ∈ isR, i ∉ isC) (hroom : fr + 1 ≤ fr0 ∧ 8 + (nLy + 11) + lo ≤ lo0) (ha : a + mc = a2) (hb : b + ms = b2) (ha3 : a2 ≤ mc0) (hb3 : b2 ≤ ms0) (hcat : (rest.map fun v => v.category).sum ≤ 8) (hnp : As.length = n) (hz : pc + 3 = z) {o : Nat} {Cn : String} (hE : va_O Cn o (gA X) (gs X) (gs X).heap) (hsc : Cn0 = Cn) (hst : st = As.reverse ++ .ref o :: rest) (hav : av = .ref o :: As) (kk : ∀ (v : Option Value) (ws' : va_W), Post v ws' → G X a2 b2 (wr ++ ws') lv z (v.toList ++ rest)) : G X a b ws lv pc st := fun H locs ls hP hD hS hl => by
  subst hst; subst hav
  exact g_back C hC hRr hn2 hdis hP hD hS hl (va_runV (As := As) (rest := rest) ⟨C.1, C.2.1, C.2.2.2.1, C.2.2.2.2.2.1, C.2.2.2.2.2.2.1⟩ (hM H.size) ⟨callB_of n C.2.2.2.2.2.2.1 (con_good hcd) rfl rfl rfl (C.2.2.2.2.2.2.1 _ hini) (C.2.2.2.2.2.2.1 _ hlk) hd ⟨by rw [hR]; exact hroom.1, by rw [hR]; exact hroom.2⟩, C.2.2.2.2.2.2.1 _ hin, C.2.2.2.2.2.2.1 _ (hsc ▸ hse)⟩ ⟨(con_pre C hn hC hCf hP hD hS).1, (by obtain ⟨cell, h1, h2, h3, -⟩ := hE.kept hS.2.1; exact ⟨cell, h1, h2, h3⟩), (con_pre C hn hC hCf hP hD hS).2⟩ rfl hnp (hl.1.trans C.2.2.2.2.1) rfl (lv_room hcat) hdg ⟨by rw [hR, ha]; exact ha3, by rw [hR, hb]; exact hb3⟩) ha hb hz kk
end G2
theorem kX12 : GCL 0 "LoanHouse" TX12 17 tyX12 := ⟨rfl, inX12, tyX12_ok, nmX12⟩
theorem kX8 : GCL 1 "LoanHouse$Tree" TX8 12 tyX8 := ⟨rfl, inX8, tyX8_ok, nmX8⟩
theorem kX6 : GCL 2 "LoanHouse$Reader" TX6 18 tyX6 := ⟨rfl, inX6, tyX6_ok, nmX6⟩
theorem kX0 : GCL 3 "LoanHouse$Checker" TX0 11 tyX0 := ⟨rfl, inX0, tyX0_ok, nmX0⟩
theorem kX1 : GCL 4 "LoanHouse$Emitter" TX1 10 tyX1 := ⟨rfl, inX1, tyX1_ok, nmX1⟩
theorem kX11 : GCL 5 "LoanHouse$Ways" TX11 22 tyX11 := ⟨rfl, inX11, tyX11_ok, nmX11⟩
theorem kX3 : GCL 6 "LoanHouse$Machine" TX3 21 tyX3 := ⟨rfl, inX3, tyX3_ok, nmX3⟩
theorem kX7 : GCL 7 "LoanHouse$Store" TX7 19 tyX7 := ⟨rfl, inX7, tyX7_ok, nmX7⟩
theorem kX5 : GCL 8 "LoanHouse$Program" TX5 15 tyX5 := ⟨rfl, inX5, tyX5_ok, nmX5⟩
theorem kX9 : GCL 9 "LoanHouse$Types" TX9 19 tyX9 := ⟨rfl, inX9, tyX9_ok, nmX9⟩
theorem kX2 : GCL 10 "LoanHouse$Functions" TX2 19 tyX2 := ⟨rfl, inX2, tyX2_ok, nmX2⟩
theorem kX10 : GCL 11 "LoanHouse$Variables" TX10 12 tyX10 := ⟨rfl, inX10, tyX10_ok, nmX10⟩
theorem kX4 : GCL 12 "LoanHouse$Places" TX4 20 tyX4 := ⟨rfl, inX4, tyX4_ok, nmX4⟩
theorem kX30 : GCL 13 "LoanHouseModel" TX30 95 tyX30 := ⟨rfl, inX30, tyX30_ok, nmX30⟩
theorem kX26 : GCL 14 "LoanHouseModel$Type" TX26 3 tyX26 := ⟨rfl, inX26, tyX26_ok, nmX26⟩
theorem kX23 : GCL 15 "LoanHouseModel$Program" TX23 4 tyX23 := ⟨rfl, inX23, tyX23_ok, nmX23⟩
theorem kJ4 : GCL 16 "java/lang/StringBuilder" TJ4 4 tyJ4 := ⟨rfl, inJ4, tyJ4_ok, nmJ4⟩
theorem kJ0 : GCL 17 "java/lang/String" TJ0 4 tyJ0 := ⟨rfl, inJ0, tyJ0_ok, nmJ0⟩
theorem kJx4a65c : GCL 18 "java/util/ArrayList" TJx4a65c 3 tyJx4a65c := ⟨rfl, inJx4a65c, tyJx4a65c_ok, nmJx4a65c⟩

theorem dX12_about_0 : decode cX12_about 0 = .ok (.aload_n 0, 1) := by decide +kernel
theorem dX12_about_1 : decode cX12_about 1 = .ok (.getfield 103, 3) := by decide +kernel
theorem dX12_about_4 : decode cX12_about 4 = .ok (.ifCond .eq 14, 3) := by decide +kernel
theorem dX12_about_18 : decode cX12_about 18 = .ok (.iconst (-1), 1) := by decide +kernel
theorem dX12_about_19 : decode cX12_about 19 = .ok (.ireturn, 1) := by decide +kernel
theorem dX12_clashes_0 : decode cX12_clashes 0 = .ok (.iconst 0, 1) := by decide +kernel
theorem dX12_clashes_1 : decode cX12_clashes 1 = .ok (.ireturn, 1) := by decide +kernel
theorem dX12_count_0 : decode cX12_count 0 = .ok (.iload_n 1, 1) := by decide +kernel
theorem dX12_count_1 : decode cX12_count 1 = .ok (.ifCond .lt 8, 3) := by decide +kernel
theorem dX12_count_4 : decode cX12_count 4 = .ok (.iload_n 1, 1) := by decide +kernel
theorem dX12_count_5 : decode cX12_count 5 = .ok (.iconst 3, 1) := by decide +kernel
theorem dX12_count_6 : decode cX12_count 6 = .ok (.if_icmp .le 5, 3) := by decide +kernel
theorem dX12_count_9 : decode cX12_count 9 = .ok (.iconst (-1), 1) := by decide +kernel
theorem dX12_count_10 : decode cX12_count 10 = .ok (.ireturn, 1) := by decide +kernel
theorem dX12_count_11 : decode cX12_count 11 = .ok (.aload_n 0, 1) := by decide +kernel
theorem dX12_count_12 : decode cX12_count 12 = .ok (.getfield 96, 3) := by decide +kernel
theorem dX12_count_15 : decode cX12_count 15 = .ok (.ifCond .ne 5, 3) := by decide +kernel
theorem dX12_count_18 : decode cX12_count 18 = .ok (.iconst 0, 1) := by decide +kernel
theorem dX12_count_19 : decode cX12_count 19 = .ok (.ireturn, 1) := by decide +kernel
theorem dX12_fault_0 : decode cX12_fault 0 = .ok (.iload_n 1, 1) := by decide +kernel
theorem dX12_fault_1 : decode cX12_fault 1 = .ok (.tableswitch 42 0 2 #[27, 32, 37], 27) := by decide +kernel
theorem dX12_fault_28 : decode cX12_fault 28 = .ok (.aload_n 0, 1) := by decide +kernel
theorem dX12_fault_29 : decode cX12_fault 29 = .ok (.getfield 68, 3) := by decide +kernel
theorem dX12_fault_32 : decode cX12_fault 32 = .ok (.ireturn, 1) := by decide +kernel
theorem dX12_fault_33 : decode cX12_fault 33 = .ok (.aload_n 0, 1) := by decide +kernel
theorem dX12_fault_34 : decode cX12_fault 34 = .ok (.getfield 72, 3) := by decide +kernel
theorem dX12_fault_37 : decode cX12_fault 37 = .ok (.ireturn, 1) := by decide +kernel
theorem dX12_fault_38 : decode cX12_fault 38 = .ok (.aload_n 0, 1) := by decide +kernel
theorem dX12_fault_39 : decode cX12_fault 39 = .ok (.getfield 75, 3) := by decide +kernel
theorem dX12_fault_42 : decode cX12_fault 42 = .ok (.ireturn, 1) := by decide +kernel
theorem dX12_fault_43 : decode cX12_fault 43 = .ok (.iconst (-1), 1) := by decide +kernel
theorem dX12_fault_44 : decode cX12_fault 44 = .ok (.ireturn, 1) := by decide +kernel
theorem dX12_feed_0 : decode cX12_feed 0 = .ok (.aload_n 0, 1) := by decide +kernel
theorem dX12_feed_1 : decode cX12_feed 1 = .ok (.getfield 78, 3) := by decide +kernel
theorem dX12_feed_4 : decode cX12_feed 4 = .ok (.bipush 20, 2) := by decide +kernel
theorem dX12_feed_6 : decode cX12_feed 6 = .ok (.iadd, 1) := by decide +kernel
theorem dX12_feed_7 : decode cX12_feed 7 = .ok (.sipush 3000, 3) := by decide +kernel
theorem dX12_feed_10 : decode cX12_feed 10 = .ok (.if_icmp .le 5, 3) := by decide +kernel
theorem dX12_feed_15 : decode cX12_feed 15 = .ok (.aload_n 0, 1) := by decide +kernel
theorem dX12_feed_16 : decode cX12_feed 16 = .ok (.iload_n 1, 1) := by decide +kernel
theorem dX12_feed_17 : decode cX12_feed 17 = .ok (.invokevirtual 81, 3) := by decide +kernel
theorem dX12_feed_20 : decode cX12_feed 20 = .ok (.aload_n 0, 1) := by decide +kernel
theorem dX12_feed_21 : decode cX12_feed 21 = .ok (.iload_n 2, 1) := by decide +kernel
theorem dX12_feed_22 : decode cX12_feed 22 = .ok (.invokevirtual 81, 3) := by decide +kernel
theorem dX12_feed_25 : decode cX12_feed 25 = .ok (.aload_n 0, 1) := by decide +kernel
theorem dX12_feed_26 : decode cX12_feed 26 = .ok (.iload_n 3, 1) := by decide +kernel
theorem dX12_feed_27 : decode cX12_feed 27 = .ok (.invokevirtual 81, 3) := by decide +kernel
theorem dX12_feed_30 : decode cX12_feed 30 = .ok (.aload_n 0, 1) := by decide +kernel
theorem dX12_feed_31 : decode cX12_feed 31 = .ok (.iload 4, 2) := by decide +kernel
theorem dX12_feed_33 : decode cX12_feed 33 = .ok (.invokevirtual 81, 3) := by decide +kernel
theorem dX12_feed_36 : decode cX12_feed 36 = .ok (.aload_n 0, 1) := by decide +kernel
theorem dX12_feed_37 : decode cX12_feed 37 = .ok (.iload 5, 2) := by decide +kernel
theorem dX12_feed_39 : decode cX12_feed 39 = .ok (.invokevirtual 81, 3) := by decide +kernel
theorem dX12_feed_42 : decode cX12_feed 42 = .ok (.aload_n 0, 1) := by decide +kernel
theorem dX12_feed_43 : decode cX12_feed 43 = .ok (.getfield 78, 3) := by decide +kernel
theorem dX12_feed_46 : decode cX12_feed 46 = .ok (.ireturn, 1) := by decide +kernel
theorem dX12_feedNumber_0 : decode cX12_feedNumber 0 = .ok (.bipush 24, 2) := by decide +kernel
theorem dX12_feedNumber_2 : decode cX12_feedNumber 2 = .ok (.istore_n 2, 1) := by decide +kernel
theorem dX12_feedNumber_3 : decode cX12_feedNumber 3 = .ok (.iload_n 2, 1) := by decide +kernel
theorem dX12_feedNumber_4 : decode cX12_feedNumber 4 = .ok (.ifCond .lt 32, 3) := by decide +kernel
theorem dX12_feedNumber_7 : decode cX12_feedNumber 7 = .ok (.aload_n 0, 1) := by decide +kernel
theorem dX12_feedNumber_8 : decode cX12_feedNumber 8 = .ok (.getfield 9, 3) := by decide +kernel
theorem dX12_feedNumber_11 : decode cX12_feedNumber 11 = .ok (.aload_n 0, 1) := by decide +kernel
theorem dX12_feedNumber_12 : decode cX12_feedNumber 12 = .ok (.getfield 78, 3) := by decide +kernel
theorem dX12_feedNumber_15 : decode cX12_feedNumber 15 = .ok (.iload_n 1, 1) := by decide +kernel
theorem dX12_feedNumber_16 : decode cX12_feedNumber 16 = .ok (.iload_n 2, 1) := by decide +kernel
theorem dX12_feedNumber_17 : decode cX12_feedNumber 17 = .ok (.ishr, 1) := by decide +kernel
theorem dX12_feedNumber_18 : decode cX12_feedNumber 18 = .ok (.i2b, 1) := by decide +kernel
theorem dX12_feedNumber_19 : decode cX12_feedNumber 19 = .ok (.bastore, 1) := by decide +kernel
theorem dX12_feedNumber_20 : decode cX12_feedNumber 20 = .ok (.aload_n 0, 1) := by decide +kernel
theorem dX12_feedNumber_21 : decode cX12_feedNumber 21 = .ok (.dup, 1) := by decide +kernel
theorem dX12_feedNumber_22 : decode cX12_feedNumber 22 = .ok (.getfield 78, 3) := by decide +kernel
theorem dX12_feedNumber_25 : decode cX12_feedNumber 25 = .ok (.iconst 1, 1) := by decide +kernel
theorem dX12_feedNumber_26 : decode cX12_feedNumber 26 = .ok (.iadd, 1) := by decide +kernel
theorem dX12_feedNumber_27 : decode cX12_feedNumber 27 = .ok (.putfield 78, 3) := by decide +kernel
theorem dX12_feedNumber_30 : decode cX12_feedNumber 30 = .ok (.iinc 2 (-8), 3) := by decide +kernel
theorem dX12_feedNumber_33 : decode cX12_feedNumber 33 = .ok (.goto (-30), 3) := by decide +kernel
theorem dX12_feedNumber_36 : decode cX12_feedNumber 36 = .ok (.return_, 1) := by decide +kernel
theorem dX12_force_0 : decode cX12_force 0 = .ok (.aload_n 0, 1) := by decide +kernel
theorem dX12_force_1 : decode cX12_force 1 = .ok (.getfield 96, 3) := by decide +kernel
theorem dX12_force_4 : decode cX12_force 4 = .ok (.ifCond .eq 15, 3) := by decide +kernel
theorem dX12_force_19 : decode cX12_force 19 = .ok (.iconst (-1), 1) := by decide +kernel
theorem dX12_force_20 : decode cX12_force 20 = .ok (.ireturn, 1) := by decide +kernel
theorem dX12_function_0 : decode cX12_function 0 = .ok (.aload_n 0, 1) := by decide +kernel
theorem dX12_function_1 : decode cX12_function 1 = .ok (.getfield 96, 3) := by decide +kernel
theorem dX12_function_4 : decode cX12_function 4 = .ok (.ifCond .eq 18, 3) := by decide +kernel
theorem dX12_function_22 : decode cX12_function 22 = .ok (.iconst (-1), 1) := by decide +kernel
theorem dX12_function_23 : decode cX12_function 23 = .ok (.ireturn, 1) := by decide +kernel
theorem dX12_give_0 : decode cX12_give 0 = .ok (.aload_n 0, 1) := by decide +kernel
theorem dX12_give_1 : decode cX12_give 1 = .ok (.getfield 133, 3) := by decide +kernel
theorem dX12_give_4 : decode cX12_give 4 = .ok (.sipush 200, 3) := by decide +kernel
theorem dX12_give_7 : decode cX12_give 7 = .ok (.if_icmp .lt 5, 3) := by decide +kernel
theorem dX12_give_12 : decode cX12_give 12 = .ok (.aload_n 0, 1) := by decide +kernel
theorem dX12_give_13 : decode cX12_give 13 = .ok (.getfield 13, 3) := by decide +kernel
theorem dX12_give_16 : decode cX12_give 16 = .ok (.aload_n 0, 1) := by decide +kernel
theorem dX12_give_17 : decode cX12_give 17 = .ok (.getfield 133, 3) := by decide +kernel
theorem dX12_give_20 : decode cX12_give 20 = .ok (.lload_n 1, 1) := by decide +kernel
theorem dX12_give_21 : decode cX12_give 21 = .ok (.lastore, 1) := by decide +kernel
theorem dX12_give_22 : decode cX12_give 22 = .ok (.aload_n 0, 1) := by decide +kernel
theorem dX12_give_23 : decode cX12_give 23 = .ok (.dup, 1) := by decide +kernel
theorem dX12_give_24 : decode cX12_give 24 = .ok (.getfield 133, 3) := by decide +kernel
theorem dX12_give_27 : decode cX12_give 27 = .ok (.iconst 1, 1) := by decide +kernel
theorem dX12_give_28 : decode cX12_give 28 = .ok (.iadd, 1) := by decide +kernel
theorem dX12_give_29 : decode cX12_give 29 = .ok (.putfield 133, 3) := by decide +kernel
theorem dX12_give_32 : decode cX12_give 32 = .ok (.aload_n 0, 1) := by decide +kernel
theorem dX12_give_33 : decode cX12_give 33 = .ok (.getfield 133, 3) := by decide +kernel
theorem dX12_give_36 : decode cX12_give 36 = .ok (.ireturn, 1) := by decide +kernel
theorem dX12_lefts_0 : decode cX12_lefts 0 = .ok (.aload_n 0, 1) := by decide +kernel
theorem dX12_lefts_1 : decode cX12_lefts 1 = .ok (.getfield 103, 3) := by decide +kernel
theorem dX12_lefts_4 : decode cX12_lefts 4 = .ok (.ifCond .eq 13, 3) := by decide +kernel
theorem dX12_lefts_17 : decode cX12_lefts 17 = .ok (.iconst 0, 1) := by decide +kernel
theorem dX12_lefts_18 : decode cX12_lefts 18 = .ok (.ireturn, 1) := by decide +kernel
theorem dX12_loan_0 : decode cX12_loan 0 = .ok (.aload_n 0, 1) := by decide +kernel
theorem dX12_loan_1 : decode cX12_loan 1 = .ok (.getfield 96, 3) := by decide +kernel
theorem dX12_loan_4 : decode cX12_loan 4 = .ok (.ifCond .eq 15, 3) := by decide +kernel
theorem dX12_loan_19 : decode cX12_loan 19 = .ok (.iconst (-1), 1) := by decide +kernel
theorem dX12_loan_20 : decode cX12_loan 20 = .ok (.ireturn, 1) := by decide +kernel
theorem dX12_out_0 : decode cX12_out 0 = .ok (.aload_n 0, 1) := by decide +kernel
theorem dX12_out_1 : decode cX12_out 1 = .ok (.getfield 103, 3) := by decide +kernel
theorem dX12_out_4 : decode cX12_out 4 = .ok (.ifCond .eq 18, 3) := by decide +kernel
theorem dX12_out_22 : decode cX12_out 22 = .ok (.lconst 0, 1) := by decide +kernel
theorem dX12_out_23 : decode cX12_out 23 = .ok (.lreturn, 1) := by decide +kernel
theorem dX12_place_0 : decode cX12_place 0 = .ok (.aload_n 0, 1) := by decide +kernel
theorem dX12_place_1 : decode cX12_place 1 = .ok (.getfield 96, 3) := by decide +kernel
theorem dX12_place_4 : decode cX12_place 4 = .ok (.ifCond .eq 18, 3) := by decide +kernel
theorem dX12_place_22 : decode cX12_place 22 = .ok (.iconst (-1), 1) := by decide +kernel
theorem dX12_place_23 : decode cX12_place 23 = .ok (.ireturn, 1) := by decide +kernel
theorem dX12_run_0 : decode cX12_run 0 = .ok (.iload_n 1, 1) := by decide +kernel
theorem dX12_run_1 : decode cX12_run 1 = .ok (.iconst 1, 1) := by decide +kernel
theorem dX12_run_2 : decode cX12_run 2 = .ok (.if_icmp .lt 16, 3) := by decide +kernel
theorem dX12_run_5 : decode cX12_run 5 = .ok (.iload_n 1, 1) := by decide +kernel
theorem dX12_run_6 : decode cX12_run 6 = .ok (.ldc 136, 2) := by decide +kernel
theorem dX12_run_8 : decode cX12_run 8 = .ok (.if_icmp .gt 10, 3) := by decide +kernel
theorem dX12_run_11 : decode cX12_run 11 = .ok (.aload_n 0, 1) := by decide +kernel
theorem dX12_run_12 : decode cX12_run 12 = .ok (.getfield 96, 3) := by decide +kernel
theorem dX12_run_15 : decode cX12_run 15 = .ok (.ifCond .ne 5, 3) := by decide +kernel
theorem dX12_run_18 : decode cX12_run 18 = .ok (.iconst (-1), 1) := by decide +kernel
theorem dX12_run_19 : decode cX12_run 19 = .ok (.ireturn, 1) := by decide +kernel
theorem dX12_size_0 : decode cX12_size 0 = .ok (.aload_n 0, 1) := by decide +kernel
theorem dX12_size_1 : decode cX12_size 1 = .ok (.getfield 96, 3) := by decide +kernel
theorem dX12_size_4 : decode cX12_size 4 = .ok (.ifCond .eq 21, 3) := by decide +kernel
theorem dX12_size_25 : decode cX12_size 25 = .ok (.iconst (-1), 1) := by decide +kernel
theorem dX12_size_26 : decode cX12_size 26 = .ok (.ireturn, 1) := by decide +kernel
theorem dX12_strays_0 : decode cX12_strays 0 = .ok (.aload_n 0, 1) := by decide +kernel
theorem dX12_strays_1 : decode cX12_strays 1 = .ok (.getfield 103, 3) := by decide +kernel
theorem dX12_strays_4 : decode cX12_strays 4 = .ok (.ifCond .eq 16, 3) := by decide +kernel
theorem dX12_strays_20 : decode cX12_strays 20 = .ok (.iconst 0, 1) := by decide +kernel
theorem dX12_strays_21 : decode cX12_strays 21 = .ok (.ireturn, 1) := by decide +kernel
theorem dX12_twices_0 : decode cX12_twices 0 = .ok (.aload_n 0, 1) := by decide +kernel
theorem dX12_twices_1 : decode cX12_twices 1 = .ok (.getfield 103, 3) := by decide +kernel
theorem dX12_twices_4 : decode cX12_twices 4 = .ok (.ifCond .eq 16, 3) := by decide +kernel
theorem dX12_twices_20 : decode cX12_twices 20 = .ok (.iconst 0, 1) := by decide +kernel
theorem dX12_twices_21 : decode cX12_twices 21 = .ok (.ireturn, 1) := by decide +kernel
section G11
variable {X : GX} {cc : ByteArray} {nL : Nat} {own : String} {ret : Option FieldType} {a b : Nat} {ws : va_W} {lv : List (Nat × Value)} {pc z : Nat} {st : List Value}
theorem gd_app {l ws : List Cond} (hl : ∀ w ∈ l, w ∈ TBL) (h : GoodIn TBL ws) : GoodIn TBL (l ++ ws) := fun w hw => (List.mem_append.mp hw).elim (fun h => ⟨hl w h, tbl_ok w (hl w h)⟩) (h w)
theorem g_idiv {x y v : Int32} (C : GC X cc nL own ret) (hdg : decode cc pc = .ok (.idiv, 1)) (hne : ¬ y = 0) (hv : x / y = v) (hz : pc + 1 = z) (k : G X a b ws lv z (.int v :: st)) : G X a b ws lv pc (.int y :: .int x :: st) := fun H locs ls hP hD hS hl => by
  subst hz; subst hv
  exact lv_idiv C.1 C.2.1 hdg hne (k H locs ls hP hD hS hl)
theorem g_irem {x y v : Int32} (C : GC X cc nL own ret) (hdg : decode cc pc = .ok (.irem, 1)) (hne : ¬ y = 0) (hv : x - x / y * y = v) (hz : pc + 1 = z) (k : G X a b ws lv z (.int v :: st)) : G X a b ws lv pc (.int y :: .int x :: st) := fun H locs ls hP hD hS hl => by
  subst hz; subst hv
  exact lv_irem C.1 C.2.1 hdg hne (k H locs ls hP hD hS hl)
theorem g_callSU {y : MethodName} {cy : ByteArray} {nLy index n : Nat} {rety : Option FieldType} {fr lo mc ms fr0 lo0 mc0 ms0 a2 b2 : Nat} {av As rest : List Value} {wc wr : va_W} {Post : Option Value → va_W → Prop}  (C : GC X cc nL own ret) (hR : GR X fr0 lo0 mc0 ms0) (hM : Con (gl X) (gD X) (gK X) y cy nLy rety fr lo mc ms av wc Post) (hdg : decode cc pc = .ok (.invokespecial index, 3)) (hlk : Cond.methodLink own index y ∈ TBL) (hsm : Cond.sameMethod y.cls y.cls y.name y.desc ∈ TBL) (hsu : Cond.superclass own y.cls ∈ TBL) (hin : Cond.instanceMethod y ∈ TBL) (hno : y.name ≠ "<init>") (hcd : Cond.code y cy nLy rety ∈ TBL) (hini : Cond.initialized y.cls ∈ TBL) (hd : y.cls ≠ "java/lang/invoke/MethodHandle" ∧ y.cls ≠ "java/lang/invoke/VarHandle" ∧ (parseMethodDescriptor y.desc).map (fun d => d.parameters.length) = some n) (isC isR : List Nat) (hn : va_nd isC = true) (hn2 : va_nd isR = true) (hC : isC.map (fun i => ws[i]?) = wc.map some) (hCf : isC.filterMap (fun i => ws[i]?) = wc) (hRr : isR.map (fun i => ws[i]?) = wr.map some) (hdis : ∀ i ∈ isR, i ∉ isC) (hroom : fr + 1 ≤ fr0 ∧ 8 + (nLy + 11) + lo ≤ lo0) (ha : a + mc = a2) (hb : b + ms = b2) (ha3 : a2 ≤ mc0) (hb3 : b2 ≤ ms0) (hcat : (rest.map fun v => v.category).sum ≤ 8) (hnp : As.length = n) (hz : pc + 3 = z) (j : Nat) {o ci N : Nat} {Cn : String} {T : u_T} {ty0 : Nat → FieldType} {fs : List Value} (Y : GCL ci Cn T N ty0) (he : ws[j]? = some (o, .inr (ci, fs))) (hst : st = As.reverse ++ .ref o :: rest) (hav : av = .ref o :: As) (kk : ∀ (v : Option Value) (ws' : va_W), Post v ws' → G X a2 b2 (wr ++ ws') lv z (v.toList ++ rest)) : G X a b ws lv pc st := fun H locs ls hP hD hS hl => by
  subst hst; subst hav
  exact g_back C hC hRr hn2 hdis hP hD hS hl (va_runSU (As := As) (rest := rest) (C.2.2.2.2.2.2.2.1.1 _ _ Y.1).2 ⟨C.1, C.2.1, C.2.2.2.1, C.2.2.2.2.2.1, C.2.2.2.2.2.2.1⟩ (hM H.size) (va_cwSU n C.2.2.2.2.2.2.1 (gd_app (List.forall_mem_cons.mpr ⟨hlk, List.forall_mem_cons.mpr ⟨hsm, List.forall_mem_cons.mpr ⟨hsu, List.forall_mem_cons.mpr ⟨hin, List.forall_mem_cons.mpr ⟨hini, fun _ h => absurd h List.not_mem_nil⟩⟩⟩⟩⟩) (con_good hcd)) rfl rfl rfl ⟨hno, hd.2.2⟩ ⟨by rw [hR]; exact hroom.1, by rw [hR]; exact hroom.2⟩) ⟨(con_pre C hn hC hCf hP hD hS).1, va_recv C.2.2.2.2.2.2.2.1 hP Y.1 he, (con_pre C hn hC hCf hP hD hS).2⟩ rfl hnp (hl.1.trans C.2.2.2.2.1) rfl (lv_room hcat) hdg ⟨by rw [hR, ha]; exact ha3, by rw [hR, hb]; exact hb3⟩) ha hb hz kk
theorem g_callO {y : MethodName} {cy : ByteArray} {nLy index n : Nat} {rety : Option FieldType} {fr lo mc ms fr0 lo0 mc0 ms0 a2 b2 : Nat} {av As rest : List Value} {wc wr : va_W} {Post : Option Value → va_W → Prop}  (C : GC X cc nL own ret) (hR : GR X fr0 lo0 mc0 ms0) (hM : Con (gl X) (gD X) (gK X) y cy nLy rety fr lo mc ms av wc Post) (hdg : decode cc pc = .ok (.invokevirtual index, 3)) {x : MethodName} {b0 : ByteArray} {m0 : Nat} {r0 : Option FieldType} (j : Nat) {o ci N : Nat} {Cn : String} {T : u_T} {ty0 : Nat → FieldType} {fs : List Value} (Y : GCL ci Cn T N ty0) (he : ws[j]? = some (o, .inr (ci, fs))) {owner : String} (hlk : Cond.methodLink own index x ∈ TBL) (hsm : Cond.sameMethod x.cls owner x.name x.desc ∈ TBL) (hi0 : Cond.instanceMethod ⟨owner, x.name, x.desc⟩ ∈ TBL) (hse : Cond.selects Cn x y ∈ TBL) (hin : Cond.instanceMethod y ∈ TBL) (h0 : Cond.code ⟨owner, x.name, x.desc⟩ b0 m0 r0 ∈ TBL) (hd0 : owner ≠ "java/lang/invoke/MethodHandle" ∧ owner ≠ "java/lang/invoke/VarHandle" ∧ (parseMethodDescriptor x.desc).map (fun d => d.parameters.length) = some n) (hcd : Cond.code y cy nLy rety ∈ TBL) (hini : Cond.initialized y.cls ∈ TBL) (hd : y.cls ≠ "java/lang/invoke/MethodHandle" ∧ y.cls ≠ "java/lang/invoke/VarHandle" ∧ (parseMethodDescriptor y.desc).map (fun d => d.parameters.length) = some n) (isC isR : List Nat) (hn : va_nd isC = true) (hn2 : va_nd isR = true) (hC : isC.map (fun i => ws[i]?) = wc.map some) (hCf : isC.filterMap (fun i => ws[i]?) = wc) (hRr : isR.map (fun i => ws[i]?) = wr.map some) (hdis : ∀ i ∈ isR, i ∉ isC) (hroom : fr + 1 ≤ fr0 ∧ 8 + (nLy + 11) + lo ≤ lo0) (ha : a + mc = a2) (hb : b + ms = b2) (ha3 : a2 ≤ mc0) (hb3 : b2 ≤ ms0) (hcat : (rest.map fun v => v.category).sum ≤ 8) (hnp : As.length = n) (hz : pc + 3 = z) (hst : st = As.reverse ++ .ref o :: rest) (hav : av = .ref o :: As) (kk : ∀ (v : Option Value) (ws' : va_W), Post v ws' → G X a2 b2 (wr ++ ws') lv z (v.toList ++ rest)) : G X a b ws lv pc st := fun H locs ls hP hD hS hl => by
  subst hst; subst hav
  exact g_back C hC hRr hn2 hdis hP hD hS hl (va_runU (As := As) (rest := rest) ⟨C.1, C.2.1, C.2.2.2.1, C.2.2.2.2.2.1, C.2.2.2.2.2.2.1⟩ (hM H.size) (va_cwO n C.2.2.2.2.2.2.1 (gd_app (List.forall_mem_cons.mpr ⟨hlk, List.forall_mem_cons.mpr ⟨hsm, List.forall_mem_cons.mpr ⟨hi0, List.forall_mem_cons.mpr ⟨hse, List.forall_mem_cons.mpr ⟨hin, List.forall_mem_cons.mpr ⟨hini, fun _ h => absurd h List.not_mem_nil⟩⟩⟩⟩⟩⟩) (con_good hcd)) rfl rfl rfl h0 hd0 ⟨by rw [hR]; exact hroom.1, by rw [hR]; exact hroom.2⟩) ⟨(con_pre C hn hC hCf hP hD hS).1, va_recv C.2.2.2.2.2.2.2.1 hP Y.1 he, (con_pre C hn hC hCf hP hD hS).2⟩ rfl hnp (hl.1.trans C.2.2.2.2.1) rfl (lv_room hcat) hdg ⟨by rw [hR, ha]; exact ha3, by rw [hR, hb]; exact hb3⟩) ha hb hz kk
end G11
set_option maxHeartbeats 4000000 in
set_option maxRecDepth 100000 in
/-- feedNumber at 0 -/
theorem k_feedNumber0 (l : Launch) (D : va_G) (K : KS) (f : Nat → Int32) (h0 q1 q2 q3 q15 q25 q26 q27 q28 q29 : Nat) (n : Int32) : Con l D K yX12_feedNumber cX12_feedNumber 3 none 0 0 0 0 [.ref h0, .int n] [(h0, .inr (0, [.ref q1, .int 0, .ref q2, .int 0, .ref q3, .ref q15, .ref q25, .ref q26, .ref q27, .ref q28, .ref q29, .null, .int 0, .int 0, .int (-1), .int (-1), .int (-1)])), (q1, .inl (K 2, 3000, .inl (f)))] (fun v w => v = none ∧ ∃ g : Nat → Int32, w = [(h0, .inr (0, [.ref q1, .int 4, .ref q2, .int 0, .ref q3, .ref q15, .ref q25, .ref q26, .ref q27, .ref q28, .ref q29, .null, .int 0, .int 0, .int (-1), .int (-1), .int (-1)])), (q1, .inl (K 2, 3000, .inl (g)))]) := by
  refine Con.of (by decide +kernel) (Nat.le_of_ble_eq_true rfl) ?_
  intro X hXl hXD hXK C hR hQ hnm
  subst hXl; subst hXD; subst hXK
  refine g_lv (l2 := [(0, .ref h0), (1, .int n)]) [0, 1] rfl ?_
  refine g_bipush (v := 24) (z := 2) C dX12_feedNumber_0 (by decide) rfl ?_
  refine g_istore_n (l2 := [(2, .int 24), (0, .ref h0), (1, .int n)]) (z := 3) C dX12_feedNumber_2 rfl (by decide) rfl rfl ?_
  refine g_iload_n (z := 4) C dX12_feedNumber_3 0 rfl rfl rfl ?_
  refine g_if_lt_f (z := 7) 36 C dX12_feedNumber_4 (by decide) (by decide) rfl ?_
  refine g_aload_n (z := 8) C dX12_feedNumber_7 1 rfl rfl rfl ?_
  refine g_get (z := 11) C kX12 dX12_feedNumber_8 0 rfl 0 (by decide) w_7 rfl rfl rfl ?_
  refine g_aload_n (z := 12) C dX12_feedNumber_11 1 rfl rfl rfl ?_
  refine g_get (z := 15) C kX12 dX12_feedNumber_12 0 rfl 1 (by decide) w_44 rfl rfl rfl ?_
  refine g_iload_n (z := 16) C dX12_feedNumber_15 2 rfl rfl rfl ?_
  refine g_iload_n (z := 17) C dX12_feedNumber_16 0 rfl rfl rfl ?_
  refine g_ishr (v := (n >>> (24 &&& 31))) (z := 18) C dX12_feedNumber_17 (rfl) rfl ?_
  refine g_i2b (v := ((n >>> (24 &&& 31))).toInt8.toInt32) (z := 19) C dX12_feedNumber_18 rfl rfl ?_
  refine g_bast (w2 := [(h0, .inr (0, [.ref q1, .int 0, .ref q2, .int 0, .ref q3, .ref q15, .ref q25, .ref q26, .ref q27, .ref q28, .ref q29, .null, .int 0, .int 0, .int (-1), .int (-1), .int (-1)])), (q1, .inl (gK X 2, 3000, .inl (upd (f) (0 : Int32).toNatClampNeg (vp_nar .byte ((n >>> (24 &&& 31))).toInt8.toInt32))))]) (z := 20) C dX12_feedNumber_19 1 rfl (by unfold vp_in; decide) rfl rfl ?_
  refine g_aload_n (z := 21) C dX12_feedNumber_20 1 rfl rfl rfl ?_
  refine g_dup (z := 22) C dX12_feedNumber_21 rfl rfl ?_
  refine g_get (z := 25) C kX12 dX12_feedNumber_22 0 rfl 1 (by decide) w_44 rfl rfl rfl ?_
  refine g_iconst (v := 1) (z := 26) C dX12_feedNumber_25 (by decide) rfl ?_
  refine g_iadd (v := 1) (z := 27) C dX12_feedNumber_26 (by decide) rfl ?_
  refine g_put (w2 := [(h0, .inr (0, [.ref q1, .int 1, .ref q2, .int 0, .ref q3, .ref q15, .ref q25, .ref q26, .ref q27, .ref q28, .ref q29, .null, .int 0, .int 0, .int (-1), .int (-1), .int (-1)])), (q1, .inl (gK X 2, 3000, .inl (upd (f) (0 : Int32).toNatClampNeg (vp_nar .byte ((n >>> (24 &&& 31))).toInt8.toInt32))))]) (z := 30) C kX12 dX12_feedNumber_27 0 rfl 1 (by decide) w_44 rfl rfl rfl rfl (Nat.le_of_ble_eq_true rfl) rfl rfl ?_
  refine g_iinc (v := 16) (l2 := [(2, .int 16), (0, .ref h0), (1, .int n)]) (z := 33) C dX12_feedNumber_30 0 rfl (by decide) (by decide) rfl rfl ?_
  refine g_goto (z := 3) C dX12_feedNumber_33 (by decide) ?_
  refine g_iload_n (z := 4) C dX12_feedNumber_3 0 rfl rfl rfl ?_
  refine g_if_lt_f (z := 7) 36 C dX12_feedNumber_4 (by decide) (by decide) rfl ?_
  refine g_aload_n (z := 8) C dX12_feedNumber_7 1 rfl rfl rfl ?_
  refine g_get (z := 11) C kX12 dX12_feedNumber_8 0 rfl 0 (by decide) w_7 rfl rfl rfl ?_
  refine g_aload_n (z := 12) C dX12_feedNumber_11 1 rfl rfl rfl ?_
  refine g_get (z := 15) C kX12 dX12_feedNumber_12 0 rfl 1 (by decide) w_44 rfl rfl rfl ?_
  refine g_iload_n (z := 16) C dX12_feedNumber_15 2 rfl rfl rfl ?_
  refine g_iload_n (z := 17) C dX12_feedNumber_16 0 rfl rfl rfl ?_
  refine g_ishr (v := (n >>> (16 &&& 31))) (z := 18) C dX12_feedNumber_17 (rfl) rfl ?_
  refine g_i2b (v := ((n >>> (16 &&& 31))).toInt8.toInt32) (z := 19) C dX12_feedNumber_18 rfl rfl ?_
  refine g_bast (w2 := [(h0, .inr (0, [.ref q1, .int 1, .ref q2, .int 0, .ref q3, .ref q15, .ref q25, .ref q26, .ref q27, .ref q28, .ref q29, .null, .int 0, .int 0, .int (-1), .int (-1), .int (-1)])), (q1, .inl (gK X 2, 3000, .inl (upd (upd (f) (0 : Int32).toNatClampNeg (vp_nar .byte ((n >>> (24 &&& 31))).toInt8.toInt32)) (1 : Int32).toNatClampNeg (vp_nar .byte ((n >>> (16 &&& 31))).toInt8.toInt32))))]) (z := 20) C dX12_feedNumber_19 1 rfl (by unfold vp_in; decide) rfl rfl ?_
  refine g_aload_n (z := 21) C dX12_feedNumber_20 1 rfl rfl rfl ?_
  refine g_dup (z := 22) C dX12_feedNumber_21 rfl rfl ?_
  refine g_get (z := 25) C kX12 dX12_feedNumber_22 0 rfl 1 (by decide) w_44 rfl rfl rfl ?_
  refine g_iconst (v := 1) (z := 26) C dX12_feedNumber_25 (by decide) rfl ?_
  refine g_iadd (v := 2) (z := 27) C dX12_feedNumber_26 (by decide) rfl ?_
  refine g_put (w2 := [(h0, .inr (0, [.ref q1, .int 2, .ref q2, .int 0, .ref q3, .ref q15, .ref q25, .ref q26, .ref q27, .ref q28, .ref q29, .null, .int 0, .int 0, .int (-1), .int (-1), .int (-1)])), (q1, .inl (gK X 2, 3000, .inl (upd (upd (f) (0 : Int32).toNatClampNeg (vp_nar .byte ((n >>> (24 &&& 31))).toInt8.toInt32)) (1 : Int32).toNatClampNeg (vp_nar .byte ((n >>> (16 &&& 31))).toInt8.toInt32))))]) (z := 30) C kX12 dX12_feedNumber_27 0 rfl 1 (by decide) w_44 rfl rfl rfl rfl (Nat.le_of_ble_eq_true rfl) rfl rfl ?_
  refine g_iinc (v := 8) (l2 := [(2, .int 8), (0, .ref h0), (1, .int n)]) (z := 33) C dX12_feedNumber_30 0 rfl (by decide) (by decide) rfl rfl ?_
  refine g_goto (z := 3) C dX12_feedNumber_33 (by decide) ?_
  refine g_iload_n (z := 4) C dX12_feedNumber_3 0 rfl rfl rfl ?_
  refine g_if_lt_f (z := 7) 36 C dX12_feedNumber_4 (by decide) (by decide) rfl ?_
  refine g_aload_n (z := 8) C dX12_feedNumber_7 1 rfl rfl rfl ?_
  refine g_get (z := 11) C kX12 dX12_feedNumber_8 0 rfl 0 (by decide) w_7 rfl rfl rfl ?_
  refine g_aload_n (z := 12) C dX12_feedNumber_11 1 rfl rfl rfl ?_
  refine g_get (z := 15) C kX12 dX12_feedNumber_12 0 rfl 1 (by decide) w_44 rfl rfl rfl ?_
  refine g_iload_n (z := 16) C dX12_feedNumber_15 2 rfl rfl rfl ?_
  refine g_iload_n (z := 17) C dX12_feedNumber_16 0 rfl rfl rfl ?_
  refine g_ishr (v := (n >>> (8 &&& 31))) (z := 18) C dX12_feedNumber_17 (rfl) rfl ?_
  refine g_i2b (v := ((n >>> (8 &&& 31))).toInt8.toInt32) (z := 19) C dX12_feedNumber_18 rfl rfl ?_
  refine g_bast (w2 := [(h0, .inr (0, [.ref q1, .int 2, .ref q2, .int 0, .ref q3, .ref q15, .ref q25, .ref q26, .ref q27, .ref q28, .ref q29, .null, .int 0, .int 0, .int (-1), .int (-1), .int (-1)])), (q1, .inl (gK X 2, 3000, .inl (upd (upd (upd (f) (0 : Int32).toNatClampNeg (vp_nar .byte ((n >>> (24 &&& 31))).toInt8.toInt32)) (1 : Int32).toNatClampNeg (vp_nar .byte ((n >>> (16 &&& 31))).toInt8.toInt32)) (2 : Int32).toNatClampNeg (vp_nar .byte ((n >>> (8 &&& 31))).toInt8.toInt32))))]) (z := 20) C dX12_feedNumber_19 1 rfl (by unfold vp_in; decide) rfl rfl ?_
  refine g_aload_n (z := 21) C dX12_feedNumber_20 1 rfl rfl rfl ?_
  refine g_dup (z := 22) C dX12_feedNumber_21 rfl rfl ?_
  refine g_get (z := 25) C kX12 dX12_feedNumber_22 0 rfl 1 (by decide) w_44 rfl rfl rfl ?_
  refine g_iconst (v := 1) (z := 26) C dX12_feedNumber_25 (by decide) rfl ?_
  refine g_iadd (v := 3) (z := 27) C dX12_feedNumber_26 (by decide) rfl ?_
  refine g_put (w2 := [(h0, .inr (0, [.ref q1, .int 3, .ref q2, .int 0, .ref q3, .ref q15, .ref q25, .ref q26, .ref q27, .ref q28, .ref q29, .null, .int 0, .int 0, .int (-1), .int (-1), .int (-1)])), (q1, .inl (gK X 2, 3000, .inl (upd (upd (upd (f) (0 : Int32).toNatClampNeg (vp_nar .byte ((n >>> (24 &&& 31))).toInt8.toInt32)) (1 : Int32).toNatClampNeg (vp_nar .byte ((n >>> (16 &&& 31))).toInt8.toInt32)) (2 : Int32).toNatClampNeg (vp_nar .byte ((n >>> (8 &&& 31))).toInt8.toInt32))))]) (z := 30) C kX12 dX12_feedNumber_27 0 rfl 1 (by decide) w_44 rfl rfl rfl rfl (Nat.le_of_ble_eq_true rfl) rfl rfl ?_
  refine g_iinc (v := 0) (l2 := [(2, .int 0), (0, .ref h0), (1, .int n)]) (z := 33) C dX12_feedNumber_30 0 rfl (by decide) (by decide) rfl rfl ?_
  refine g_goto (z := 3) C dX12_feedNumber_33 (by decide) ?_
  refine g_iload_n (z := 4) C dX12_feedNumber_3 0 rfl rfl rfl ?_
  refine g_if_lt_f (z := 7) 36 C dX12_feedNumber_4 (by decide) (by decide) rfl ?_
  refine g_aload_n (z := 8) C dX12_feedNumber_7 1 rfl rfl rfl ?_
  refine g_get (z := 11) C kX12 dX12_feedNumber_8 0 rfl 0 (by decide) w_7 rfl rfl rfl ?_
  refine g_aload_n (z := 12) C dX12_feedNumber_11 1 rfl rfl rfl ?_
  refine g_get (z := 15) C kX12 dX12_feedNumber_12 0 rfl 1 (by decide) w_44 rfl rfl rfl ?_
  refine g_iload_n (z := 16) C dX12_feedNumber_15 2 rfl rfl rfl ?_
  refine g_iload_n (z := 17) C dX12_feedNumber_16 0 rfl rfl rfl ?_
  refine g_ishr (v := (n >>> (0 &&& 31))) (z := 18) C dX12_feedNumber_17 (rfl) rfl ?_
  refine g_i2b (v := ((n >>> (0 &&& 31))).toInt8.toInt32) (z := 19) C dX12_feedNumber_18 rfl rfl ?_
  refine g_bast (w2 := [(h0, .inr (0, [.ref q1, .int 3, .ref q2, .int 0, .ref q3, .ref q15, .ref q25, .ref q26, .ref q27, .ref q28, .ref q29, .null, .int 0, .int 0, .int (-1), .int (-1), .int (-1)])), (q1, .inl (gK X 2, 3000, .inl (upd (upd (upd (upd (f) (0 : Int32).toNatClampNeg (vp_nar .byte ((n >>> (24 &&& 31))).toInt8.toInt32)) (1 : Int32).toNatClampNeg (vp_nar .byte ((n >>> (16 &&& 31))).toInt8.toInt32)) (2 : Int32).toNatClampNeg (vp_nar .byte ((n >>> (8 &&& 31))).toInt8.toInt32)) (3 : Int32).toNatClampNeg (vp_nar .byte ((n >>> (0 &&& 31))).toInt8.toInt32))))]) (z := 20) C dX12_feedNumber_19 1 rfl (by unfold vp_in; decide) rfl rfl ?_
  refine g_aload_n (z := 21) C dX12_feedNumber_20 1 rfl rfl rfl ?_
  refine g_dup (z := 22) C dX12_feedNumber_21 rfl rfl ?_
  refine g_get (z := 25) C kX12 dX12_feedNumber_22 0 rfl 1 (by decide) w_44 rfl rfl rfl ?_
  refine g_iconst (v := 1) (z := 26) C dX12_feedNumber_25 (by decide) rfl ?_
  refine g_iadd (v := 4) (z := 27) C dX12_feedNumber_26 (by decide) rfl ?_
  refine g_put (w2 := [(h0, .inr (0, [.ref q1, .int 4, .ref q2, .int 0, .ref q3, .ref q15, .ref q25, .ref q26, .ref q27, .ref q28, .ref q29, .null, .int 0, .int 0, .int (-1), .int (-1), .int (-1)])), (q1, .inl (gK X 2, 3000, .inl (upd (upd (upd (upd (f) (0 : Int32).toNatClampNeg (vp_nar .byte ((n >>> (24 &&& 31))).toInt8.toInt32)) (1 : Int32).toNatClampNeg (vp_nar .byte ((n >>> (16 &&& 31))).toInt8.toInt32)) (2 : Int32).toNatClampNeg (vp_nar .byte ((n >>> (8 &&& 31))).toInt8.toInt32)) (3 : Int32).toNatClampNeg (vp_nar .byte ((n >>> (0 &&& 31))).toInt8.toInt32))))]) (z := 30) C kX12 dX12_feedNumber_27 0 rfl 1 (by decide) w_44 rfl rfl rfl rfl (Nat.le_of_ble_eq_true rfl) rfl rfl ?_
  refine g_iinc (v := (-8)) (l2 := [(2, .int (-8)), (0, .ref h0), (1, .int n)]) (z := 33) C dX12_feedNumber_30 0 rfl (by decide) (by decide) rfl rfl ?_
  refine g_goto (z := 3) C dX12_feedNumber_33 (by decide) ?_
  refine g_iload_n (z := 4) C dX12_feedNumber_3 0 rfl rfl rfl ?_
  refine g_if_lt_t (z := 36) C dX12_feedNumber_4 (by decide) (by decide) ?_
  exact g_vret C hQ dX12_feedNumber_36 (Nat.le_of_ble_eq_true rfl) (Nat.le_of_ble_eq_true rfl) ⟨rfl, _, rfl⟩
set_option maxHeartbeats 4000000 in
set_option maxRecDepth 100000 in
/-- feedNumber at 4 -/
theorem k_feedNumber4 (l : Launch) (D : va_G) (K : KS) (f : Nat → Int32) (h0 q1 q2 q3 q15 q25 q26 q27 q28 q29 : Nat) (n : Int32) : Con l D K yX12_feedNumber cX12_feedNumber 3 none 0 0 0 0 [.ref h0, .int n] [(h0, .inr (0, [.ref q1, .int 4, .ref q2, .int 0, .ref q3, .ref q15, .ref q25, .ref q26, .ref q27, .ref q28, .ref q29, .null, .int 0, .int 0, .int (-1), .int (-1), .int (-1)])), (q1, .inl (K 2, 3000, .inl (f)))] (fun v w => v = none ∧ ∃ g : Nat → Int32, w = [(h0, .inr (0, [.ref q1, .int 8, .ref q2, .int 0, .ref q3, .ref q15, .ref q25, .ref q26, .ref q27, .ref q28, .ref q29, .null, .int 0, .int 0, .int (-1), .int (-1), .int (-1)])), (q1, .inl (K 2, 3000, .inl (g)))]) := by
  refine Con.of (by decide +kernel) (Nat.le_of_ble_eq_true rfl) ?_
  intro X hXl hXD hXK C hR hQ hnm
  subst hXl; subst hXD; subst hXK
  refine g_lv (l2 := [(0, .ref h0), (1, .int n)]) [0, 1] rfl ?_
  refine g_bipush (v := 24) (z := 2) C dX12_feedNumber_0 (by decide) rfl ?_
  refine g_istore_n (l2 := [(2, .int 24), (0, .ref h0), (1, .int n)]) (z := 3) C dX12_feedNumber_2 rfl (by decide) rfl rfl ?_
  refine g_iload_n (z := 4) C dX12_feedNumber_3 0 rfl rfl rfl ?_
  refine g_if_lt_f (z := 7) 36 C dX12_feedNumber_4 (by decide) (by decide) rfl ?_
  refine g_aload_n (z := 8) C dX12_feedNumber_7 1 rfl rfl rfl ?_
  refine g_get (z := 11) C kX12 dX12_feedNumber_8 0 rfl 0 (by decide) w_7 rfl rfl rfl ?_
  refine g_aload_n (z := 12) C dX12_feedNumber_11 1 rfl rfl rfl ?_
  refine g_get (z := 15) C kX12 dX12_feedNumber_12 0 rfl 1 (by decide) w_44 rfl rfl rfl ?_
  refine g_iload_n (z := 16) C dX12_feedNumber_15 2 rfl rfl rfl ?_
  refine g_iload_n (z := 17) C dX12_feedNumber_16 0 rfl rfl rfl ?_
  refine g_ishr (v := (n >>> (24 &&& 31))) (z := 18) C dX12_feedNumber_17 (rfl) rfl ?_
  refine g_i2b (v := ((n >>> (24 &&& 31))).toInt8.toInt32) (z := 19) C dX12_feedNumber_18 rfl rfl ?_
  refine g_bast (w2 := [(h0, .inr (0, [.ref q1, .int 4, .ref q2, .int 0, .ref q3, .ref q15, .ref q25, .ref q26, .ref q27, .ref q28, .ref q29, .null, .int 0, .int 0, .int (-1), .int (-1), .int (-1)])), (q1, .inl (gK X 2, 3000, .inl (upd (f) (4 : Int32).toNatClampNeg (vp_nar .byte ((n >>> (24 &&& 31))).toInt8.toInt32))))]) (z := 20) C dX12_feedNumber_19 1 rfl (by unfold vp_in; decide) rfl rfl ?_
  refine g_aload_n (z := 21) C dX12_feedNumber_20 1 rfl rfl rfl ?_
  refine g_dup (z := 22) C dX12_feedNumber_21 rfl rfl ?_
  refine g_get (z := 25) C kX12 dX12_feedNumber_22 0 rfl 1 (by decide) w_44 rfl rfl rfl ?_
  refine g_iconst (v := 1) (z := 26) C dX12_feedNumber_25 (by decide) rfl ?_
  refine g_iadd (v := 5) (z := 27) C dX12_feedNumber_26 (by decide) rfl ?_
  refine g_put (w2 := [(h0, .inr (0, [.ref q1, .int 5, .ref q2, .int 0, .ref q3, .ref q15, .ref q25, .ref q26, .ref q27, .ref q28, .ref q29, .null, .int 0, .int 0, .int (-1), .int (-1), .int (-1)])), (q1, .inl (gK X 2, 3000, .inl (upd (f) (4 : Int32).toNatClampNeg (vp_nar .byte ((n >>> (24 &&& 31))).toInt8.toInt32))))]) (z := 30) C kX12 dX12_feedNumber_27 0 rfl 1 (by decide) w_44 rfl rfl rfl rfl (Nat.le_of_ble_eq_true rfl) rfl rfl ?_
  refine g_iinc (v := 16) (l2 := [(2, .int 16), (0, .ref h0), (1, .int n)]) (z := 33) C dX12_feedNumber_30 0 rfl (by decide) (by decide) rfl rfl ?_
  refine g_goto (z := 3) C dX12_feedNumber_33 (by decide) ?_
  refine g_iload_n (z := 4) C dX12_feedNumber_3 0 rfl rfl rfl ?_
  refine g_if_lt_f (z := 7) 36 C dX12_feedNumber_4 (by decide) (by decide) rfl ?_
  refine g_aload_n (z := 8) C dX12_feedNumber_7 1 rfl rfl rfl ?_
  refine g_get (z := 11) C kX12 dX12_feedNumber_8 0 rfl 0 (by decide) w_7 rfl rfl rfl ?_
  refine g_aload_n (z := 12) C dX12_feedNumber_11 1 rfl rfl rfl ?_
  refine g_get (z := 15) C kX12 dX12_feedNumber_12 0 rfl 1 (by decide) w_44 rfl rfl rfl ?_
  refine g_iload_n (z := 16) C dX12_feedNumber_15 2 rfl rfl rfl ?_
  refine g_iload_n (z := 17) C dX12_feedNumber_16 0 rfl rfl rfl ?_
  refine g_ishr (v := (n >>> (16 &&& 31))) (z := 18) C dX12_feedNumber_17 (rfl) rfl ?_
  refine g_i2b (v := ((n >>> (16 &&& 31))).toInt8.toInt32) (z := 19) C dX12_feedNumber_18 rfl rfl ?_
  refine g_bast (w2 := [(h0, .inr (0, [.ref q1, .int 5, .ref q2, .int 0, .ref q3, .ref q15, .ref q25, .ref q26, .ref q27, .ref q28, .ref q29, .null, .int 0, .int 0, .int (-1), .int (-1), .int (-1)])), (q1, .inl (gK X 2, 3000, .inl (upd (upd (f) (4 : Int32).toNatClampNeg (vp_nar .byte ((n >>> (24 &&& 31))).toInt8.toInt32)) (5 : Int32).toNatClampNeg (vp_nar .byte ((n >>> (16 &&& 31))).toInt8.toInt32))))]) (z := 20) C dX12_feedNumber_19 1 rfl (by unfold vp_in; decide) rfl rfl ?_
  refine g_aload_n (z := 21) C dX12_feedNumber_20 1 rfl rfl rfl ?_
  refine g_dup (z := 22) C dX12_feedNumber_21 rfl rfl ?_
  refine g_get (z := 25) C kX12 dX12_feedNumber_22 0 rfl 1 (by decide) w_44 rfl rfl rfl ?_
  refine g_iconst (v := 1) (z := 26) C dX12_feedNumber_25 (by decide) rfl ?_
  refine g_iadd (v := 6) (z := 27) C dX12_feedNumber_26 (by decide) rfl ?_
  refine g_put (w2 := [(h0, .inr (0, [.ref q1, .int 6, .ref q2, .int 0, .ref q3, .ref q15, .ref q25, .ref q26, .ref q27, .ref q28, .ref q29, .null, .int 0, .int 0, .int (-1), .int (-1), .int (-1)])), (q1, .inl (gK X 2, 3000, .inl (upd (upd (f) (4 : Int32).toNatClampNeg (vp_nar .byte ((n >>> (24 &&& 31))).toInt8.toInt32)) (5 : Int32).toNatClampNeg (vp_nar .byte ((n >>> (16 &&& 31))).toInt8.toInt32))))]) (z := 30) C kX12 dX12_feedNumber_27 0 rfl 1 (by decide) w_44 rfl rfl rfl rfl (Nat.le_of_ble_eq_true rfl) rfl rfl ?_
  refine g_iinc (v := 8) (l2 := [(2, .int 8), (0, .ref h0), (1, .int n)]) (z := 33) C dX12_feedNumber_30 0 rfl (by decide) (by decide) rfl rfl ?_
  refine g_goto (z := 3) C dX12_feedNumber_33 (by decide) ?_
  refine g_iload_n (z := 4) C dX12_feedNumber_3 0 rfl rfl rfl ?_
  refine g_if_lt_f (z := 7) 36 C dX12_feedNumber_4 (by decide) (by decide) rfl ?_
  refine g_aload_n (z := 8) C dX12_feedNumber_7 1 rfl rfl rfl ?_
  refine g_get (z := 11) C kX12 dX12_feedNumber_8 0 rfl 0 (by decide) w_7 rfl rfl rfl ?_
  refine g_aload_n (z := 12) C dX12_feedNumber_11 1 rfl rfl rfl ?_
  refine g_get (z := 15) C kX12 dX12_feedNumber_12 0 rfl 1 (by decide) w_44 rfl rfl rfl ?_
  refine g_iload_n (z := 16) C dX12_feedNumber_15 2 rfl rfl rfl ?_
  refine g_iload_n (z := 17) C dX12_feedNumber_16 0 rfl rfl rfl ?_
  refine g_ishr (v := (n >>> (8 &&& 31))) (z := 18) C dX12_feedNumber_17 (rfl) rfl ?_
  refine g_i2b (v := ((n >>> (8 &&& 31))).toInt8.toInt32) (z := 19) C dX12_feedNumber_18 rfl rfl ?_
  refine g_bast (w2 := [(h0, .inr (0, [.ref q1, .int 6, .ref q2, .int 0, .ref q3, .ref q15, .ref q25, .ref q26, .ref q27, .ref q28, .ref q29, .null, .int 0, .int 0, .int (-1), .int (-1), .int (-1)])), (q1, .inl (gK X 2, 3000, .inl (upd (upd (upd (f) (4 : Int32).toNatClampNeg (vp_nar .byte ((n >>> (24 &&& 31))).toInt8.toInt32)) (5 : Int32).toNatClampNeg (vp_nar .byte ((n >>> (16 &&& 31))).toInt8.toInt32)) (6 : Int32).toNatClampNeg (vp_nar .byte ((n >>> (8 &&& 31))).toInt8.toInt32))))]) (z := 20) C dX12_feedNumber_19 1 rfl (by unfold vp_in; decide) rfl rfl ?_
  refine g_aload_n (z := 21) C dX12_feedNumber_20 1 rfl rfl rfl ?_
  refine g_dup (z := 22) C dX12_feedNumber_21 rfl rfl ?_
  refine g_get (z := 25) C kX12 dX12_feedNumber_22 0 rfl 1 (by decide) w_44 rfl rfl rfl ?_
  refine g_iconst (v := 1) (z := 26) C dX12_feedNumber_25 (by decide) rfl ?_
  refine g_iadd (v := 7) (z := 27) C dX12_feedNumber_26 (by decide) rfl ?_
  refine g_put (w2 := [(h0, .inr (0, [.ref q1, .int 7, .ref q2, .int 0, .ref q3, .ref q15, .ref q25, .ref q26, .ref q27, .ref q28, .ref q29, .null, .int 0, .int 0, .int (-1), .int (-1), .int (-1)])), (q1, .inl (gK X 2, 3000, .inl (upd (upd (upd (f) (4 : Int32).toNatClampNeg (vp_nar .byte ((n >>> (24 &&& 31))).toInt8.toInt32)) (5 : Int32).toNatClampNeg (vp_nar .byte ((n >>> (16 &&& 31))).toInt8.toInt32)) (6 : Int32).toNatClampNeg (vp_nar .byte ((n >>> (8 &&& 31))).toInt8.toInt32))))]) (z := 30) C kX12 dX12_feedNumber_27 0 rfl 1 (by decide) w_44 rfl rfl rfl rfl (Nat.le_of_ble_eq_true rfl) rfl rfl ?_
  refine g_iinc (v := 0) (l2 := [(2, .int 0), (0, .ref h0), (1, .int n)]) (z := 33) C dX12_feedNumber_30 0 rfl (by decide) (by decide) rfl rfl ?_
  refine g_goto (z := 3) C dX12_feedNumber_33 (by decide) ?_
  refine g_iload_n (z := 4) C dX12_feedNumber_3 0 rfl rfl rfl ?_
  refine g_if_lt_f (z := 7) 36 C dX12_feedNumber_4 (by decide) (by decide) rfl ?_
  refine g_aload_n (z := 8) C dX12_feedNumber_7 1 rfl rfl rfl ?_
  refine g_get (z := 11) C kX12 dX12_feedNumber_8 0 rfl 0 (by decide) w_7 rfl rfl rfl ?_
  refine g_aload_n (z := 12) C dX12_feedNumber_11 1 rfl rfl rfl ?_
  refine g_get (z := 15) C kX12 dX12_feedNumber_12 0 rfl 1 (by decide) w_44 rfl rfl rfl ?_
  refine g_iload_n (z := 16) C dX12_feedNumber_15 2 rfl rfl rfl ?_
  refine g_iload_n (z := 17) C dX12_feedNumber_16 0 rfl rfl rfl ?_
  refine g_ishr (v := (n >>> (0 &&& 31))) (z := 18) C dX12_feedNumber_17 (rfl) rfl ?_
  refine g_i2b (v := ((n >>> (0 &&& 31))).toInt8.toInt32) (z := 19) C dX12_feedNumber_18 rfl rfl ?_
  refine g_bast (w2 := [(h0, .inr (0, [.ref q1, .int 7, .ref q2, .int 0, .ref q3, .ref q15, .ref q25, .ref q26, .ref q27, .ref q28, .ref q29, .null, .int 0, .int 0, .int (-1), .int (-1), .int (-1)])), (q1, .inl (gK X 2, 3000, .inl (upd (upd (upd (upd (f) (4 : Int32).toNatClampNeg (vp_nar .byte ((n >>> (24 &&& 31))).toInt8.toInt32)) (5 : Int32).toNatClampNeg (vp_nar .byte ((n >>> (16 &&& 31))).toInt8.toInt32)) (6 : Int32).toNatClampNeg (vp_nar .byte ((n >>> (8 &&& 31))).toInt8.toInt32)) (7 : Int32).toNatClampNeg (vp_nar .byte ((n >>> (0 &&& 31))).toInt8.toInt32))))]) (z := 20) C dX12_feedNumber_19 1 rfl (by unfold vp_in; decide) rfl rfl ?_
  refine g_aload_n (z := 21) C dX12_feedNumber_20 1 rfl rfl rfl ?_
  refine g_dup (z := 22) C dX12_feedNumber_21 rfl rfl ?_
  refine g_get (z := 25) C kX12 dX12_feedNumber_22 0 rfl 1 (by decide) w_44 rfl rfl rfl ?_
  refine g_iconst (v := 1) (z := 26) C dX12_feedNumber_25 (by decide) rfl ?_
  refine g_iadd (v := 8) (z := 27) C dX12_feedNumber_26 (by decide) rfl ?_
  refine g_put (w2 := [(h0, .inr (0, [.ref q1, .int 8, .ref q2, .int 0, .ref q3, .ref q15, .ref q25, .ref q26, .ref q27, .ref q28, .ref q29, .null, .int 0, .int 0, .int (-1), .int (-1), .int (-1)])), (q1, .inl (gK X 2, 3000, .inl (upd (upd (upd (upd (f) (4 : Int32).toNatClampNeg (vp_nar .byte ((n >>> (24 &&& 31))).toInt8.toInt32)) (5 : Int32).toNatClampNeg (vp_nar .byte ((n >>> (16 &&& 31))).toInt8.toInt32)) (6 : Int32).toNatClampNeg (vp_nar .byte ((n >>> (8 &&& 31))).toInt8.toInt32)) (7 : Int32).toNatClampNeg (vp_nar .byte ((n >>> (0 &&& 31))).toInt8.toInt32))))]) (z := 30) C kX12 dX12_feedNumber_27 0 rfl 1 (by decide) w_44 rfl rfl rfl rfl (Nat.le_of_ble_eq_true rfl) rfl rfl ?_
  refine g_iinc (v := (-8)) (l2 := [(2, .int (-8)), (0, .ref h0), (1, .int n)]) (z := 33) C dX12_feedNumber_30 0 rfl (by decide) (by decide) rfl rfl ?_
  refine g_goto (z := 3) C dX12_feedNumber_33 (by decide) ?_
  refine g_iload_n (z := 4) C dX12_feedNumber_3 0 rfl rfl rfl ?_
  refine g_if_lt_t (z := 36) C dX12_feedNumber_4 (by decide) (by decide) ?_
  exact g_vret C hQ dX12_feedNumber_36 (Nat.le_of_ble_eq_true rfl) (Nat.le_of_ble_eq_true rfl) ⟨rfl, _, rfl⟩
set_option maxHeartbeats 4000000 in
set_option maxRecDepth 100000 in
/-- feedNumber at 8 -/
theorem k_feedNumber8 (l : Launch) (D : va_G) (K : KS) (f : Nat → Int32) (h0 q1 q2 q3 q15 q25 q26 q27 q28 q29 : Nat) (n : Int32) : Con l D K yX12_feedNumber cX12_feedNumber 3 none 0 0 0 0 [.ref h0, .int n] [(h0, .inr (0, [.ref q1, .int 8, .ref q2, .int 0, .ref q3, .ref q15, .ref q25, .ref q26, .ref q27, .ref q28, .ref q29, .null, .int 0, .int 0, .int (-1), .int (-1), .int (-1)])), (q1, .inl (K 2, 3000, .inl (f)))] (fun v w => v = none ∧ ∃ g : Nat → Int32, w = [(h0, .inr (0, [.ref q1, .int 12, .ref q2, .int 0, .ref q3, .ref q15, .ref q25, .ref q26, .ref q27, .ref q28, .ref q29, .null, .int 0, .int 0, .int (-1), .int (-1), .int (-1)])), (q1, .inl (K 2, 3000, .inl (g)))]) := by
  refine Con.of (by decide +kernel) (Nat.le_of_ble_eq_true rfl) ?_
  intro X hXl hXD hXK C hR hQ hnm
  subst hXl; subst hXD; subst hXK
  refine g_lv (l2 := [(0, .ref h0), (1, .int n)]) [0, 1] rfl ?_
  refine g_bipush (v := 24) (z := 2) C dX12_feedNumber_0 (by decide) rfl ?_
  refine g_istore_n (l2 := [(2, .int 24), (0, .ref h0), (1, .int n)]) (z := 3) C dX12_feedNumber_2 rfl (by decide) rfl rfl ?_
  refine g_iload_n (z := 4) C dX12_feedNumber_3 0 rfl rfl rfl ?_
  refine g_if_lt_f (z := 7) 36 C dX12_feedNumber_4 (by decide) (by decide) rfl ?_
  refine g_aload_n (z := 8) C dX12_feedNumber_7 1 rfl rfl rfl ?_
  refine g_get (z := 11) C kX12 dX12_feedNumber_8 0 rfl 0 (by decide) w_7 rfl rfl rfl ?_
  refine g_aload_n (z := 12) C dX12_feedNumber_11 1 rfl rfl rfl ?_
  refine g_get (z := 15) C kX12 dX12_feedNumber_12 0 rfl 1 (by decide) w_44 rfl rfl rfl ?_
  refine g_iload_n (z := 16) C dX12_feedNumber_15 2 rfl rfl rfl ?_
  refine g_iload_n (z := 17) C dX12_feedNumber_16 0 rfl rfl rfl ?_
  refine g_ishr (v := (n >>> (24 &&& 31))) (z := 18) C dX12_feedNumber_17 (rfl) rfl ?_
  refine g_i2b (v := ((n >>> (24 &&& 31))).toInt8.toInt32) (z := 19) C dX12_feedNumber_18 rfl rfl ?_
  refine g_bast (w2 := [(h0, .inr (0, [.ref q1, .int 8, .ref q2, .int 0, .ref q3, .ref q15, .ref q25, .ref q26, .ref q27, .ref q28, .ref q29, .null, .int 0, .int 0, .int (-1), .int (-1), .int (-1)])), (q1, .inl (gK X 2, 3000, .inl (upd (f) (8 : Int32).toNatClampNeg (vp_nar .byte ((n >>> (24 &&& 31))).toInt8.toInt32))))]) (z := 20) C dX12_feedNumber_19 1 rfl (by unfold vp_in; decide) rfl rfl ?_
  refine g_aload_n (z := 21) C dX12_feedNumber_20 1 rfl rfl rfl ?_
  refine g_dup (z := 22) C dX12_feedNumber_21 rfl rfl ?_
  refine g_get (z := 25) C kX12 dX12_feedNumber_22 0 rfl 1 (by decide) w_44 rfl rfl rfl ?_
  refine g_iconst (v := 1) (z := 26) C dX12_feedNumber_25 (by decide) rfl ?_
  refine g_iadd (v := 9) (z := 27) C dX12_feedNumber_26 (by decide) rfl ?_
  refine g_put (w2 := [(h0, .inr (0, [.ref q1, .int 9, .ref q2, .int 0, .ref q3, .ref q15, .ref q25, .ref q26, .ref q27, .ref q28, .ref q29, .null, .int 0, .int 0, .int (-1), .int (-1), .int (-1)])), (q1, .inl (gK X 2, 3000, .inl (upd (f) (8 : Int32).toNatClampNeg (vp_nar .byte ((n >>> (24 &&& 31))).toInt8.toInt32))))]) (z := 30) C kX12 dX12_feedNumber_27 0 rfl 1 (by decide) w_44 rfl rfl rfl rfl (Nat.le_of_ble_eq_true rfl) rfl rfl ?_
  refine g_iinc (v := 16) (l2 := [(2, .int 16), (0, .ref h0), (1, .int n)]) (z := 33) C dX12_feedNumber_30 0 rfl (by decide) (by decide) rfl rfl ?_
  refine g_goto (z := 3) C dX12_feedNumber_33 (by decide) ?_
  refine g_iload_n (z := 4) C dX12_feedNumber_3 0 rfl rfl rfl ?_
  refine g_if_lt_f (z := 7) 36 C dX12_feedNumber_4 (by decide) (by decide) rfl ?_
  refine g_aload_n (z := 8) C dX12_feedNumber_7 1 rfl rfl rfl ?_
  refine g_get (z := 11) C kX12 dX12_feedNumber_8 0 rfl 0 (by decide) w_7 rfl rfl rfl ?_
  refine g_aload_n (z := 12) C dX12_feedNumber_11 1 rfl rfl rfl ?_
  refine g_get (z := 15) C kX12 dX12_feedNumber_12 0 rfl 1 (by decide) w_44 rfl rfl rfl ?_
  refine g_iload_n (z := 16) C dX12_feedNumber_15 2 rfl rfl rfl ?_
  refine g_iload_n (z := 17) C dX12_feedNumber_16 0 rfl rfl rfl ?_
  refine g_ishr (v := (n >>> (16 &&& 31))) (z := 18) C dX12_feedNumber_17 (rfl) rfl ?_
  refine g_i2b (v := ((n >>> (16 &&& 31))).toInt8.toInt32) (z := 19) C dX12_feedNumber_18 rfl rfl ?_
  refine g_bast (w2 := [(h0, .inr (0, [.ref q1, .int 9, .ref q2, .int 0, .ref q3, .ref q15, .ref q25, .ref q26, .ref q27, .ref q28, .ref q29, .null, .int 0, .int 0, .int (-1), .int (-1), .int (-1)])), (q1, .inl (gK X 2, 3000, .inl (upd (upd (f) (8 : Int32).toNatClampNeg (vp_nar .byte ((n >>> (24 &&& 31))).toInt8.toInt32)) (9 : Int32).toNatClampNeg (vp_nar .byte ((n >>> (16 &&& 31))).toInt8.toInt32))))]) (z := 20) C dX12_feedNumber_19 1 rfl (by unfold vp_in; decide) rfl rfl ?_
  refine g_aload_n (z := 21) C dX12_feedNumber_20 1 rfl rfl rfl ?_
  refine g_dup (z := 22) C dX12_feedNumber_21 rfl rfl ?_
  refine g_get (z := 25) C kX12 dX12_feedNumber_22 0 rfl 1 (by decide) w_44 rfl rfl rfl ?_
  refine g_iconst (v := 1) (z := 26) C dX12_feedNumber_25 (by decide) rfl ?_
  refine g_iadd (v := 10) (z := 27) C dX12_feedNumber_26 (by decide) rfl ?_
  refine g_put (w2 := [(h0, .inr (0, [.ref q1, .int 10, .ref q2, .int 0, .ref q3, .ref q15, .ref q25, .ref q26, .ref q27, .ref q28, .ref q29, .null, .int 0, .int 0, .int (-1), .int (-1), .int (-1)])), (q1, .inl (gK X 2, 3000, .inl (upd (upd (f) (8 : Int32).toNatClampNeg (vp_nar .byte ((n >>> (24 &&& 31))).toInt8.toInt32)) (9 : Int32).toNatClampNeg (vp_nar .byte ((n >>> (16 &&& 31))).toInt8.toInt32))))]) (z := 30) C kX12 dX12_feedNumber_27 0 rfl 1 (by decide) w_44 rfl rfl rfl rfl (Nat.le_of_ble_eq_true rfl) rfl rfl ?_
  refine g_iinc (v := 8) (l2 := [(2, .int 8), (0, .ref h0), (1, .int n)]) (z := 33) C dX12_feedNumber_30 0 rfl (by decide) (by decide) rfl rfl ?_
  refine g_goto (z := 3) C dX12_feedNumber_33 (by decide) ?_
  refine g_iload_n (z := 4) C dX12_feedNumber_3 0 rfl rfl rfl ?_
  refine g_if_lt_f (z := 7) 36 C dX12_feedNumber_4 (by decide) (by decide) rfl ?_
  refine g_aload_n (z := 8) C dX12_feedNumber_7 1 rfl rfl rfl ?_
  refine g_get (z := 11) C kX12 dX12_feedNumber_8 0 rfl 0 (by decide) w_7 rfl rfl rfl ?_
  refine g_aload_n (z := 12) C dX12_feedNumber_11 1 rfl rfl rfl ?_
  refine g_get (z := 15) C kX12 dX12_feedNumber_12 0 rfl 1 (by decide) w_44 rfl rfl rfl ?_
  refine g_iload_n (z := 16) C dX12_feedNumber_15 2 rfl rfl rfl ?_
  refine g_iload_n (z := 17) C dX12_feedNumber_16 0 rfl rfl rfl ?_
  refine g_ishr (v := (n >>> (8 &&& 31))) (z := 18) C dX12_feedNumber_17 (rfl) rfl ?_
  refine g_i2b (v := ((n >>> (8 &&& 31))).toInt8.toInt32) (z := 19) C dX12_feedNumber_18 rfl rfl ?_
  refine g_bast (w2 := [(h0, .inr (0, [.ref q1, .int 10, .ref q2, .int 0, .ref q3, .ref q15, .ref q25, .ref q26, .ref q27, .ref q28, .ref q29, .null, .int 0, .int 0, .int (-1), .int (-1), .int (-1)])), (q1, .inl (gK X 2, 3000, .inl (upd (upd (upd (f) (8 : Int32).toNatClampNeg (vp_nar .byte ((n >>> (24 &&& 31))).toInt8.toInt32)) (9 : Int32).toNatClampNeg (vp_nar .byte ((n >>> (16 &&& 31))).toInt8.toInt32)) (10 : Int32).toNatClampNeg (vp_nar .byte ((n >>> (8 &&& 31))).toInt8.toInt32))))]) (z := 20) C dX12_feedNumber_19 1 rfl (by unfold vp_in; decide) rfl rfl ?_
  refine g_aload_n (z := 21) C dX12_feedNumber_20 1 rfl rfl rfl ?_
  refine g_dup (z := 22) C dX12_feedNumber_21 rfl rfl ?_
  refine g_get (z := 25) C kX12 dX12_feedNumber_22 0 rfl 1 (by decide) w_44 rfl rfl rfl ?_
  refine g_iconst (v := 1) (z := 26) C dX12_feedNumber_25 (by decide) rfl ?_
  refine g_iadd (v := 11) (z := 27) C dX12_feedNumber_26 (by decide) rfl ?_
  refine g_put (w2 := [(h0, .inr (0, [.ref q1, .int 11, .ref q2, .int 0, .ref q3, .ref q15, .ref q25, .ref q26, .ref q27, .ref q28, .ref q29, .null, .int 0, .int 0, .int (-1), .int (-1), .int (-1)])), (q1, .inl (gK X 2, 3000, .inl (upd (upd (upd (f) (8 : Int32).toNatClampNeg (vp_nar .byte ((n >>> (24 &&& 31))).toInt8.toInt32)) (9 : Int32).toNatClampNeg (vp_nar .byte ((n >>> (16 &&& 31))).toInt8.toInt32)) (10 : Int32).toNatClampNeg (vp_nar .byte ((n >>> (8 &&& 31))).toInt8.toInt32))))]) (z := 30) C kX12 dX12_feedNumber_27 0 rfl 1 (by decide) w_44 rfl rfl rfl rfl (Nat.le_of_ble_eq_true rfl) rfl rfl ?_
  refine g_iinc (v := 0) (l2 := [(2, .int 0), (0, .ref h0), (1, .int n)]) (z := 33) C dX12_feedNumber_30 0 rfl (by decide) (by decide) rfl rfl ?_
  refine g_goto (z := 3) C dX12_feedNumber_33 (by decide) ?_
  refine g_iload_n (z := 4) C dX12_feedNumber_3 0 rfl rfl rfl ?_
  refine g_if_lt_f (z := 7) 36 C dX12_feedNumber_4 (by decide) (by decide) rfl ?_
  refine g_aload_n (z := 8) C dX12_feedNumber_7 1 rfl rfl rfl ?_
  refine g_get (z := 11) C kX12 dX12_feedNumber_8 0 rfl 0 (by decide) w_7 rfl rfl rfl ?_
  refine g_aload_n (z := 12) C dX12_feedNumber_11 1 rfl rfl rfl ?_
  refine g_get (z := 15) C kX12 dX12_feedNumber_12 0 rfl 1 (by decide) w_44 rfl rfl rfl ?_
  refine g_iload_n (z := 16) C dX12_feedNumber_15 2 rfl rfl rfl ?_
  refine g_iload_n (z := 17) C dX12_feedNumber_16 0 rfl rfl rfl ?_
  refine g_ishr (v := (n >>> (0 &&& 31))) (z := 18) C dX12_feedNumber_17 (rfl) rfl ?_
  refine g_i2b (v := ((n >>> (0 &&& 31))).toInt8.toInt32) (z := 19) C dX12_feedNumber_18 rfl rfl ?_
  refine g_bast (w2 := [(h0, .inr (0, [.ref q1, .int 11, .ref q2, .int 0, .ref q3, .ref q15, .ref q25, .ref q26, .ref q27, .ref q28, .ref q29, .null, .int 0, .int 0, .int (-1), .int (-1), .int (-1)])), (q1, .inl (gK X 2, 3000, .inl (upd (upd (upd (upd (f) (8 : Int32).toNatClampNeg (vp_nar .byte ((n >>> (24 &&& 31))).toInt8.toInt32)) (9 : Int32).toNatClampNeg (vp_nar .byte ((n >>> (16 &&& 31))).toInt8.toInt32)) (10 : Int32).toNatClampNeg (vp_nar .byte ((n >>> (8 &&& 31))).toInt8.toInt32)) (11 : Int32).toNatClampNeg (vp_nar .byte ((n >>> (0 &&& 31))).toInt8.toInt32))))]) (z := 20) C dX12_feedNumber_19 1 rfl (by unfold vp_in; decide) rfl rfl ?_
  refine g_aload_n (z := 21) C dX12_feedNumber_20 1 rfl rfl rfl ?_
  refine g_dup (z := 22) C dX12_feedNumber_21 rfl rfl ?_
  refine g_get (z := 25) C kX12 dX12_feedNumber_22 0 rfl 1 (by decide) w_44 rfl rfl rfl ?_
  refine g_iconst (v := 1) (z := 26) C dX12_feedNumber_25 (by decide) rfl ?_
  refine g_iadd (v := 12) (z := 27) C dX12_feedNumber_26 (by decide) rfl ?_
  refine g_put (w2 := [(h0, .inr (0, [.ref q1, .int 12, .ref q2, .int 0, .ref q3, .ref q15, .ref q25, .ref q26, .ref q27, .ref q28, .ref q29, .null, .int 0, .int 0, .int (-1), .int (-1), .int (-1)])), (q1, .inl (gK X 2, 3000, .inl (upd (upd (upd (upd (f) (8 : Int32).toNatClampNeg (vp_nar .byte ((n >>> (24 &&& 31))).toInt8.toInt32)) (9 : Int32).toNatClampNeg (vp_nar .byte ((n >>> (16 &&& 31))).toInt8.toInt32)) (10 : Int32).toNatClampNeg (vp_nar .byte ((n >>> (8 &&& 31))).toInt8.toInt32)) (11 : Int32).toNatClampNeg (vp_nar .byte ((n >>> (0 &&& 31))).toInt8.toInt32))))]) (z := 30) C kX12 dX12_feedNumber_27 0 rfl 1 (by decide) w_44 rfl rfl rfl rfl (Nat.le_of_ble_eq_true rfl) rfl rfl ?_
  refine g_iinc (v := (-8)) (l2 := [(2, .int (-8)), (0, .ref h0), (1, .int n)]) (z := 33) C dX12_feedNumber_30 0 rfl (by decide) (by decide) rfl rfl ?_
  refine g_goto (z := 3) C dX12_feedNumber_33 (by decide) ?_
  refine g_iload_n (z := 4) C dX12_feedNumber_3 0 rfl rfl rfl ?_
  refine g_if_lt_t (z := 36) C dX12_feedNumber_4 (by decide) (by decide) ?_
  exact g_vret C hQ dX12_feedNumber_36 (Nat.le_of_ble_eq_true rfl) (Nat.le_of_ble_eq_true rfl) ⟨rfl, _, rfl⟩
set_option maxHeartbeats 4000000 in
set_option maxRecDepth 100000 in
/-- feedNumber at 12 -/
theorem k_feedNumber12 (l : Launch) (D : va_G) (K : KS) (f : Nat → Int32) (h0 q1 q2 q3 q15 q25 q26 q27 q28 q29 : Nat) (n : Int32) : Con l D K yX12_feedNumber cX12_feedNumber 3 none 0 0 0 0 [.ref h0, .int n] [(h0, .inr (0, [.ref q1, .int 12, .ref q2, .int 0, .ref q3, .ref q15, .ref q25, .ref q26, .ref q27, .ref q28, .ref q29, .null, .int 0, .int 0, .int (-1), .int (-1), .int (-1)])), (q1, .inl (K 2, 3000, .inl (f)))] (fun v w => v = none ∧ ∃ g : Nat → Int32, w = [(h0, .inr (0, [.ref q1, .int 16, .ref q2, .int 0, .ref q3, .ref q15, .ref q25, .ref q26, .ref q27, .ref q28, .ref q29, .null, .int 0, .int 0, .int (-1), .int (-1), .int (-1)])), (q1, .inl (K 2, 3000, .inl (g)))]) := by
  refine Con.of (by decide +kernel) (Nat.le_of_ble_eq_true rfl) ?_
  intro X hXl hXD hXK C hR hQ hnm
  subst hXl; subst hXD; subst hXK
  refine g_lv (l2 := [(0, .ref h0), (1, .int n)]) [0, 1] rfl ?_
  refine g_bipush (v := 24) (z := 2) C dX12_feedNumber_0 (by decide) rfl ?_
  refine g_istore_n (l2 := [(2, .int 24), (0, .ref h0), (1, .int n)]) (z := 3) C dX12_feedNumber_2 rfl (by decide) rfl rfl ?_
  refine g_iload_n (z := 4) C dX12_feedNumber_3 0 rfl rfl rfl ?_
  refine g_if_lt_f (z := 7) 36 C dX12_feedNumber_4 (by decide) (by decide) rfl ?_
  refine g_aload_n (z := 8) C dX12_feedNumber_7 1 rfl rfl rfl ?_
  refine g_get (z := 11) C kX12 dX12_feedNumber_8 0 rfl 0 (by decide) w_7 rfl rfl rfl ?_
  refine g_aload_n (z := 12) C dX12_feedNumber_11 1 rfl rfl rfl ?_
  refine g_get (z := 15) C kX12 dX12_feedNumber_12 0 rfl 1 (by decide) w_44 rfl rfl rfl ?_
  refine g_iload_n (z := 16) C dX12_feedNumber_15 2 rfl rfl rfl ?_
  refine g_iload_n (z := 17) C dX12_feedNumber_16 0 rfl rfl rfl ?_
  refine g_ishr (v := (n >>> (24 &&& 31))) (z := 18) C dX12_feedNumber_17 (rfl) rfl ?_
  refine g_i2b (v := ((n >>> (24 &&& 31))).toInt8.toInt32) (z := 19) C dX12_feedNumber_18 rfl rfl ?_
  refine g_bast (w2 := [(h0, .inr (0, [.ref q1, .int 12, .ref q2, .int 0, .ref q3, .ref q15, .ref q25, .ref q26, .ref q27, .ref q28, .ref q29, .null, .int 0, .int 0, .int (-1), .int (-1), .int (-1)])), (q1, .inl (gK X 2, 3000, .inl (upd (f) (12 : Int32).toNatClampNeg (vp_nar .byte ((n >>> (24 &&& 31))).toInt8.toInt32))))]) (z := 20) C dX12_feedNumber_19 1 rfl (by unfold vp_in; decide) rfl rfl ?_
  refine g_aload_n (z := 21) C dX12_feedNumber_20 1 rfl rfl rfl ?_
  refine g_dup (z := 22) C dX12_feedNumber_21 rfl rfl ?_
  refine g_get (z := 25) C kX12 dX12_feedNumber_22 0 rfl 1 (by decide) w_44 rfl rfl rfl ?_
  refine g_iconst (v := 1) (z := 26) C dX12_feedNumber_25 (by decide) rfl ?_
  refine g_iadd (v := 13) (z := 27) C dX12_feedNumber_26 (by decide) rfl ?_
  refine g_put (w2 := [(h0, .inr (0, [.ref q1, .int 13, .ref q2, .int 0, .ref q3, .ref q15, .ref q25, .ref q26, .ref q27, .ref q28, .ref q29, .null, .int 0, .int 0, .int (-1), .int (-1), .int (-1)])), (q1, .inl (gK X 2, 3000, .inl (upd (f) (12 : Int32).toNatClampNeg (vp_nar .byte ((n >>> (24 &&& 31))).toInt8.toInt32))))]) (z := 30) C kX12 dX12_feedNumber_27 0 rfl 1 (by decide) w_44 rfl rfl rfl rfl (Nat.le_of_ble_eq_true rfl) rfl rfl ?_
  refine g_iinc (v := 16) (l2 := [(2, .int 16), (0, .ref h0), (1, .int n)]) (z := 33) C dX12_feedNumber_30 0 rfl (by decide) (by decide) rfl rfl ?_
  refine g_goto (z := 3) C dX12_feedNumber_33 (by decide) ?_
  refine g_iload_n (z := 4) C dX12_feedNumber_3 0 rfl rfl rfl ?_
  refine g_if_lt_f (z := 7) 36 C dX12_feedNumber_4 (by decide) (by decide) rfl ?_
  refine g_aload_n (z := 8) C dX12_feedNumber_7 1 rfl rfl rfl ?_
  refine g_get (z := 11) C kX12 dX12_feedNumber_8 0 rfl 0 (by decide) w_7 rfl rfl rfl ?_
  refine g_aload_n (z := 12) C dX12_feedNumber_11 1 rfl rfl rfl ?_
  refine g_get (z := 15) C kX12 dX12_feedNumber_12 0 rfl 1 (by decide) w_44 rfl rfl rfl ?_
  refine g_iload_n (z := 16) C dX12_feedNumber_15 2 rfl rfl rfl ?_
  refine g_iload_n (z := 17) C dX12_feedNumber_16 0 rfl rfl rfl ?_
  refine g_ishr (v := (n >>> (16 &&& 31))) (z := 18) C dX12_feedNumber_17 (rfl) rfl ?_
  refine g_i2b (v := ((n >>> (16 &&& 31))).toInt8.toInt32) (z := 19) C dX12_feedNumber_18 rfl rfl ?_
  refine g_bast (w2 := [(h0, .inr (0, [.ref q1, .int 13, .ref q2, .int 0, .ref q3, .ref q15, .ref q25, .ref q26, .ref q27, .ref q28, .ref q29, .null, .int 0, .int 0, .int (-1), .int (-1), .int (-1)])), (q1, .inl (gK X 2, 3000, .inl (upd (upd (f) (12 : Int32).toNatClampNeg (vp_nar .byte ((n >>> (24 &&& 31))).toInt8.toInt32)) (13 : Int32).toNatClampNeg (vp_nar .byte ((n >>> (16 &&& 31))).toInt8.toInt32))))]) (z := 20) C dX12_feedNumber_19 1 rfl (by unfold vp_in; decide) rfl rfl ?_
  refine g_aload_n (z := 21) C dX12_feedNumber_20 1 rfl rfl rfl ?_
  refine g_dup (z := 22) C dX12_feedNumber_21 rfl rfl ?_
  refine g_get (z := 25) C kX12 dX12_feedNumber_22 0 rfl 1 (by decide) w_44 rfl rfl rfl ?_
  refine g_iconst (v := 1) (z := 26) C dX12_feedNumber_25 (by decide) rfl ?_
  refine g_iadd (v := 14) (z := 27) C dX12_feedNumber_26 (by decide) rfl ?_
  refine g_put (w2 := [(h0, .inr (0, [.ref q1, .int 14, .ref q2, .int 0, .ref q3, .ref q15, .ref q25, .ref q26, .ref q27, .ref q28, .ref q29, .null, .int 0, .int 0, .int (-1), .int (-1), .int (-1)])), (q1, .inl (gK X 2, 3000, .inl (upd (upd (f) (12 : Int32).toNatClampNeg (vp_nar .byte ((n >>> (24 &&& 31))).toInt8.toInt32)) (13 : Int32).toNatClampNeg (vp_nar .byte ((n >>> (16 &&& 31))).toInt8.toInt32))))]) (z := 30) C kX12 dX12_feedNumber_27 0 rfl 1 (by decide) w_44 rfl rfl rfl rfl (Nat.le_of_ble_eq_true rfl) rfl rfl ?_
  refine g_iinc (v := 8) (l2 := [(2, .int 8), (0, .ref h0), (1, .int n)]) (z := 33) C dX12_feedNumber_30 0 rfl (by decide) (by decide) rfl rfl ?_
  refine g_goto (z := 3) C dX12_feedNumber_33 (by decide) ?_
  refine g_iload_n (z := 4) C dX12_feedNumber_3 0 rfl rfl rfl ?_
  refine g_if_lt_f (z := 7) 36 C dX12_feedNumber_4 (by decide) (by decide) rfl ?_
  refine g_aload_n (z := 8) C dX12_feedNumber_7 1 rfl rfl rfl ?_
  refine g_get (z := 11) C kX12 dX12_feedNumber_8 0 rfl 0 (by decide) w_7 rfl rfl rfl ?_
  refine g_aload_n (z := 12) C dX12_feedNumber_11 1 rfl rfl rfl ?_
  refine g_get (z := 15) C kX12 dX12_feedNumber_12 0 rfl 1 (by decide) w_44 rfl rfl rfl ?_
  refine g_iload_n (z := 16) C dX12_feedNumber_15 2 rfl rfl rfl ?_
  refine g_iload_n (z := 17) C dX12_feedNumber_16 0 rfl rfl rfl ?_
  refine g_ishr (v := (n >>> (8 &&& 31))) (z := 18) C dX12_feedNumber_17 (rfl) rfl ?_
  refine g_i2b (v := ((n >>> (8 &&& 31))).toInt8.toInt32) (z := 19) C dX12_feedNumber_18 rfl rfl ?_
  refine g_bast (w2 := [(h0, .inr (0, [.ref q1, .int 14, .ref q2, .int 0, .ref q3, .ref q15, .ref q25, .ref q26, .ref q27, .ref q28, .ref q29, .null, .int 0, .int 0, .int (-1), .int (-1), .int (-1)])), (q1, .inl (gK X 2, 3000, .inl (upd (upd (upd (f) (12 : Int32).toNatClampNeg (vp_nar .byte ((n >>> (24 &&& 31))).toInt8.toInt32)) (13 : Int32).toNatClampNeg (vp_nar .byte ((n >>> (16 &&& 31))).toInt8.toInt32)) (14 : Int32).toNatClampNeg (vp_nar .byte ((n >>> (8 &&& 31))).toInt8.toInt32))))]) (z := 20) C dX12_feedNumber_19 1 rfl (by unfold vp_in; decide) rfl rfl ?_
  refine g_aload_n (z := 21) C dX12_feedNumber_20 1 rfl rfl rfl ?_
  refine g_dup (z := 22) C dX12_feedNumber_21 rfl rfl ?_
  refine g_get (z := 25) C kX12 dX12_feedNumber_22 0 rfl 1 (by decide) w_44 rfl rfl rfl ?_
  refine g_iconst (v := 1) (z := 26) C dX12_feedNumber_25 (by decide) rfl ?_
  refine g_iadd (v := 15) (z := 27) C dX12_feedNumber_26 (by decide) rfl ?_
  refine g_put (w2 := [(h0, .inr (0, [.ref q1, .int 15, .ref q2, .int 0, .ref q3, .ref q15, .ref q25, .ref q26, .ref q27, .ref q28, .ref q29, .null, .int 0, .int 0, .int (-1), .int (-1), .int (-1)])), (q1, .inl (gK X 2, 3000, .inl (upd (upd (upd (f) (12 : Int32).toNatClampNeg (vp_nar .byte ((n >>> (24 &&& 31))).toInt8.toInt32)) (13 : Int32).toNatClampNeg (vp_nar .byte ((n >>> (16 &&& 31))).toInt8.toInt32)) (14 : Int32).toNatClampNeg (vp_nar .byte ((n >>> (8 &&& 31))).toInt8.toInt32))))]) (z := 30) C kX12 dX12_feedNumber_27 0 rfl 1 (by decide) w_44 rfl rfl rfl rfl (Nat.le_of_ble_eq_true rfl) rfl rfl ?_
  refine g_iinc (v := 0) (l2 := [(2, .int 0), (0, .ref h0), (1, .int n)]) (z := 33) C dX12_feedNumber_30 0 rfl (by decide) (by decide) rfl rfl ?_
  refine g_goto (z := 3) C dX12_feedNumber_33 (by decide) ?_
  refine g_iload_n (z := 4) C dX12_feedNumber_3 0 rfl rfl rfl ?_
  refine g_if_lt_f (z := 7) 36 C dX12_feedNumber_4 (by decide) (by decide) rfl ?_
  refine g_aload_n (z := 8) C dX12_feedNumber_7 1 rfl rfl rfl ?_
  refine g_get (z := 11) C kX12 dX12_feedNumber_8 0 rfl 0 (by decide) w_7 rfl rfl rfl ?_
  refine g_aload_n (z := 12) C dX12_feedNumber_11 1 rfl rfl rfl ?_
  refine g_get (z := 15) C kX12 dX12_feedNumber_12 0 rfl 1 (by decide) w_44 rfl rfl rfl ?_
  refine g_iload_n (z := 16) C dX12_feedNumber_15 2 rfl rfl rfl ?_
  refine g_iload_n (z := 17) C dX12_feedNumber_16 0 rfl rfl rfl ?_
  refine g_ishr (v := (n >>> (0 &&& 31))) (z := 18) C dX12_feedNumber_17 (rfl) rfl ?_
  refine g_i2b (v := ((n >>> (0 &&& 31))).toInt8.toInt32) (z := 19) C dX12_feedNumber_18 rfl rfl ?_
  refine g_bast (w2 := [(h0, .inr (0, [.ref q1, .int 15, .ref q2, .int 0, .ref q3, .ref q15, .ref q25, .ref q26, .ref q27, .ref q28, .ref q29, .null, .int 0, .int 0, .int (-1), .int (-1), .int (-1)])), (q1, .inl (gK X 2, 3000, .inl (upd (upd (upd (upd (f) (12 : Int32).toNatClampNeg (vp_nar .byte ((n >>> (24 &&& 31))).toInt8.toInt32)) (13 : Int32).toNatClampNeg (vp_nar .byte ((n >>> (16 &&& 31))).toInt8.toInt32)) (14 : Int32).toNatClampNeg (vp_nar .byte ((n >>> (8 &&& 31))).toInt8.toInt32)) (15 : Int32).toNatClampNeg (vp_nar .byte ((n >>> (0 &&& 31))).toInt8.toInt32))))]) (z := 20) C dX12_feedNumber_19 1 rfl (by unfold vp_in; decide) rfl rfl ?_
  refine g_aload_n (z := 21) C dX12_feedNumber_20 1 rfl rfl rfl ?_
  refine g_dup (z := 22) C dX12_feedNumber_21 rfl rfl ?_
  refine g_get (z := 25) C kX12 dX12_feedNumber_22 0 rfl 1 (by decide) w_44 rfl rfl rfl ?_
  refine g_iconst (v := 1) (z := 26) C dX12_feedNumber_25 (by decide) rfl ?_
  refine g_iadd (v := 16) (z := 27) C dX12_feedNumber_26 (by decide) rfl ?_
  refine g_put (w2 := [(h0, .inr (0, [.ref q1, .int 16, .ref q2, .int 0, .ref q3, .ref q15, .ref q25, .ref q26, .ref q27, .ref q28, .ref q29, .null, .int 0, .int 0, .int (-1), .int (-1), .int (-1)])), (q1, .inl (gK X 2, 3000, .inl (upd (upd (upd (upd (f) (12 : Int32).toNatClampNeg (vp_nar .byte ((n >>> (24 &&& 31))).toInt8.toInt32)) (13 : Int32).toNatClampNeg (vp_nar .byte ((n >>> (16 &&& 31))).toInt8.toInt32)) (14 : Int32).toNatClampNeg (vp_nar .byte ((n >>> (8 &&& 31))).toInt8.toInt32)) (15 : Int32).toNatClampNeg (vp_nar .byte ((n >>> (0 &&& 31))).toInt8.toInt32))))]) (z := 30) C kX12 dX12_feedNumber_27 0 rfl 1 (by decide) w_44 rfl rfl rfl rfl (Nat.le_of_ble_eq_true rfl) rfl rfl ?_
  refine g_iinc (v := (-8)) (l2 := [(2, .int (-8)), (0, .ref h0), (1, .int n)]) (z := 33) C dX12_feedNumber_30 0 rfl (by decide) (by decide) rfl rfl ?_
  refine g_goto (z := 3) C dX12_feedNumber_33 (by decide) ?_
  refine g_iload_n (z := 4) C dX12_feedNumber_3 0 rfl rfl rfl ?_
  refine g_if_lt_t (z := 36) C dX12_feedNumber_4 (by decide) (by decide) ?_
  exact g_vret C hQ dX12_feedNumber_36 (Nat.le_of_ble_eq_true rfl) (Nat.le_of_ble_eq_true rfl) ⟨rfl, _, rfl⟩
set_option maxHeartbeats 4000000 in
set_option maxRecDepth 100000 in
/-- feedNumber at 16 -/
theorem k_feedNumber16 (l : Launch) (D : va_G) (K : KS) (f : Nat → Int32) (h0 q1 q2 q3 q15 q25 q26 q27 q28 q29 : Nat) (n : Int32) : Con l D K yX12_feedNumber cX12_feedNumber 3 none 0 0 0 0 [.ref h0, .int n] [(h0, .inr (0, [.ref q1, .int 16, .ref q2, .int 0, .ref q3, .ref q15, .ref q25, .ref q26, .ref q27, .ref q28, .ref q29, .null, .int 0, .int 0, .int (-1), .int (-1), .int (-1)])), (q1, .inl (K 2, 3000, .inl (f)))] (fun v w => v = none ∧ ∃ g : Nat → Int32, w = [(h0, .inr (0, [.ref q1, .int 20, .ref q2, .int 0, .ref q3, .ref q15, .ref q25, .ref q26, .ref q27, .ref q28, .ref q29, .null, .int 0, .int 0, .int (-1), .int (-1), .int (-1)])), (q1, .inl (K 2, 3000, .inl (g)))]) := by
  refine Con.of (by decide +kernel) (Nat.le_of_ble_eq_true rfl) ?_
  intro X hXl hXD hXK C hR hQ hnm
  subst hXl; subst hXD; subst hXK
  refine g_lv (l2 := [(0, .ref h0), (1, .int n)]) [0, 1] rfl ?_
  refine g_bipush (v := 24) (z := 2) C dX12_feedNumber_0 (by decide) rfl ?_
  refine g_istore_n (l2 := [(2, .int 24), (0, .ref h0), (1, .int n)]) (z := 3) C dX12_feedNumber_2 rfl (by decide) rfl rfl ?_
  refine g_iload_n (z := 4) C dX12_feedNumber_3 0 rfl rfl rfl ?_
  refine g_if_lt_f (z := 7) 36 C dX12_feedNumber_4 (by decide) (by decide) rfl ?_
  refine g_aload_n (z := 8) C dX12_feedNumber_7 1 rfl rfl rfl ?_
  refine g_get (z := 11) C kX12 dX12_feedNumber_8 0 rfl 0 (by decide) w_7 rfl rfl rfl ?_
  refine g_aload_n (z := 12) C dX12_feedNumber_11 1 rfl rfl rfl ?_
  refine g_get (z := 15) C kX12 dX12_feedNumber_12 0 rfl 1 (by decide) w_44 rfl rfl rfl ?_
  refine g_iload_n (z := 16) C dX12_feedNumber_15 2 rfl rfl rfl ?_
  refine g_iload_n (z := 17) C dX12_feedNumber_16 0 rfl rfl rfl ?_
  refine g_ishr (v := (n >>> (24 &&& 31))) (z := 18) C dX12_feedNumber_17 (rfl) rfl ?_
  refine g_i2b (v := ((n >>> (24 &&& 31))).toInt8.toInt32) (z := 19) C dX12_feedNumber_18 rfl rfl ?_
  refine g_bast (w2 := [(h0, .inr (0, [.ref q1, .int 16, .ref q2, .int 0, .ref q3, .ref q15, .ref q25, .ref q26, .ref q27, .ref q28, .ref q29, .null, .int 0, .int 0, .int (-1), .int (-1), .int (-1)])), (q1, .inl (gK X 2, 3000, .inl (upd (f) (16 : Int32).toNatClampNeg (vp_nar .byte ((n >>> (24 &&& 31))).toInt8.toInt32))))]) (z := 20) C dX12_feedNumber_19 1 rfl (by unfold vp_in; decide) rfl rfl ?_
  refine g_aload_n (z := 21) C dX12_feedNumber_20 1 rfl rfl rfl ?_
  refine g_dup (z := 22) C dX12_feedNumber_21 rfl rfl ?_
  refine g_get (z := 25) C kX12 dX12_feedNumber_22 0 rfl 1 (by decide) w_44 rfl rfl rfl ?_
  refine g_iconst (v := 1) (z := 26) C dX12_feedNumber_25 (by decide) rfl ?_
  refine g_iadd (v := 17) (z := 27) C dX12_feedNumber_26 (by decide) rfl ?_
  refine g_put (w2 := [(h0, .inr (0, [.ref q1, .int 17, .ref q2, .int 0, .ref q3, .ref q15, .ref q25, .ref q26, .ref q27, .ref q28, .ref q29, .null, .int 0, .int 0, .int (-1), .int (-1), .int (-1)])), (q1, .inl (gK X 2, 3000, .inl (upd (f) (16 : Int32).toNatClampNeg (vp_nar .byte ((n >>> (24 &&& 31))).toInt8.toInt32))))]) (z := 30) C kX12 dX12_feedNumber_27 0 rfl 1 (by decide) w_44 rfl rfl rfl rfl (Nat.le_of_ble_eq_true rfl) rfl rfl ?_
  refine g_iinc (v := 16) (l2 := [(2, .int 16), (0, .ref h0), (1, .int n)]) (z := 33) C dX12_feedNumber_30 0 rfl (by decide) (by decide) rfl rfl ?_
  refine g_goto (z := 3) C dX12_feedNumber_33 (by decide) ?_
  refine g_iload_n (z := 4) C dX12_feedNumber_3 0 rfl rfl rfl ?_
  refine g_if_lt_f (z := 7) 36 C dX12_feedNumber_4 (by decide) (by decide) rfl ?_
  refine g_aload_n (z := 8) C dX12_feedNumber_7 1 rfl rfl rfl ?_
  refine g_get (z := 11) C kX12 dX12_feedNumber_8 0 rfl 0 (by decide) w_7 rfl rfl rfl ?_
  refine g_aload_n (z := 12) C dX12_feedNumber_11 1 rfl rfl rfl ?_
  refine g_get (z := 15) C kX12 dX12_feedNumber_12 0 rfl 1 (by decide) w_44 rfl rfl rfl ?_
  refine g_iload_n (z := 16) C dX12_feedNumber_15 2 rfl rfl rfl ?_
  refine g_iload_n (z := 17) C dX12_feedNumber_16 0 rfl rfl rfl ?_
  refine g_ishr (v := (n >>> (16 &&& 31))) (z := 18) C dX12_feedNumber_17 (rfl) rfl ?_
  refine g_i2b (v := ((n >>> (16 &&& 31))).toInt8.toInt32) (z := 19) C dX12_feedNumber_18 rfl rfl ?_
  refine g_bast (w2 := [(h0, .inr (0, [.ref q1, .int 17, .ref q2, .int 0, .ref q3, .ref q15, .ref q25, .ref q26, .ref q27, .ref q28, .ref q29, .null, .int 0, .int 0, .int (-1), .int (-1), .int (-1)])), (q1, .inl (gK X 2, 3000, .inl (upd (upd (f) (16 : Int32).toNatClampNeg (vp_nar .byte ((n >>> (24 &&& 31))).toInt8.toInt32)) (17 : Int32).toNatClampNeg (vp_nar .byte ((n >>> (16 &&& 31))).toInt8.toInt32))))]) (z := 20) C dX12_feedNumber_19 1 rfl (by unfold vp_in; decide) rfl rfl ?_
  refine g_aload_n (z := 21) C dX12_feedNumber_20 1 rfl rfl rfl ?_
  refine g_dup (z := 22) C dX12_feedNumber_21 rfl rfl ?_
  refine g_get (z := 25) C kX12 dX12_feedNumber_22 0 rfl 1 (by decide) w_44 rfl rfl rfl ?_
  refine g_iconst (v := 1) (z := 26) C dX12_feedNumber_25 (by decide) rfl ?_
  refine g_iadd (v := 18) (z := 27) C dX12_feedNumber_26 (by decide) rfl ?_
  refine g_put (w2 := [(h0, .inr (0, [.ref q1, .int 18, .ref q2, .int 0, .ref q3, .ref q15, .ref q25, .ref q26, .ref q27, .ref q28, .ref q29, .null, .int 0, .int 0, .int (-1), .int (-1), .int (-1)])), (q1, .inl (gK X 2, 3000, .inl (upd (upd (f) (16 : Int32).toNatClampNeg (vp_nar .byte ((n >>> (24 &&& 31))).toInt8.toInt32)) (17 : Int32).toNatClampNeg (vp_nar .byte ((n >>> (16 &&& 31))).toInt8.toInt32))))]) (z := 30) C kX12 dX12_feedNumber_27 0 rfl 1 (by decide) w_44 rfl rfl rfl rfl (Nat.le_of_ble_eq_true rfl) rfl rfl ?_
  refine g_iinc (v := 8) (l2 := [(2, .int 8), (0, .ref h0), (1, .int n)]) (z := 33) C dX12_feedNumber_30 0 rfl (by decide) (by decide) rfl rfl ?_
  refine g_goto (z := 3) C dX12_feedNumber_33 (by decide) ?_
  refine g_iload_n (z := 4) C dX12_feedNumber_3 0 rfl rfl rfl ?_
  refine g_if_lt_f (z := 7) 36 C dX12_feedNumber_4 (by decide) (by decide) rfl ?_
  refine g_aload_n (z := 8) C dX12_feedNumber_7 1 rfl rfl rfl ?_
  refine g_get (z := 11) C kX12 dX12_feedNumber_8 0 rfl 0 (by decide) w_7 rfl rfl rfl ?_
  refine g_aload_n (z := 12) C dX12_feedNumber_11 1 rfl rfl rfl ?_
  refine g_get (z := 15) C kX12 dX12_feedNumber_12 0 rfl 1 (by decide) w_44 rfl rfl rfl ?_
  refine g_iload_n (z := 16) C dX12_feedNumber_15 2 rfl rfl rfl ?_
  refine g_iload_n (z := 17) C dX12_feedNumber_16 0 rfl rfl rfl ?_
  refine g_ishr (v := (n >>> (8 &&& 31))) (z := 18) C dX12_feedNumber_17 (rfl) rfl ?_
  refine g_i2b (v := ((n >>> (8 &&& 31))).toInt8.toInt32) (z := 19) C dX12_feedNumber_18 rfl rfl ?_
  refine g_bast (w2 := [(h0, .inr (0, [.ref q1, .int 18, .ref q2, .int 0, .ref q3, .ref q15, .ref q25, .ref q26, .ref q27, .ref q28, .ref q29, .null, .int 0, .int 0, .int (-1), .int (-1), .int (-1)])), (q1, .inl (gK X 2, 3000, .inl (upd (upd (upd (f) (16 : Int32).toNatClampNeg (vp_nar .byte ((n >>> (24 &&& 31))).toInt8.toInt32)) (17 : Int32).toNatClampNeg (vp_nar .byte ((n >>> (16 &&& 31))).toInt8.toInt32)) (18 : Int32).toNatClampNeg (vp_nar .byte ((n >>> (8 &&& 31))).toInt8.toInt32))))]) (z := 20) C dX12_feedNumber_19 1 rfl (by unfold vp_in; decide) rfl rfl ?_
  refine g_aload_n (z := 21) C dX12_feedNumber_20 1 rfl rfl rfl ?_
  refine g_dup (z := 22) C dX12_feedNumber_21 rfl rfl ?_
  refine g_get (z := 25) C kX12 dX12_feedNumber_22 0 rfl 1 (by decide) w_44 rfl rfl rfl ?_
  refine g_iconst (v := 1) (z := 26) C dX12_feedNumber_25 (by decide) rfl ?_
  refine g_iadd (v := 19) (z := 27) C dX12_feedNumber_26 (by decide) rfl ?_
  refine g_put (w2 := [(h0, .inr (0, [.ref q1, .int 19, .ref q2, .int 0, .ref q3, .ref q15, .ref q25, .ref q26, .ref q27, .ref q28, .ref q29, .null, .int 0, .int 0, .int (-1), .int (-1), .int (-1)])), (q1, .inl (gK X 2, 3000, .inl (upd (upd (upd (f) (16 : Int32).toNatClampNeg (vp_nar .byte ((n >>> (24 &&& 31))).toInt8.toInt32)) (17 : Int32).toNatClampNeg (vp_nar .byte ((n >>> (16 &&& 31))).toInt8.toInt32)) (18 : Int32).toNatClampNeg (vp_nar .byte ((n >>> (8 &&& 31))).toInt8.toInt32))))]) (z := 30) C kX12 dX12_feedNumber_27 0 rfl 1 (by decide) w_44 rfl rfl rfl rfl (Nat.le_of_ble_eq_true rfl) rfl rfl ?_
  refine g_iinc (v := 0) (l2 := [(2, .int 0), (0, .ref h0), (1, .int n)]) (z := 33) C dX12_feedNumber_30 0 rfl (by decide) (by decide) rfl rfl ?_
  refine g_goto (z := 3) C dX12_feedNumber_33 (by decide) ?_
  refine g_iload_n (z := 4) C dX12_feedNumber_3 0 rfl rfl rfl ?_
  refine g_if_lt_f (z := 7) 36 C dX12_feedNumber_4 (by decide) (by decide) rfl ?_
  refine g_aload_n (z := 8) C dX12_feedNumber_7 1 rfl rfl rfl ?_
  refine g_get (z := 11) C kX12 dX12_feedNumber_8 0 rfl 0 (by decide) w_7 rfl rfl rfl ?_
  refine g_aload_n (z := 12) C dX12_feedNumber_11 1 rfl rfl rfl ?_
  refine g_get (z := 15) C kX12 dX12_feedNumber_12 0 rfl 1 (by decide) w_44 rfl rfl rfl ?_
  refine g_iload_n (z := 16) C dX12_feedNumber_15 2 rfl rfl rfl ?_
  refine g_iload_n (z := 17) C dX12_feedNumber_16 0 rfl rfl rfl ?_
  refine g_ishr (v := (n >>> (0 &&& 31))) (z := 18) C dX12_feedNumber_17 (rfl) rfl ?_
  refine g_i2b (v := ((n >>> (0 &&& 31))).toInt8.toInt32) (z := 19) C dX12_feedNumber_18 rfl rfl ?_
  refine g_bast (w2 := [(h0, .inr (0, [.ref q1, .int 19, .ref q2, .int 0, .ref q3, .ref q15, .ref q25, .ref q26, .ref q27, .ref q28, .ref q29, .null, .int 0, .int 0, .int (-1), .int (-1), .int (-1)])), (q1, .inl (gK X 2, 3000, .inl (upd (upd (upd (upd (f) (16 : Int32).toNatClampNeg (vp_nar .byte ((n >>> (24 &&& 31))).toInt8.toInt32)) (17 : Int32).toNatClampNeg (vp_nar .byte ((n >>> (16 &&& 31))).toInt8.toInt32)) (18 : Int32).toNatClampNeg (vp_nar .byte ((n >>> (8 &&& 31))).toInt8.toInt32)) (19 : Int32).toNatClampNeg (vp_nar .byte ((n >>> (0 &&& 31))).toInt8.toInt32))))]) (z := 20) C dX12_feedNumber_19 1 rfl (by unfold vp_in; decide) rfl rfl ?_
  refine g_aload_n (z := 21) C dX12_feedNumber_20 1 rfl rfl rfl ?_
  refine g_dup (z := 22) C dX12_feedNumber_21 rfl rfl ?_
  refine g_get (z := 25) C kX12 dX12_feedNumber_22 0 rfl 1 (by decide) w_44 rfl rfl rfl ?_
  refine g_iconst (v := 1) (z := 26) C dX12_feedNumber_25 (by decide) rfl ?_
  refine g_iadd (v := 20) (z := 27) C dX12_feedNumber_26 (by decide) rfl ?_
  refine g_put (w2 := [(h0, .inr (0, [.ref q1, .int 20, .ref q2, .int 0, .ref q3, .ref q15, .ref q25, .ref q26, .ref q27, .ref q28, .ref q29, .null, .int 0, .int 0, .int (-1), .int (-1), .int (-1)])), (q1, .inl (gK X 2, 3000, .inl (upd (upd (upd (upd (f) (16 : Int32).toNatClampNeg (vp_nar .byte ((n >>> (24 &&& 31))).toInt8.toInt32)) (17 : Int32).toNatClampNeg (vp_nar .byte ((n >>> (16 &&& 31))).toInt8.toInt32)) (18 : Int32).toNatClampNeg (vp_nar .byte ((n >>> (8 &&& 31))).toInt8.toInt32)) (19 : Int32).toNatClampNeg (vp_nar .byte ((n >>> (0 &&& 31))).toInt8.toInt32))))]) (z := 30) C kX12 dX12_feedNumber_27 0 rfl 1 (by decide) w_44 rfl rfl rfl rfl (Nat.le_of_ble_eq_true rfl) rfl rfl ?_
  refine g_iinc (v := (-8)) (l2 := [(2, .int (-8)), (0, .ref h0), (1, .int n)]) (z := 33) C dX12_feedNumber_30 0 rfl (by decide) (by decide) rfl rfl ?_
  refine g_goto (z := 3) C dX12_feedNumber_33 (by decide) ?_
  refine g_iload_n (z := 4) C dX12_feedNumber_3 0 rfl rfl rfl ?_
  refine g_if_lt_t (z := 36) C dX12_feedNumber_4 (by decide) (by decide) ?_
  exact g_vret C hQ dX12_feedNumber_36 (Nat.le_of_ble_eq_true rfl) (Nat.le_of_ble_eq_true rfl) ⟨rfl, _, rfl⟩
set_option maxHeartbeats 4000000 in
set_option maxRecDepth 100000 in
/-- feed of a fresh house -/
theorem k_feed (l : Launch) (D : va_G) (K : KS) (f0 : Nat → Int32) (h0 q1 q2 q3 q15 q25 q26 q27 q28 q29 : Nat) (n1 n2 n3 n4 n5 : Int32) : Con l D K yX12_feed cX12_feed 6 (some .int) 1 22 0 0 [.ref h0, .int n1, .int n2, .int n3, .int n4, .int n5] [(h0, .inr (0, [.ref q1, .int 0, .ref q2, .int 0, .ref q3, .ref q15, .ref q25, .ref q26, .ref q27, .ref q28, .ref q29, .null, .int 0, .int 0, .int (-1), .int (-1), .int (-1)])), (q1, .inl (K 2, 3000, .inl (f0)))] (fun v _ => v = some (.int 20)) := by
  refine Con.of (by decide +kernel) (Nat.le_of_ble_eq_true rfl) ?_
  intro X hXl hXD hXK C hR hQ hnm
  subst hXl; subst hXD; subst hXK
  refine g_lv (l2 := [(0, .ref h0), (1, .int n1), (2, .int n2), (3, .int n3), (4, .int n4), (5, .int n5)]) [0, 1, 2, 3, 4, 5] rfl ?_
  refine g_aload_n (z := 1) C dX12_feed_0 0 rfl rfl rfl ?_
  refine g_get (z := 4) C kX12 dX12_feed_1 0 rfl 1 (by decide) w_44 rfl rfl rfl ?_
  refine g_bipush (v := 20) (z := 6) C dX12_feed_4 (by decide) rfl ?_
  refine g_iadd (v := 20) (z := 7) C dX12_feed_6 (by decide) rfl ?_
  refine g_sipush (v := 3000) (z := 10) C dX12_feed_7 (by decide) rfl ?_
  refine g_icmp_le_t (z := 15) C dX12_feed_10 (by decide) (by decide) ?_
  refine g_aload_n (z := 16) C dX12_feed_15 0 rfl rfl rfl ?_
  refine g_iload_n (z := 17) C dX12_feed_16 1 rfl rfl rfl ?_
  refine g_callV (n := 1) (As := [.int n1]) (rest := []) (wr := []) (a2 := 0) (b2 := 0) (z := 20) C hR (k_feedNumber0 (gl X) (gD X) (gK X) f0 h0 q1 q2 q3 q15 q25 q26 q27 q28 q29 n1) dX12_feed_17 w_45 w_47 w_48 w_46 w_3 ⟨by decide +kernel, by decide +kernel, by decide +kernel⟩ [0, 1] [] rfl rfl rfl rfl rfl (by decide) ⟨(Nat.le_of_ble_eq_true rfl), (Nat.le_of_ble_eq_true rfl)⟩ rfl rfl (Nat.le_of_ble_eq_true rfl) (Nat.le_of_ble_eq_true rfl) (Nat.le_of_ble_eq_true rfl) rfl rfl 0 kX12 rfl rfl rfl rfl (fun v ws' hp => ?_)
  obtain ⟨rfl, f1, rfl⟩ := hp
  refine g_ws (w2 := [(h0, .inr (0, [.ref q1, .int 4, .ref q2, .int 0, .ref q3, .ref q15, .ref q25, .ref q26, .ref q27, .ref q28, .ref q29, .null, .int 0, .int 0, .int (-1), .int (-1), .int (-1)])), (q1, .inl (gK X 2, 3000, .inl (f1)))]) rfl ?_
  refine g_st (s2 := []) rfl ?_
  refine g_aload_n (z := 21) C dX12_feed_20 0 rfl rfl rfl ?_
  refine g_iload_n (z := 22) C dX12_feed_21 2 rfl rfl rfl ?_
  refine g_callV (n := 1) (As := [.int n2]) (rest := []) (wr := []) (a2 := 0) (b2 := 0) (z := 25) C hR (k_feedNumber4 (gl X) (gD X) (gK X) f1 h0 q1 q2 q3 q15 q25 q26 q27 q28 q29 n2) dX12_feed_22 w_45 w_47 w_48 w_46 w_3 ⟨by decide +kernel, by decide +kernel, by decide +kernel⟩ [0, 1] [] rfl rfl rfl rfl rfl (by decide) ⟨(Nat.le_of_ble_eq_true rfl), (Nat.le_of_ble_eq_true rfl)⟩ rfl rfl (Nat.le_of_ble_eq_true rfl) (Nat.le_of_ble_eq_true rfl) (Nat.le_of_ble_eq_true rfl) rfl rfl 0 kX12 rfl rfl rfl rfl (fun v ws' hp => ?_)
  obtain ⟨rfl, f2, rfl⟩ := hp
  refine g_ws (w2 := [(h0, .inr (0, [.ref q1, .int 8, .ref q2, .int 0, .ref q3, .ref q15, .ref q25, .ref q26, .ref q27, .ref q28, .ref q29, .null, .int 0, .int 0, .int (-1), .int (-1), .int (-1)])), (q1, .inl (gK X 2, 3000, .inl (f2)))]) rfl ?_
  refine g_st (s2 := []) rfl ?_
  refine g_aload_n (z := 26) C dX12_feed_25 0 rfl rfl rfl ?_
  refine g_iload_n (z := 27) C dX12_feed_26 3 rfl rfl rfl ?_
  refine g_callV (n := 1) (As := [.int n3]) (rest := []) (wr := []) (a2 := 0) (b2 := 0) (z := 30) C hR (k_feedNumber8 (gl X) (gD X) (gK X) f2 h0 q1 q2 q3 q15 q25 q26 q27 q28 q29 n3) dX12_feed_27 w_45 w_47 w_48 w_46 w_3 ⟨by decide +kernel, by decide +kernel, by decide +kernel⟩ [0, 1] [] rfl rfl rfl rfl rfl (by decide) ⟨(Nat.le_of_ble_eq_true rfl), (Nat.le_of_ble_eq_true rfl)⟩ rfl rfl (Nat.le_of_ble_eq_true rfl) (Nat.le_of_ble_eq_true rfl) (Nat.le_of_ble_eq_true rfl) rfl rfl 0 kX12 rfl rfl rfl rfl (fun v ws' hp => ?_)
  obtain ⟨rfl, f3, rfl⟩ := hp
  refine g_ws (w2 := [(h0, .inr (0, [.ref q1, .int 12, .ref q2, .int 0, .ref q3, .ref q15, .ref q25, .ref q26, .ref q27, .ref q28, .ref q29, .null, .int 0, .int 0, .int (-1), .int (-1), .int (-1)])), (q1, .inl (gK X 2, 3000, .inl (f3)))]) rfl ?_
  refine g_st (s2 := []) rfl ?_
  refine g_aload_n (z := 31) C dX12_feed_30 0 rfl rfl rfl ?_
  refine g_iload (z := 33) C dX12_feed_31 4 rfl rfl ?_
  refine g_callV (n := 1) (As := [.int n4]) (rest := []) (wr := []) (a2 := 0) (b2 := 0) (z := 36) C hR (k_feedNumber12 (gl X) (gD X) (gK X) f3 h0 q1 q2 q3 q15 q25 q26 q27 q28 q29 n4) dX12_feed_33 w_45 w_47 w_48 w_46 w_3 ⟨by decide +kernel, by decide +kernel, by decide +kernel⟩ [0, 1] [] rfl rfl rfl rfl rfl (by decide) ⟨(Nat.le_of_ble_eq_true rfl), (Nat.le_of_ble_eq_true rfl)⟩ rfl rfl (Nat.le_of_ble_eq_true rfl) (Nat.le_of_ble_eq_true rfl) (Nat.le_of_ble_eq_true rfl) rfl rfl 0 kX12 rfl rfl rfl rfl (fun v ws' hp => ?_)
  obtain ⟨rfl, f4, rfl⟩ := hp
  refine g_ws (w2 := [(h0, .inr (0, [.ref q1, .int 16, .ref q2, .int 0, .ref q3, .ref q15, .ref q25, .ref q26, .ref q27, .ref q28, .ref q29, .null, .int 0, .int 0, .int (-1), .int (-1), .int (-1)])), (q1, .inl (gK X 2, 3000, .inl (f4)))]) rfl ?_
  refine g_st (s2 := []) rfl ?_
  refine g_aload_n (z := 37) C dX12_feed_36 0 rfl rfl rfl ?_
  refine g_iload (z := 39) C dX12_feed_37 5 rfl rfl ?_
  refine g_callV (n := 1) (As := [.int n5]) (rest := []) (wr := []) (a2 := 0) (b2 := 0) (z := 42) C hR (k_feedNumber16 (gl X) (gD X) (gK X) f4 h0 q1 q2 q3 q15 q25 q26 q27 q28 q29 n5) dX12_feed_39 w_45 w_47 w_48 w_46 w_3 ⟨by decide +kernel, by decide +kernel, by decide +kernel⟩ [0, 1] [] rfl rfl rfl rfl rfl (by decide) ⟨(Nat.le_of_ble_eq_true rfl), (Nat.le_of_ble_eq_true rfl)⟩ rfl rfl (Nat.le_of_ble_eq_true rfl) (Nat.le_of_ble_eq_true rfl) (Nat.le_of_ble_eq_true rfl) rfl rfl 0 kX12 rfl rfl rfl rfl (fun v ws' hp => ?_)
  obtain ⟨rfl, f5, rfl⟩ := hp
  refine g_ws (w2 := [(h0, .inr (0, [.ref q1, .int 20, .ref q2, .int 0, .ref q3, .ref q15, .ref q25, .ref q26, .ref q27, .ref q28, .ref q29, .null, .int 0, .int 0, .int (-1), .int (-1), .int (-1)])), (q1, .inl (gK X 2, 3000, .inl (f5)))]) rfl ?_
  refine g_st (s2 := []) rfl ?_
  refine g_aload_n (z := 43) C dX12_feed_42 0 rfl rfl rfl ?_
  refine g_get (z := 46) C kX12 dX12_feed_43 0 rfl 1 (by decide) w_44 rfl rfl rfl ?_
  exact g_iret C hQ dX12_feed_46 rfl (Nat.le_of_ble_eq_true rfl) (Nat.le_of_ble_eq_true rfl) rfl
set_option maxHeartbeats 4000000 in
set_option maxRecDepth 100000 in
/-- give of a fresh house -/
theorem k_give (l : Launch) (D : va_G) (K : KS) (h0 q1 q2 q3 q15 q25 q26 q27 q28 q29 : Nat) (n : Int64) : Con l D K yX12_give cX12_give 3 (some .int) 0 0 0 0 [.ref h0, .long n] [(h0, .inr (0, [.ref q1, .int 0, .ref q2, .int 0, .ref q3, .ref q15, .ref q25, .ref q26, .ref q27, .ref q28, .ref q29, .null, .int 0, .int 0, .int (-1), .int (-1), .int (-1)])), (q2, .inl (K 1, 200, .inr (.inl (fun _ => 0))))] (fun v _ => v = some (.int 1)) := by
  refine Con.of (by decide +kernel) (Nat.le_of_ble_eq_true rfl) ?_
  intro X hXl hXD hXK C hR hQ hnm
  subst hXl; subst hXD; subst hXK
  refine g_lv (l2 := [(0, .ref h0), (1, .long n)]) [0, 1] rfl ?_
  refine g_aload_n (z := 1) C dX12_give_0 0 rfl rfl rfl ?_
  refine g_get (z := 4) C kX12 dX12_give_1 0 rfl 3 (by decide) w_64 rfl rfl rfl ?_
  refine g_sipush (v := 200) (z := 7) C dX12_give_4 (by decide) rfl ?_
  refine g_icmp_lt_t (z := 12) C dX12_give_7 (by decide) (by decide) ?_
  refine g_aload_n (z := 13) C dX12_give_12 0 rfl rfl rfl ?_
  refine g_get (z := 16) C kX12 dX12_give_13 0 rfl 2 (by decide) w_9 rfl rfl rfl ?_
  refine g_aload_n (z := 17) C dX12_give_16 0 rfl rfl rfl ?_
  refine g_get (z := 20) C kX12 dX12_give_17 0 rfl 3 (by decide) w_64 rfl rfl rfl ?_
  refine g_lload_n (z := 21) C dX12_give_20 1 rfl rfl rfl ?_
  refine g_last (w2 := [(h0, .inr (0, [.ref q1, .int 0, .ref q2, .int 0, .ref q3, .ref q15, .ref q25, .ref q26, .ref q27, .ref q28, .ref q29, .null, .int 0, .int 0, .int (-1), .int (-1), .int (-1)])), (q2, .inl (gK X 1, 200, .inr (.inl (vp_updL (fun _ => 0) (0 : Int32).toNatClampNeg n))))]) (z := 22) C dX12_give_21 1 rfl (by unfold vp_in; decide) rfl rfl ?_
  refine g_aload_n (z := 23) C dX12_give_22 0 rfl rfl rfl ?_
  refine g_dup (z := 24) C dX12_give_23 rfl rfl ?_
  refine g_get (z := 27) C kX12 dX12_give_24 0 rfl 3 (by decide) w_64 rfl rfl rfl ?_
  refine g_iconst (v := 1) (z := 28) C dX12_give_27 (by decide) rfl ?_
  refine g_iadd (v := 1) (z := 29) C dX12_give_28 (by decide) rfl ?_
  refine g_put (w2 := [(h0, .inr (0, [.ref q1, .int 0, .ref q2, .int 1, .ref q3, .ref q15, .ref q25, .ref q26, .ref q27, .ref q28, .ref q29, .null, .int 0, .int 0, .int (-1), .int (-1), .int (-1)])), (q2, .inl (gK X 1, 200, .inr (.inl (vp_updL (fun _ => 0) (0 : Int32).toNatClampNeg n))))]) (z := 32) C kX12 dX12_give_29 0 rfl 3 (by decide) w_64 rfl rfl rfl rfl (Nat.le_of_ble_eq_true rfl) rfl rfl ?_
  refine g_aload_n (z := 33) C dX12_give_32 0 rfl rfl rfl ?_
  refine g_get (z := 36) C kX12 dX12_give_33 0 rfl 3 (by decide) w_64 rfl rfl rfl ?_
  exact g_iret C hQ dX12_give_36 rfl (Nat.le_of_ble_eq_true rfl) (Nat.le_of_ble_eq_true rfl) rfl
set_option maxHeartbeats 4000000 in
set_option maxRecDepth 100000 in
/-- about of a fresh house -/
theorem k_about (l : Launch) (D : va_G) (K : KS) (h0 q1 q2 q3 q15 q25 q26 q27 q28 q29 : Nat) (n : Int32) : Con l D K yX12_about cX12_about 2 (some .int) 0 0 0 0 [.ref h0, .int n] [(h0, .inr (0, [.ref q1, .int 0, .ref q2, .int 0, .ref q3, .ref q15, .ref q25, .ref q26, .ref q27, .ref q28, .ref q29, .null, .int 0, .int 0, .int (-1), .int (-1), .int (-1)]))] (fun v _ => v = some (.int (-1))) := by
  refine Con.of (by decide +kernel) (Nat.le_of_ble_eq_true rfl) ?_
  intro X hXl hXD hXK C hR hQ hnm
  subst hXl; subst hXD; subst hXK
  refine g_lv (l2 := [(0, .ref h0), (1, .int n)]) [0, 1] rfl ?_
  refine g_aload_n (z := 1) C dX12_about_0 0 rfl rfl rfl ?_
  refine g_get (z := 4) C kX12 dX12_about_1 0 rfl 13 (by decide) w_69 rfl rfl rfl ?_
  refine g_if_eq_t (z := 18) C dX12_about_4 (by decide) (by decide) ?_
  refine g_iconst (v := (-1)) (z := 19) C dX12_about_18 (by decide) rfl ?_
  exact g_iret C hQ dX12_about_19 rfl (Nat.le_of_ble_eq_true rfl) (Nat.le_of_ble_eq_true rfl) rfl
set_option maxHeartbeats 4000000 in
set_option maxRecDepth 100000 in
/-- size of a fresh house -/
theorem k_size (l : Launch) (D : va_G) (K : KS) (h0 q1 q2 q3 q15 q25 q26 q27 q28 q29 : Nat) (n : Int32) : Con l D K yX12_size cX12_size 2 (some .int) 0 0 0 0 [.ref h0, .int n] [(h0, .inr (0, [.ref q1, .int 0, .ref q2, .int 0, .ref q3, .ref q15, .ref q25, .ref q26, .ref q27, .ref q28, .ref q29, .null, .int 0, .int 0, .int (-1), .int (-1), .int (-1)]))] (fun v _ => v = some (.int (-1))) := by
  refine Con.of (by decide +kernel) (Nat.le_of_ble_eq_true rfl) ?_
  intro X hXl hXD hXK C hR hQ hnm
  subst hXl; subst hXD; subst hXK
  refine g_lv (l2 := [(0, .ref h0), (1, .int n)]) [0, 1] rfl ?_
  refine g_aload_n (z := 1) C dX12_size_0 0 rfl rfl rfl ?_
  refine g_get (z := 4) C kX12 dX12_size_1 0 rfl 12 (by decide) w_56 rfl rfl rfl ?_
  refine g_if_eq_t (z := 25) C dX12_size_4 (by decide) (by decide) ?_
  refine g_iconst (v := (-1)) (z := 26) C dX12_size_25 (by decide) rfl ?_
  exact g_iret C hQ dX12_size_26 rfl (Nat.le_of_ble_eq_true rfl) (Nat.le_of_ble_eq_true rfl) rfl
set_option maxHeartbeats 4000000 in
set_option maxRecDepth 100000 in
/-- place of a fresh house -/
theorem k_place (l : Launch) (D : va_G) (K : KS) (h0 q1 q2 q3 q15 q25 q26 q27 q28 q29 : Nat) (n m : Int32) : Con l D K yX12_place cX12_place 3 (some .int) 0 0 0 0 [.ref h0, .int n, .int m] [(h0, .inr (0, [.ref q1, .int 0, .ref q2, .int 0, .ref q3, .ref q15, .ref q25, .ref q26, .ref q27, .ref q28, .ref q29, .null, .int 0, .int 0, .int (-1), .int (-1), .int (-1)]))] (fun v _ => v = some (.int (-1))) := by
  refine Con.of (by decide +kernel) (Nat.le_of_ble_eq_true rfl) ?_
  intro X hXl hXD hXK C hR hQ hnm
  subst hXl; subst hXD; subst hXK
  refine g_lv (l2 := [(0, .ref h0), (1, .int n), (2, .int m)]) [0, 1, 2] rfl ?_
  refine g_aload_n (z := 1) C dX12_place_0 0 rfl rfl rfl ?_
  refine g_get (z := 4) C kX12 dX12_place_1 0 rfl 12 (by decide) w_56 rfl rfl rfl ?_
  refine g_if_eq_t (z := 22) C dX12_place_4 (by decide) (by decide) ?_
  refine g_iconst (v := (-1)) (z := 23) C dX12_place_22 (by decide) rfl ?_
  exact g_iret C hQ dX12_place_23 rfl (Nat.le_of_ble_eq_true rfl) (Nat.le_of_ble_eq_true rfl) rfl
set_option maxHeartbeats 4000000 in
set_option maxRecDepth 100000 in
/-- loan of a fresh house -/
theorem k_loan (l : Launch) (D : va_G) (K : KS) (h0 q1 q2 q3 q15 q25 q26 q27 q28 q29 : Nat) (n m : Int32) : Con l D K yX12_loan cX12_loan 3 (some .int) 0 0 0 0 [.ref h0, .int n, .int m] [(h0, .inr (0, [.ref q1, .int 0, .ref q2, .int 0, .ref q3, .ref q15, .ref q25, .ref q26, .ref q27, .ref q28, .ref q29, .null, .int 0, .int 0, .int (-1), .int (-1), .int (-1)]))] (fun v _ => v = some (.int (-1))) := by
  refine Con.of (by decide +kernel) (Nat.le_of_ble_eq_true rfl) ?_
  intro X hXl hXD hXK C hR hQ hnm
  subst hXl; subst hXD; subst hXK
  refine g_lv (l2 := [(0, .ref h0), (1, .int n), (2, .int m)]) [0, 1, 2] rfl ?_
  refine g_aload_n (z := 1) C dX12_loan_0 0 rfl rfl rfl ?_
  refine g_get (z := 4) C kX12 dX12_loan_1 0 rfl 12 (by decide) w_56 rfl rfl rfl ?_
  refine g_if_eq_t (z := 19) C dX12_loan_4 (by decide) (by decide) ?_
  refine g_iconst (v := (-1)) (z := 20) C dX12_loan_19 (by decide) rfl ?_
  exact g_iret C hQ dX12_loan_20 rfl (Nat.le_of_ble_eq_true rfl) (Nat.le_of_ble_eq_true rfl) rfl
set_option maxHeartbeats 4000000 in
set_option maxRecDepth 100000 in
/-- force of a fresh house -/
theorem k_force (l : Launch) (D : va_G) (K : KS) (h0 q1 q2 q3 q15 q25 q26 q27 q28 q29 : Nat) (n m : Int32) : Con l D K yX12_force cX12_force 3 (some .int) 0 0 0 0 [.ref h0, .int n, .int m] [(h0, .inr (0, [.ref q1, .int 0, .ref q2, .int 0, .ref q3, .ref q15, .ref q25, .ref q26, .ref q27, .ref q28, .ref q29, .null, .int 0, .int 0, .int (-1), .int (-1), .int (-1)]))] (fun v _ => v = some (.int (-1))) := by
  refine Con.of (by decide +kernel) (Nat.le_of_ble_eq_true rfl) ?_
  intro X hXl hXD hXK C hR hQ hnm
  subst hXl; subst hXD; subst hXK
  refine g_lv (l2 := [(0, .ref h0), (1, .int n), (2, .int m)]) [0, 1, 2] rfl ?_
  refine g_aload_n (z := 1) C dX12_force_0 0 rfl rfl rfl ?_
  refine g_get (z := 4) C kX12 dX12_force_1 0 rfl 12 (by decide) w_56 rfl rfl rfl ?_
  refine g_if_eq_t (z := 19) C dX12_force_4 (by decide) (by decide) ?_
  refine g_iconst (v := (-1)) (z := 20) C dX12_force_19 (by decide) rfl ?_
  exact g_iret C hQ dX12_force_20 rfl (Nat.le_of_ble_eq_true rfl) (Nat.le_of_ble_eq_true rfl) rfl
set_option maxHeartbeats 4000000 in
set_option maxRecDepth 100000 in
/-- function of a fresh house -/
theorem k_function (l : Launch) (D : va_G) (K : KS) (h0 q1 q2 q3 q15 q25 q26 q27 q28 q29 : Nat) (n m : Int32) : Con l D K yX12_function cX12_function 3 (some .int) 0 0 0 0 [.ref h0, .int n, .int m] [(h0, .inr (0, [.ref q1, .int 0, .ref q2, .int 0, .ref q3, .ref q15, .ref q25, .ref q26, .ref q27, .ref q28, .ref q29, .null, .int 0, .int 0, .int (-1), .int (-1), .int (-1)]))] (fun v _ => v = some (.int (-1))) := by
  refine Con.of (by decide +kernel) (Nat.le_of_ble_eq_true rfl) ?_
  intro X hXl hXD hXK C hR hQ hnm
  subst hXl; subst hXD; subst hXK
  refine g_lv (l2 := [(0, .ref h0), (1, .int n), (2, .int m)]) [0, 1, 2] rfl ?_
  refine g_aload_n (z := 1) C dX12_function_0 0 rfl rfl rfl ?_
  refine g_get (z := 4) C kX12 dX12_function_1 0 rfl 12 (by decide) w_56 rfl rfl rfl ?_
  refine g_if_eq_t (z := 22) C dX12_function_4 (by decide) (by decide) ?_
  refine g_iconst (v := (-1)) (z := 23) C dX12_function_22 (by decide) rfl ?_
  exact g_iret C hQ dX12_function_23 rfl (Nat.le_of_ble_eq_true rfl) (Nat.le_of_ble_eq_true rfl) rfl
set_option maxHeartbeats 4000000 in
set_option maxRecDepth 100000 in
/-- out of a fresh house -/
theorem k_out (l : Launch) (D : va_G) (K : KS) (h0 q1 q2 q3 q15 q25 q26 q27 q28 q29 : Nat) (n m : Int32) : Con l D K yX12_out cX12_out 3 (some .long) 0 0 0 0 [.ref h0, .int n, .int m] [(h0, .inr (0, [.ref q1, .int 0, .ref q2, .int 0, .ref q3, .ref q15, .ref q25, .ref q26, .ref q27, .ref q28, .ref q29, .null, .int 0, .int 0, .int (-1), .int (-1), .int (-1)]))] (fun v _ => v = some (.long 0)) := by
  refine Con.of (by decide +kernel) (Nat.le_of_ble_eq_true rfl) ?_
  intro X hXl hXD hXK C hR hQ hnm
  subst hXl; subst hXD; subst hXK
  refine g_lv (l2 := [(0, .ref h0), (1, .int n), (2, .int m)]) [0, 1, 2] rfl ?_
  refine g_aload_n (z := 1) C dX12_out_0 0 rfl rfl rfl ?_
  refine g_get (z := 4) C kX12 dX12_out_1 0 rfl 13 (by decide) w_69 rfl rfl rfl ?_
  refine g_if_eq_t (z := 22) C dX12_out_4 (by decide) (by decide) ?_
  refine g_lconst (v := 0) (z := 23) C dX12_out_22 (by decide) rfl ?_
  exact g_lret C hQ dX12_out_23 (Nat.le_of_ble_eq_true rfl) (Nat.le_of_ble_eq_true rfl) rfl
set_option maxHeartbeats 4000000 in
set_option maxRecDepth 100000 in
/-- strays of a fresh house -/
theorem k_strays (l : Launch) (D : va_G) (K : KS) (h0 q1 q2 q3 q15 q25 q26 q27 q28 q29 : Nat)  : Con l D K yX12_strays cX12_strays 1 (some .int) 0 0 0 0 [.ref h0] [(h0, .inr (0, [.ref q1, .int 0, .ref q2, .int 0, .ref q3, .ref q15, .ref q25, .ref q26, .ref q27, .ref q28, .ref q29, .null, .int 0, .int 0, .int (-1), .int (-1), .int (-1)]))] (fun v _ => v = some (.int 0)) := by
  refine Con.of (by decide +kernel) (Nat.le_of_ble_eq_true rfl) ?_
  intro X hXl hXD hXK C hR hQ hnm
  subst hXl; subst hXD; subst hXK
  refine g_lv (l2 := [(0, .ref h0)]) [0] rfl ?_
  refine g_aload_n (z := 1) C dX12_strays_0 0 rfl rfl rfl ?_
  refine g_get (z := 4) C kX12 dX12_strays_1 0 rfl 13 (by decide) w_69 rfl rfl rfl ?_
  refine g_if_eq_t (z := 20) C dX12_strays_4 (by decide) (by decide) ?_
  refine g_iconst (v := 0) (z := 21) C dX12_strays_20 (by decide) rfl ?_
  exact g_iret C hQ dX12_strays_21 rfl (Nat.le_of_ble_eq_true rfl) (Nat.le_of_ble_eq_true rfl) rfl
set_option maxHeartbeats 4000000 in
set_option maxRecDepth 100000 in
/-- twices of a fresh house -/
theorem k_twices (l : Launch) (D : va_G) (K : KS) (h0 q1 q2 q3 q15 q25 q26 q27 q28 q29 : Nat)  : Con l D K yX12_twices cX12_twices 1 (some .int) 0 0 0 0 [.ref h0] [(h0, .inr (0, [.ref q1, .int 0, .ref q2, .int 0, .ref q3, .ref q15, .ref q25, .ref q26, .ref q27, .ref q28, .ref q29, .null, .int 0, .int 0, .int (-1), .int (-1), .int (-1)]))] (fun v _ => v = some (.int 0)) := by
  refine Con.of (by decide +kernel) (Nat.le_of_ble_eq_true rfl) ?_
  intro X hXl hXD hXK C hR hQ hnm
  subst hXl; subst hXD; subst hXK
  refine g_lv (l2 := [(0, .ref h0)]) [0] rfl ?_
  refine g_aload_n (z := 1) C dX12_twices_0 0 rfl rfl rfl ?_
  refine g_get (z := 4) C kX12 dX12_twices_1 0 rfl 13 (by decide) w_69 rfl rfl rfl ?_
  refine g_if_eq_t (z := 20) C dX12_twices_4 (by decide) (by decide) ?_
  refine g_iconst (v := 0) (z := 21) C dX12_twices_20 (by decide) rfl ?_
  exact g_iret C hQ dX12_twices_21 rfl (Nat.le_of_ble_eq_true rfl) (Nat.le_of_ble_eq_true rfl) rfl
set_option maxHeartbeats 4000000 in
set_option maxRecDepth 100000 in
/-- lefts of a fresh house -/
theorem k_lefts (l : Launch) (D : va_G) (K : KS) (h0 q1 q2 q3 q15 q25 q26 q27 q28 q29 : Nat)  : Con l D K yX12_lefts cX12_lefts 1 (some .int) 0 0 0 0 [.ref h0] [(h0, .inr (0, [.ref q1, .int 0, .ref q2, .int 0, .ref q3, .ref q15, .ref q25, .ref q26, .ref q27, .ref q28, .ref q29, .null, .int 0, .int 0, .int (-1), .int (-1), .int (-1)]))] (fun v _ => v = some (.int 0)) := by
  refine Con.of (by decide +kernel) (Nat.le_of_ble_eq_true rfl) ?_
  intro X hXl hXD hXK C hR hQ hnm
  subst hXl; subst hXD; subst hXK
  refine g_lv (l2 := [(0, .ref h0)]) [0] rfl ?_
  refine g_aload_n (z := 1) C dX12_lefts_0 0 rfl rfl rfl ?_
  refine g_get (z := 4) C kX12 dX12_lefts_1 0 rfl 13 (by decide) w_69 rfl rfl rfl ?_
  refine g_if_eq_t (z := 17) C dX12_lefts_4 (by decide) (by decide) ?_
  refine g_iconst (v := 0) (z := 18) C dX12_lefts_17 (by decide) rfl ?_
  exact g_iret C hQ dX12_lefts_18 rfl (Nat.le_of_ble_eq_true rfl) (Nat.le_of_ble_eq_true rfl) rfl
set_option maxHeartbeats 4000000 in
set_option maxRecDepth 100000 in
/-- clashes of a fresh house -/
theorem k_clashes (l : Launch) (D : va_G) (K : KS) (h0 q1 q2 q3 q15 q25 q26 q27 q28 q29 : Nat)  : Con l D K yX12_clashes cX12_clashes 1 (some .int) 0 0 0 0 [.ref h0] [(h0, .inr (0, [.ref q1, .int 0, .ref q2, .int 0, .ref q3, .ref q15, .ref q25, .ref q26, .ref q27, .ref q28, .ref q29, .null, .int 0, .int 0, .int (-1), .int (-1), .int (-1)]))] (fun v _ => v = some (.int 0)) := by
  refine Con.of (by decide +kernel) (Nat.le_of_ble_eq_true rfl) ?_
  intro X hXl hXD hXK C hR hQ hnm
  subst hXl; subst hXD; subst hXK
  refine g_lv (l2 := [(0, .ref h0)]) [0] rfl ?_
  refine g_iconst (v := 0) (z := 1) C dX12_clashes_0 (by decide) rfl ?_
  exact g_iret C hQ dX12_clashes_1 rfl (Nat.le_of_ble_eq_true rfl) (Nat.le_of_ble_eq_true rfl) rfl
set_option maxHeartbeats 4000000 in
set_option maxRecDepth 100000 in
/-- run of a fresh house -/
theorem k_run (l : Launch) (D : va_G) (K : KS) (h0 q1 q2 q3 q15 q25 q26 q27 q28 q29 : Nat) (n : Int32) : Con l D K yX12_run cX12_run 2 (some .int) 0 0 0 0 [.ref h0, .int n] [(h0, .inr (0, [.ref q1, .int 0, .ref q2, .int 0, .ref q3, .ref q15, .ref q25, .ref q26, .ref q27, .ref q28, .ref q29, .null, .int 0, .int 0, .int (-1), .int (-1), .int (-1)]))] (fun v _ => v = some (.int (-1))) := by
  refine Con.of (by decide +kernel) (Nat.le_of_ble_eq_true rfl) ?_
  intro X hXl hXD hXK C hR hQ hnm
  subst hXl; subst hXD; subst hXK
  refine g_lv (l2 := [(0, .ref h0), (1, .int n)]) [0, 1] rfl ?_
  refine g_iload_n (z := 1) C dX12_run_0 1 rfl rfl rfl ?_
  refine g_iconst (v := 1) (z := 2) C dX12_run_1 (by decide) rfl ?_
  refine g_icmp_lt (z2 := 18) (z := 5) C dX12_run_2 (by decide) rfl (fun u1 => ?_) (fun u1 => ?_)
  · refine g_iconst (v := (-1)) (z := 19) C dX12_run_18 (by decide) rfl ?_
    exact g_iret C hQ dX12_run_19 rfl (Nat.le_of_ble_eq_true rfl) (Nat.le_of_ble_eq_true rfl) rfl
  · refine g_iload_n (z := 6) C dX12_run_5 1 rfl rfl rfl ?_
    refine g_ldc (v := 50000) (z := 8) C dX12_run_6 w_68 rfl ?_
    refine g_icmp_gt (z2 := 18) (z := 11) C dX12_run_8 (by decide) rfl (fun u2 => ?_) (fun u2 => ?_)
    · refine g_iconst (v := (-1)) (z := 19) C dX12_run_18 (by decide) rfl ?_
      exact g_iret C hQ dX12_run_19 rfl (Nat.le_of_ble_eq_true rfl) (Nat.le_of_ble_eq_true rfl) rfl
    · refine g_aload_n (z := 12) C dX12_run_11 0 rfl rfl rfl ?_
      refine g_get (z := 15) C kX12 dX12_run_12 0 rfl 12 (by decide) w_56 rfl rfl rfl ?_
      refine g_if_ne_f (z := 18) 20 C dX12_run_15 (by decide) (by decide) rfl ?_
      refine g_iconst (v := (-1)) (z := 19) C dX12_run_18 (by decide) rfl ?_
      exact g_iret C hQ dX12_run_19 rfl (Nat.le_of_ble_eq_true rfl) (Nat.le_of_ble_eq_true rfl) rfl
def aC (n : Int32) : Int32 := if n < 0 ∨ 3 < n then -1 else 0
theorem aC_neg {n : Int32} (h : n < 0) : aC n = -1 := if_pos (Or.inl h)
theorem aC_big {n : Int32} (h : ¬ n ≤ 3) : aC n = -1 := if_pos (Or.inr (Int32.not_le.mp h))
theorem aC_in {n : Int32} (h : ¬ n < 0) (h2 : n ≤ 3) : aC n = 0 := if_neg (fun q => q.elim h (fun q => absurd h2 (Int32.not_le.mpr q)))
set_option maxHeartbeats 4000000 in
set_option maxRecDepth 100000 in
/-- count of a fresh house -/
theorem k_count (l : Launch) (D : va_G) (K : KS) (h0 q1 q2 q3 q15 q25 q26 q27 q28 q29 : Nat) (n : Int32) : Con l D K yX12_count cX12_count 2 (some .int) 0 0 0 0 [.ref h0, .int n] [(h0, .inr (0, [.ref q1, .int 0, .ref q2, .int 0, .ref q3, .ref q15, .ref q25, .ref q26, .ref q27, .ref q28, .ref q29, .null, .int 0, .int 0, .int (-1), .int (-1), .int (-1)]))] (fun v _ => v = some (.int (aC n))) := by
  refine Con.of (by decide +kernel) (Nat.le_of_ble_eq_true rfl) ?_
  intro X hXl hXD hXK C hR hQ hnm
  subst hXl; subst hXD; subst hXK
  refine g_lv (l2 := [(0, .ref h0), (1, .int n)]) [0, 1] rfl ?_
  refine g_iload_n (z := 1) C dX12_count_0 1 rfl rfl rfl ?_
  refine g_if_lt (z2 := 9) (z := 4) C dX12_count_1 (by decide) rfl (fun u1 => ?_) (fun u1 => ?_)
  · refine g_iconst (v := (-1)) (z := 10) C dX12_count_9 (by decide) rfl ?_
    exact g_iret C hQ dX12_count_10 rfl (Nat.le_of_ble_eq_true rfl) (Nat.le_of_ble_eq_true rfl) (by rw [aC_neg u1])
  · refine g_iload_n (z := 5) C dX12_count_4 1 rfl rfl rfl ?_
    refine g_iconst (v := 3) (z := 6) C dX12_count_5 (by decide) rfl ?_
    refine g_icmp_le (z2 := 11) (z := 9) C dX12_count_6 (by decide) rfl (fun u2 => ?_) (fun u2 => ?_)
    · refine g_aload_n (z := 12) C dX12_count_11 0 rfl rfl rfl ?_
      refine g_get (z := 15) C kX12 dX12_count_12 0 rfl 12 (by decide) w_56 rfl rfl rfl ?_
      refine g_if_ne_f (z := 18) 20 C dX12_count_15 (by decide) (by decide) rfl ?_
      refine g_iconst (v := 0) (z := 19) C dX12_count_18 (by decide) rfl ?_
      exact g_iret C hQ dX12_count_19 rfl (Nat.le_of_ble_eq_true rfl) (Nat.le_of_ble_eq_true rfl) (by rw [aC_in u1 u2])
    · refine g_iconst (v := (-1)) (z := 10) C dX12_count_9 (by decide) rfl ?_
      exact g_iret C hQ dX12_count_10 rfl (Nat.le_of_ble_eq_true rfl) (Nat.le_of_ble_eq_true rfl) (by rw [aC_big u2])
set_option maxHeartbeats 4000000 in
set_option maxRecDepth 100000 in
/-- fault of a fresh house -/
theorem k_fault (l : Launch) (D : va_G) (K : KS) (h0 q1 q2 q3 q15 q25 q26 q27 q28 q29 : Nat) (n : Int32) : Con l D K yX12_fault cX12_fault 2 (some .int) 0 0 0 0 [.ref h0, .int n] [(h0, .inr (0, [.ref q1, .int 0, .ref q2, .int 0, .ref q3, .ref q15, .ref q25, .ref q26, .ref q27, .ref q28, .ref q29, .null, .int 0, .int 0, .int (-1), .int (-1), .int (-1)]))] (fun v _ => v = some (.int (-1))) := by
  refine Con.of (by decide +kernel) (Nat.le_of_ble_eq_true rfl) ?_
  intro X hXl hXD hXK C hR hQ hnm
  subst hXl; subst hXD; subst hXK
  refine g_lv (l2 := [(0, .ref h0), (1, .int n)]) [0, 1] rfl ?_
  refine g_iload_n (z := 1) C dX12_fault_0 1 rfl rfl rfl ?_
  rcases (show n.toInt < 0 ∨ 2 < n.toInt ∨ n.toInt = 0 ∨ n.toInt = 1 ∨ n.toInt = 2 by omega) with u | u | u | u | u
  · refine g_tableOut (z := 43) C dX12_fault_1 (Or.inl u) (by decide) ?_
    refine g_iconst (v := (-1)) (z := 44) C dX12_fault_43 (by decide) rfl ?_
    exact g_iret C hQ dX12_fault_44 rfl (Nat.le_of_ble_eq_true rfl) (Nat.le_of_ble_eq_true rfl) rfl
  · refine g_tableOut (z := 43) C dX12_fault_1 (Or.inr u) (by decide) ?_
    refine g_iconst (v := (-1)) (z := 44) C dX12_fault_43 (by decide) rfl ?_
    exact g_iret C hQ dX12_fault_44 rfl (Nat.le_of_ble_eq_true rfl) (Nat.le_of_ble_eq_true rfl) rfl
  · refine g_tableIn (z := 28) C dX12_fault_1 (by omega) (by omega) (by rw [u]; rfl) (by decide) ?_
    refine g_aload_n (z := 29) C dX12_fault_28 0 rfl rfl rfl ?_
    refine g_get (z := 32) C kX12 dX12_fault_29 0 rfl 14 (by decide) w_38 rfl rfl rfl ?_
    exact g_iret C hQ dX12_fault_32 rfl (Nat.le_of_ble_eq_true rfl) (Nat.le_of_ble_eq_true rfl) rfl
  · refine g_tableIn (z := 33) C dX12_fault_1 (by omega) (by omega) (by rw [u]; rfl) (by decide) ?_
    refine g_aload_n (z := 34) C dX12_fault_33 0 rfl rfl rfl ?_
    refine g_get (z := 37) C kX12 dX12_fault_34 0 rfl 15 (by decide) w_39 rfl rfl rfl ?_
    exact g_iret C hQ dX12_fault_37 rfl (Nat.le_of_ble_eq_true rfl) (Nat.le_of_ble_eq_true rfl) rfl
  · refine g_tableIn (z := 38) C dX12_fault_1 (by omega) (by omega) (by rw [u]; rfl) (by decide) ?_
    refine g_aload_n (z := 39) C dX12_fault_38 0 rfl rfl rfl ?_
    refine g_get (z := 42) C kX12 dX12_fault_39 0 rfl 16 (by decide) w_40 rfl rfl rfl ?_
    exact g_iret C hQ dX12_fault_42 rfl (Nat.le_of_ble_eq_true rfl) (Nat.le_of_ble_eq_true rfl) rfl

/-! 55.str: the string constant -/
theorem dJ0_length_8abf5_0 : decode cJ0_length_8abf5 0 = .ok (.aload_n 0, 1) := by decide +kernel
theorem dJ0_length_8abf5_1 : decode cJ0_length_8abf5 1 = .ok (.getfield 9, 3) := by decide +kernel
theorem dJ0_length_8abf5_4 : decode cJ0_length_8abf5 4 = .ok (.arraylength, 1) := by decide +kernel
theorem dJ0_length_8abf5_5 : decode cJ0_length_8abf5 5 = .ok (.aload_n 0, 1) := by decide +kernel
theorem dJ0_length_8abf5_6 : decode cJ0_length_8abf5 6 = .ok (.invokevirtual 335, 3) := by decide +kernel
theorem dJ0_length_8abf5_9 : decode cJ0_length_8abf5 9 = .ok (.ishr, 1) := by decide +kernel
theorem dJ0_length_8abf5_10 : decode cJ0_length_8abf5 10 = .ok (.ireturn, 1) := by decide +kernel
theorem dJ0_coder_7d493_0 : decode cJ0_coder_7d493 0 = .ok (.getstatic 38, 3) := by decide +kernel
theorem dJ0_coder_7d493_3 : decode cJ0_coder_7d493 3 = .ok (.ifCond .eq 10, 3) := by decide +kernel
theorem dJ0_coder_7d493_6 : decode cJ0_coder_7d493 6 = .ok (.aload_n 0, 1) := by decide +kernel
theorem dJ0_coder_7d493_7 : decode cJ0_coder_7d493 7 = .ok (.getfield 15, 3) := by decide +kernel
theorem dJ0_coder_7d493_10 : decode cJ0_coder_7d493 10 = .ok (.goto 4, 3) := by decide +kernel
theorem dJ0_coder_7d493_13 : decode cJ0_coder_7d493 13 = .ok (.iconst 1, 1) := by decide +kernel
theorem dJ0_coder_7d493_14 : decode cJ0_coder_7d493 14 = .ok (.ireturn, 1) := by decide +kernel
theorem dJ0_isLatin1_aae02_0 : decode cJ0_isLatin1_aae02 0 = .ok (.getstatic 38, 3) := by decide +kernel
theorem dJ0_isLatin1_aae02_3 : decode cJ0_isLatin1_aae02 3 = .ok (.ifCond .eq 14, 3) := by decide +kernel
theorem dJ0_isLatin1_aae02_6 : decode cJ0_isLatin1_aae02 6 = .ok (.aload_n 0, 1) := by decide +kernel
theorem dJ0_isLatin1_aae02_7 : decode cJ0_isLatin1_aae02 7 = .ok (.getfield 15, 3) := by decide +kernel
theorem dJ0_isLatin1_aae02_10 : decode cJ0_isLatin1_aae02 10 = .ok (.ifCond .ne 7, 3) := by decide +kernel
theorem dJ0_isLatin1_aae02_13 : decode cJ0_isLatin1_aae02 13 = .ok (.iconst 1, 1) := by decide +kernel
theorem dJ0_isLatin1_aae02_14 : decode cJ0_isLatin1_aae02 14 = .ok (.goto 4, 3) := by decide +kernel
theorem dJ0_isLatin1_aae02_17 : decode cJ0_isLatin1_aae02 17 = .ok (.iconst 0, 1) := by decide +kernel
theorem dJ0_isLatin1_aae02_18 : decode cJ0_isLatin1_aae02 18 = .ok (.ireturn, 1) := by decide +kernel
theorem dJ0_charAt_5068e_0 : decode cJ0_charAt_5068e 0 = .ok (.aload_n 0, 1) := by decide +kernel
theorem dJ0_charAt_5068e_1 : decode cJ0_charAt_5068e 1 = .ok (.invokevirtual 492, 3) := by decide +kernel
theorem dJ0_charAt_5068e_4 : decode cJ0_charAt_5068e 4 = .ok (.ifCond .eq 12, 3) := by decide +kernel
theorem dJ0_charAt_5068e_7 : decode cJ0_charAt_5068e 7 = .ok (.aload_n 0, 1) := by decide +kernel
theorem dJ0_charAt_5068e_8 : decode cJ0_charAt_5068e 8 = .ok (.getfield 9, 3) := by decide +kernel
theorem dJ0_charAt_5068e_11 : decode cJ0_charAt_5068e 11 = .ok (.iload_n 1, 1) := by decide +kernel
theorem dJ0_charAt_5068e_12 : decode cJ0_charAt_5068e 12 = .ok (.invokestatic 495, 3) := by decide +kernel
theorem dJ0_charAt_5068e_15 : decode cJ0_charAt_5068e 15 = .ok (.ireturn, 1) := by decide +kernel
theorem dJ0_charAt_5068e_16 : decode cJ0_charAt_5068e 16 = .ok (.aload_n 0, 1) := by decide +kernel
theorem dJ0_charAt_5068e_17 : decode cJ0_charAt_5068e 17 = .ok (.getfield 9, 3) := by decide +kernel
theorem dJ0_charAt_5068e_20 : decode cJ0_charAt_5068e 20 = .ok (.iload_n 1, 1) := by decide +kernel
theorem dJ0_charAt_5068e_21 : decode cJ0_charAt_5068e 21 = .ok (.invokestatic 498, 3) := by decide +kernel
theorem dJ0_charAt_5068e_24 : decode cJ0_charAt_5068e 24 = .ok (.ireturn, 1) := by decide +kernel
theorem dJ1_charAt_3b067_0 : decode cJ1_charAt_3b067 0 = .ok (.iload_n 1, 1) := by decide +kernel
theorem dJ1_charAt_3b067_1 : decode cJ1_charAt_3b067 1 = .ok (.aload_n 0, 1) := by decide +kernel
theorem dJ1_charAt_3b067_2 : decode cJ1_charAt_3b067 2 = .ok (.arraylength, 1) := by decide +kernel
theorem dJ1_charAt_3b067_3 : decode cJ1_charAt_3b067 3 = .ok (.invokestatic 9, 3) := by decide +kernel
theorem dJ1_charAt_3b067_6 : decode cJ1_charAt_3b067 6 = .ok (.aload_n 0, 1) := by decide +kernel
theorem dJ1_charAt_3b067_7 : decode cJ1_charAt_3b067 7 = .ok (.iload_n 1, 1) := by decide +kernel
theorem dJ1_charAt_3b067_8 : decode cJ1_charAt_3b067 8 = .ok (.baload, 1) := by decide +kernel
theorem dJ1_charAt_3b067_9 : decode cJ1_charAt_3b067 9 = .ok (.sipush 255, 3) := by decide +kernel
theorem dJ1_charAt_3b067_12 : decode cJ1_charAt_3b067 12 = .ok (.iand, 1) := by decide +kernel
theorem dJ1_charAt_3b067_13 : decode cJ1_charAt_3b067 13 = .ok (.i2c, 1) := by decide +kernel
theorem dJ1_charAt_3b067_14 : decode cJ1_charAt_3b067 14 = .ok (.ireturn, 1) := by decide +kernel
theorem dJ0_checkIndex_df160_0 : decode cJ0_checkIndex_df160 0 = .ok (.iload_n 0, 1) := by decide +kernel
theorem dJ0_checkIndex_df160_1 : decode cJ0_checkIndex_df160 1 = .ok (.iload_n 1, 1) := by decide +kernel
theorem dJ0_checkIndex_df160_2 : decode cJ0_checkIndex_df160 2 = .ok (.getstatic 1053, 3) := by decide +kernel
theorem dJ0_checkIndex_df160_5 : decode cJ0_checkIndex_df160 5 = .ok (.invokestatic 1059, 3) := by decide +kernel
theorem dJ0_checkIndex_df160_8 : decode cJ0_checkIndex_df160 8 = .ok (.pop, 1) := by decide +kernel
theorem dJ0_checkIndex_df160_9 : decode cJ0_checkIndex_df160 9 = .ok (.return_, 1) := by decide +kernel
theorem dJ3_checkIndex_8e157_0 : decode cJ3_checkIndex_8e157 0 = .ok (.iload_n 0, 1) := by decide +kernel
theorem dJ3_checkIndex_8e157_1 : decode cJ3_checkIndex_8e157 1 = .ok (.ifCond .lt 8, 3) := by decide +kernel
theorem dJ3_checkIndex_8e157_4 : decode cJ3_checkIndex_8e157 4 = .ok (.iload_n 0, 1) := by decide +kernel
theorem dJ3_checkIndex_8e157_5 : decode cJ3_checkIndex_8e157 5 = .ok (.iload_n 1, 1) := by decide +kernel
theorem dJ3_checkIndex_8e157_6 : decode cJ3_checkIndex_8e157 6 = .ok (.if_icmp .lt 10, 3) := by decide +kernel
theorem dJ3_checkIndex_8e157_9 : decode cJ3_checkIndex_8e157 9 = .ok (.aload_n 2, 1) := by decide +kernel
theorem dJ3_checkIndex_8e157_10 : decode cJ3_checkIndex_8e157 10 = .ok (.iload_n 0, 1) := by decide +kernel
theorem dJ3_checkIndex_8e157_11 : decode cJ3_checkIndex_8e157 11 = .ok (.iload_n 1, 1) := by decide +kernel
theorem dJ3_checkIndex_8e157_12 : decode cJ3_checkIndex_8e157 12 = .ok (.invokestatic 95, 3) := by decide +kernel
theorem dJ3_checkIndex_8e157_15 : decode cJ3_checkIndex_8e157 15 = .ok (.athrow, 1) := by decide +kernel
theorem dJ3_checkIndex_8e157_16 : decode cJ3_checkIndex_8e157 16 = .ok (.iload_n 0, 1) := by decide +kernel
theorem dJ3_checkIndex_8e157_17 : decode cJ3_checkIndex_8e157 17 = .ok (.ireturn, 1) := by decide +kernel
abbrev N_J0_coder_7d493 : MC := (yJ0_coder_7d493, cJ0_coder_7d493, 1, (some .byte), 1, 0, 0)
theorem cn_J0_coder_7d493 : CB N_J0_coder_7d493 0 := ⟨(big_of 59 (by decide +kernel) (by decide +kernel)), (big_of 294 (by decide +kernel) (by decide +kernel)), by decide +kernel⟩
abbrev N_J0_isLatin1_aae02 : MC := (yJ0_isLatin1_aae02, cJ0_isLatin1_aae02, 1, (some .boolean), 1, 0, 0)
theorem cn_J0_isLatin1_aae02 : CB N_J0_isLatin1_aae02 0 := ⟨(big_of 59 (by decide +kernel) (by decide +kernel)), (big_of 304 (by decide +kernel) (by decide +kernel)), by decide +kernel⟩
abbrev N_J0_length_8abf5 : MC := (yJ0_length_8abf5, cJ0_length_8abf5, 1, (some .int), 2, 0, 0)
theorem cn_J0_length_8abf5 : CB N_J0_length_8abf5 0 := ⟨(big_of 59 (by decide +kernel) (by decide +kernel)), (big_of 290 (by decide +kernel) (by decide +kernel)), by decide +kernel⟩
abbrev N_J3_checkIndex_8e157 : MC := (yJ3_checkIndex_8e157, cJ3_checkIndex_8e157, 3, (some .int), 1, 0, 0)
theorem cn_J3_checkIndex_8e157 : CB N_J3_checkIndex_8e157 3 := ⟨(big_of 61 (by decide +kernel) (by decide +kernel)), (big_of 315 (by decide +kernel) (by decide +kernel)), by decide +kernel⟩
abbrev N_J0_checkIndex_df160 : MC := (yJ0_checkIndex_df160, cJ0_checkIndex_df160, 2, none, 2, 0, 0)
theorem cn_J0_checkIndex_df160 : CB N_J0_checkIndex_df160 2 := ⟨(big_of 59 (by decide +kernel) (by decide +kernel)), (big_of 310 (by decide +kernel) (by decide +kernel)), by decide +kernel⟩
abbrev N_J1_charAt_3b067 : MC := (yJ1_charAt_3b067, cJ1_charAt_3b067, 2, (some .char), 3, 0, 0)
theorem cn_J1_charAt_3b067 : CB N_J1_charAt_3b067 2 := ⟨(big_of 60 (by decide +kernel) (by decide +kernel)), (big_of 307 (by decide +kernel) (by decide +kernel)), by decide +kernel⟩
abbrev N_J0_charAt_5068e : MC := (yJ0_charAt_5068e, cJ0_charAt_5068e, 2, (some .char), 4, 0, 0)
theorem cn_J0_charAt_5068e : CB N_J0_charAt_5068e 1 := ⟨(big_of 59 (by decide +kernel) (by decide +kernel)), (big_of 300 (by decide +kernel) (by decide +kernel)), by decide +kernel⟩
theorem cv_J0_335 : CV RJ0 335 N_J0_coder_7d493 0 := ⟨cn_J0_coder_7d493, (big_of 291 (by decide +kernel) (by decide +kernel)), (big_of 292 (by decide +kernel) (by decide +kernel)), (big_of 293 (by decide +kernel) (by decide +kernel))⟩
theorem cv_J0_492 : CV RJ0 492 N_J0_isLatin1_aae02 0 := ⟨cn_J0_isLatin1_aae02, (big_of 301 (by decide +kernel) (by decide +kernel)), (big_of 302 (by decide +kernel) (by decide +kernel)), (big_of 303 (by decide +kernel) (by decide +kernel))⟩
theorem cv_X8_74 : CV RX8 74 N_J0_length_8abf5 0 := ⟨cn_J0_length_8abf5, (big_of 287 (by decide +kernel) (by decide +kernel)), (big_of 288 (by decide +kernel) (by decide +kernel)), (big_of 289 (by decide +kernel) (by decide +kernel))⟩
theorem cv_X8_80 : CV RX8 80 N_J0_charAt_5068e 1 := ⟨cn_J0_charAt_5068e, (big_of 297 (by decide +kernel) (by decide +kernel)), (big_of 298 (by decide +kernel) (by decide +kernel)), (big_of 299 (by decide +kernel) (by decide +kernel))⟩
theorem cs_J0_495 : CS RJ0 495 N_J1_charAt_3b067 2 := ⟨cn_J1_charAt_3b067, (big_of 305 (by decide +kernel) (by decide +kernel)), (big_of 306 (by decide +kernel) (by decide +kernel))⟩
theorem cs_J1_9 : CS RJ1 9 N_J0_checkIndex_df160 2 := ⟨cn_J0_checkIndex_df160, (big_of 308 (by decide +kernel) (by decide +kernel)), (big_of 309 (by decide +kernel) (by decide +kernel))⟩
theorem cs_J0_1059 : CS RJ0 1059 N_J3_checkIndex_8e157 3 := ⟨cn_J3_checkIndex_8e157, (big_of 313 (by decide +kernel) (by decide +kernel)), (big_of 314 (by decide +kernel) (by decide +kernel))⟩
theorem kf_38 : Cond.fieldLink RJ0 38 "java/lang/String" "COMPACT_STRINGS" "Z" ∈ big := (big_of 295 (by decide +kernel) (by decide +kernel))
theorem kf_15 : Cond.fieldLink RJ0 15 "java/lang/String" "coder" "B" ∈ big := (big_of 1098 (by decide +kernel) (by decide +kernel))
theorem kf_9 : Cond.fieldLink RJ0 9 "java/lang/String" "value" "[B" ∈ big := (big_of 1097 (by decide +kernel) (by decide +kernel))
theorem kf_1053 : Cond.fieldLink RJ0 1053 "jdk/internal/util/Preconditions" "SIOOBE_FORMATTER" "Ljava/util/function/BiFunction;" ∈ big := (big_of 311 (by decide +kernel) (by decide +kernel))
def tzL : List Nat := [98, 50, 48, 44, 51, 59, 98, 51, 53, 44, 50, 59, 98, 52, 48, 44, 50, 59, 98, 51, 48, 44, 52, 59, 98, 49, 53, 44, 54, 59, 102, 48, 44, 50, 53, 44, 49, 44, 49, 48, 59, 102, 49, 44, 49, 53, 44, 48, 44, 54, 59, 102, 50, 44, 51, 48, 44, 50, 44, 56, 59, 102, 51, 44, 50, 48, 44, 51, 44, 49, 50, 59, 102, 48, 44, 49, 56, 44, 52, 44, 57, 59, 102, 50, 44, 50, 50, 44, 49, 44, 55, 59, 99, 48, 59, 99, 48, 59, 99, 49, 59, 99, 48, 59, 100, 52, 59]
abbrev TXT0 : String := "b20,3;b35,2;b40,2;b30,4;b15,6;f0,25,1,10;f1,15,0,6;f2,30,2,8;f3,20,3,12;f0,18,4,9;f2,22,1,7;c0;c0;c1;c0;d4;"
/-- the letters of the first text -/
def tz (j : Nat) : Nat := tzL.getD j 0
theorem tz_ok : ∀ j, j < 107 → 32 ≤ tz j ∧ tz j ≤ 126 := by decide +kernel
/-- the constant's cells, and what its methods ask for -/
def SF (aS aV : Nat) (A : Nat → Prop) (U : State) (H : Heap) : Prop := va_O "java/lang/String" aS A U H ∧ va_OF "java/lang/String" "coder" "B" (.int 0) aS A U H ∧ va_OF "java/lang/String" "value" "[B" (.ref aV) aS A U H ∧ va_T .byte aV 107 (fun j => .int (nI (tz j))) A U H ∧ va_Z "java/lang/String" "COMPACT_STRINGS" "Z" (.int 1) A U H ∧ va_Zq "jdk/internal/util/Preconditions" "SIOOBE_FORMATTER" "Ljava/util/function/BiFunction;" A U H
theorem SF.moved {aS aV : Nat} {A : Nat → Prop} {u U : State} {H : Heap} (hvm : u.vm.Alike U.vm) (h : SF aS aV A u H) : SF aS aV A U H := ⟨h.1.moved hvm, h.2.1.moved hvm, h.2.2.1.moved hvm, h.2.2.2.1.moved hvm, h.2.2.2.2.1.moved hvm, h.2.2.2.2.2.moved hvm⟩
theorem SF.kept {aS aV : Nat} {A : Nat → Prop} {U : State} {H H1 : Heap} (h : SF aS aV A U H) (hq : ∀ a : Nat, a < H.size → ¬ A a → H1[a]? = H[a]?) : SF aS aV A U H1 := ⟨h.1.kept hq, h.2.1.kept hq, h.2.2.1.kept hq, h.2.2.2.1.kept hq, h.2.2.2.2.1.kept hq, h.2.2.2.2.2.kept hq⟩
theorem SF.narrow {aS aV : Nat} {A B : Nat → Prop} {U : State} {H : Heap} (h : SF aS aV A U H) (hAB : ∀ q, B q → A q) : SF aS aV B U H := ⟨h.1.narrow hAB, h.2.1.narrow hAB, h.2.2.1.narrow hAB, h.2.2.2.1.narrow hAB, h.2.2.2.2.1.narrow hAB, h.2.2.2.2.2.narrow hAB⟩
/-- a method of the constant's -/
def SM (l : Launch) (M : MC) (aS aV : Nat) (av : List Value) (ans : Option Value) : Prop := ∀ sz : Nat, Met l (mnm M) (.code (mnm M) (mby M) (mlo M) (mrt M) :: big) (rmd (mdp M) (mkc M) (mks M)) (va_Pc av (fun U => U.heap.size = sz ∧ SF aS aV (fun q => sz ≤ q) U U.heap)) (fun _ st oc t => oc = .returned ans ∧ va_F (fun q => sz ≤ q) st t) (mkc M) (mks M) (fun q => sz ≤ q)
def SX (M : MC) (p : Program) (s : State) (m : MethodId) (args : Array Value) (meth : Method) (c : Code) : Prop := p.tables.exec = Jvm.exec ∧ c.code = mby M ∧ meth.sig.returnType = mrt M ∧ c.maxLocals = mlo M ∧ s.vm.findClass (mnm M).cls = some m.cls ∧ (∀ w ∈ big, w.before args s = true) ∧ meth.locks = false
/-- the machine within such a method -/
def GS (l : Launch) (M : MC) (aS aV : Nat) (ans : Option Value) (pc : Nat) (av st : List Value) : Prop := ∀ (p : Program) (e : Env) (s : State) (m : MethodId) (args : Array Value) (below : List Frame) (meth : Method) (c : Code) (H : Heap) (locs : List Loc) (la : Array Slot), SX M p s m args meth c → SF aS aV (fun q => s.heap.size ≤ q) s s.heap → va_S (fun q => s.heap.size ≤ q) s.heap H locs → (la.size = mlo M ∧ ∀ (i : Nat) (v : Value), av[i]? = some v → la[i]? = some (.val v)) →
    W p l e (rmd (mdp M) (mkc M) (mks M)) s m args below meth c H locs 0 0 (MQ below (fun _ st oc t => oc = .returned ans ∧ va_F (fun q => st.heap.size ≤ q) st t) args s (mkc M) (mks M) (fun q => s.heap.size ≤ q)) (F0 m pc la st)
theorem sm_of {l : Launch} {M : MC} {aS aV : Nat} {av : List Value} {ans : Option Value} (hp : plainFor (mnm M) = true) (hcat : av.all (fun v => v.category == 1) = true) (hlen : av.length ≤ mlo M) (h : GS l M aS aV ans 0 av []) : SM l M aS aV av ans := by
  intro sz
  refine met_ofF (cc := mby M) (maxL := mlo M) (ret := mrt M) hp rfl ?_
  intro p e s m args below meth c s₁ B hml hv
  obtain ⟨rfl, hsz, hE⟩ := hv
  subst hsz
  have hts := atoms_spec (ws := .code (mnm M) (mby M) (mlo M) (mrt M) :: big) B.pre
  have hc1 : ∀ v ∈ av, v.category = 1 := fun v hv => eq_of_beq (List.all_eq_true.mp hcat v hv)
  have hl := lv_entry av (n := mlo M) (by rw [lg_sl_len _ hc1]; exact hlen)
  rw [lg_entry_eq]
  refine h p e s m _ below meth c s.heap [] _ ⟨B.exec, B.bytes, B.returns, hml, findClass_of_methodNamed B.named, fun w hw => hts w (List.mem_cons_of_mem _ hw), B.notSynchronized⟩ hE va_S.rf ⟨hl.1, fun i v hi => ?_⟩
  have := lv_args_mem av 0 hc1 i v hi
  rw [Nat.zero_add] at this
  exact hl.2.2 _ this
section SR
variable {p : Program} {l : Launch} {e : Env} {R : Room} {s : State} {m : MethodId} {args : Array Value} {below : List Frame} {meth : Method} {c : Code} {H : Heap} {locs : List Loc} {kc ks pc : Nat} {Qs : State → Prop} {la : Array Slot} {st0 rest : List Value} {A : Nat → Prop} {ans : Option Value}
/-- behind such a call: nothing has changed -/
theorem run_backS (hr : va_Run p l e R s m args below meth c H locs kc ks 0 0 (F0 m pc la st0) rest (fun st oc t => oc = .returned ans ∧ va_F (fun q => H.size ≤ q) st t) (fun q => H.size ≤ q)) (hS : va_S A s.heap H locs) (hF : ∀ q, H.size ≤ q → A q)
    (kk : ∀ (H1 : Heap) (locs1 : List Loc), (∀ q : Nat, q < H.size → H1[q]? = H[q]?) → va_S A s.heap H1 locs1 → W p l e R s m args below meth c H1 locs1 kc ks Qs (F0 m (pc + 3) la (ans.toList ++ rest))) :
    W p l e R s m args below meth c H locs kc ks Qs (F0 m pc la st0) := by
  intro T hT X
  obtain ⟨v, st₀, t, T2, L, h0, X2, hL, e1, e2, ⟨hv, hz, hk⟩, st⟩ := hr T hT X
  cases hv
  rw [h0] at hz hk
  obtain ⟨t2, a1, b1⟩ := kk T2.heap (locs ++ L) (fun q h1 => by rw [e1]; exact hk q h1 (Nat.not_le.mpr h1))
    ⟨Nat.le_trans hS.1 (by rw [e1]; exact hz), fun q h1 h2 => by rw [e1, hk q (Nat.lt_of_lt_of_le h1 hS.1) (Nat.not_le.mpr (Nat.lt_of_lt_of_le h1 hS.1))]; exact hS.2.1 q h1 h2, fun q hq => by
      rcases List.mem_append.mp hq with h | h
      · exact hS.2.2 q h
      · exact hF _ (hL q h)⟩ T2 rfl X2
  exact ⟨t2, st t2 a1, b1⟩
end SR
theorem SF.at {aS aV : Nat} {A : Nat → Prop} {s U : State} {H : Heap} {locs : List Loc} (h : SF aS aV A s s.heap) (hS : va_S A s.heap H locs) (hA : ∀ q, H.size ≤ q → A q) (hU : U.heap = H) (hW : s.WarmedH U.vm) : SF aS aV (fun q => H.size ≤ q) U U.heap := by
  rw [hU]
  exact ((h.kept hS.2.1).narrow hA).moved hW.alike
theorem SM_blind {av : List Value} {sz aS aV : Nat} : FrameBlind (va_Pc av (fun U => U.heap.size = sz ∧ SF aS aV (fun q => sz ≤ q) U U.heap)) := fun a U g mk q => ⟨q.1, q.2.1, q.2.2.moved (u := U) (U := U.calling g mk a) (Vm.Alike.refl U.vm)⟩
section SG
variable {l : Launch} {M M1 : MC} {aS aV : Nat} {ans r : Option Value} {pc n ix nA : Nat} {av st rest As : List Value}
theorem s_aload {k : Fin 4} {x : Nat} (hd : decode (mby M) pc = .ok (.aload_n k, 1)) (hl : av[(k : Nat)]? = some (.ref x)) (hn : pc + 1 = n) (kk : GS l M aS aV ans n av (.ref x :: st)) : GS l M aS aV ans pc av st := by
  subst hn
  intro p e s m args below meth c H locs la C hE hS hL
  exact lv_aload_n C.1 C.2.1 hd rfl (hL.2 _ _ hl) (kk p e s m args below meth c H locs la C hE hS hL)
theorem s_iload {k : Fin 4} {x : Int32} (hd : decode (mby M) pc = .ok (.iload_n k, 1)) (hl : av[(k : Nat)]? = some (.int x)) (hn : pc + 1 = n) (kk : GS l M aS aV ans n av (.int x :: st)) : GS l M aS aV ans pc av st := by
  subst hn
  intro p e s m args below meth c H locs la C hE hS hL
  exact lv_iload_n C.1 C.2.1 hd rfl (hL.2 _ _ hl) (kk p e s m args below meth c H locs la C hE hS hL)
theorem s_callV (hcall : CV (mnm M).cls ix M1 nA) (hM : SM l M1 aS aV (.ref aS :: As) r) (hcl : (mnm M1).cls = "java/lang/String") (hd : decode (mby M) pc = .ok (.invokevirtual ix, 3)) (hst : st = As.reverse ++ .ref aS :: rest) (hdp : mdp M1 + 1 ≤ mdp M ∧ mlo M1 ≤ 29 ∧ mkc M1 = 0 ∧ mks M1 = 0) (hna : As.length = nA) (hrs : (rest.map fun v => v.category).sum ≤ 8) (hn : pc + 3 = n) (kk : GS l M aS aV ans n av (r.toList ++ rest)) : GS l M aS aV ans pc av st := by
  subst hn
  subst hst
  obtain ⟨⟨hini, hcode, hy⟩, hlk, him, hsel⟩ := hcall
  obtain ⟨d1, d2, d3, d4⟩ := hdp
  intro p e s m args below meth c H locs la C hE hS hL
  have hts := C.2.2.2.2.2.1
  have h1 := hM H.size
  rw [d3, d4] at h1
  obtain ⟨cell, g1, g2, g3, -⟩ := hE.1.kept hS.2.1
  refine run_backS (rest := rest) (va_runV (C := (mnm M1).cls) (b := aS) (As := As) ⟨C.1, C.2.1, C.2.2.2.1, C.2.2.2.2.1, hts⟩ h1
    ⟨callB_of nA hts (good_big hcode) rfl rfl rfl (hts _ hini) (hts _ hlk) hy ⟨d1, by show 8 + (mlo M1 + 11) + 48 * mdp M1 ≤ 48 * mdp M; omega⟩, hts _ him, hts _ hsel⟩
    ⟨SM_blind, ⟨cell, g1, g2, by rw [hcl]; exact g3⟩, fun U hU hW => ⟨rfl, by rw [hU], hE.at hS (fun q hq => Nat.le_trans hS.1 hq) hU hW⟩⟩
    rfl hna hL.1 rfl (by show 2 * 0 + _ ≤ 8; omega) hd ⟨Nat.zero_le _, Nat.zero_le _⟩) hS (fun q hq => Nat.le_trans hS.1 hq) (fun H1 locs1 _ hS1 => ?_)
  exact kk p e s m args below meth c H1 locs1 la C hE hS1 hL
theorem s_callS (hcall : CS (mnm M).cls ix M1 nA) (hM : SM l M1 aS aV As r) (hd : decode (mby M) pc = .ok (.invokestatic ix, 3)) (hst : st = As.reverse ++ rest) (hdp : mdp M1 + 1 ≤ mdp M ∧ mlo M1 ≤ 29 ∧ mkc M1 = 0 ∧ mks M1 = 0) (hna : As.length = nA) (hrs : (rest.map fun v => v.category).sum ≤ 8) (hn : pc + 3 = n) (kk : GS l M aS aV ans n av (r.toList ++ rest)) : GS l M aS aV ans pc av st := by
  subst hn
  subst hst
  obtain ⟨⟨hini, hcode, hy⟩, hlk, hstt⟩ := hcall
  obtain ⟨d1, d2, d3, d4⟩ := hdp
  intro p e s m args below meth c H locs la C hE hS hL
  have hts := C.2.2.2.2.2.1
  have h1 := hM H.size
  rw [d3, d4] at h1
  refine run_backS (rest := rest) (va_runS (As := As) ⟨C.1, C.2.1, C.2.2.2.1, C.2.2.2.2.1, hts⟩ h1
    ⟨callB_of nA hts (good_big hcode) rfl rfl rfl (hts _ hini) (hts _ hlk) hy ⟨d1, by show 8 + (mlo M1 + 11) + 48 * mdp M1 ≤ 48 * mdp M; omega⟩, hts _ hstt⟩
    ⟨SM_blind, fun U hU hW => ⟨rfl, by rw [hU], hE.at hS (fun q hq => Nat.le_trans hS.1 hq) hU hW⟩⟩
    rfl hna hL.1 rfl (by show 2 * 0 + _ ≤ 8; omega) hd ⟨Nat.zero_le _, Nat.zero_le _⟩) hS (fun q hq => Nat.le_trans hS.1 hq) (fun H1 locs1 _ hS1 => ?_)
  exact kk p e s m args below meth c H1 locs1 la C hE hS1 hL
theorem s_iret {v : Int32} {ty : FieldType} (hd : decode (mby M) pc = .ok (.ireturn, 1)) (hr : mrt M = some ty) (hv : narrow ty (.int v) = .int v) : GS l M aS aV (some (.int v)) pc av [.int v] := by
  intro p e s m args below meth c H locs la C hE hS hL
  refine W.widen (k := mkc M) (n := mks M) (Nat.zero_le _) (Nat.zero_le _) ?_
  exact W.zret (ty := ty) C.1 C.2.1 (C.2.2.1.trans hr) hv (fun t ht hW => ⟨rfl, hS.F ht⟩) hS.2.2 hd C.2.2.2.2.2.2
theorem s_vret (hd : decode (mby M) pc = .ok (.return_, 1)) (hr : mrt M = none) : GS l M aS aV none pc av [] := by
  intro p e s m args below meth c H locs la C hE hS hL
  refine W.widen (k := mkc M) (n := mks M) (Nat.zero_le _) (Nat.zero_le _) ?_
  exact W.vret C.1 C.2.1 (C.2.2.1.trans hr) (fun t ht hW => ⟨rfl, hS.F ht⟩) hS.2.2 hd C.2.2.2.2.2.2
end SG

theorem s_coder (l : Launch) (aS aV : Nat) : SM l N_J0_coder_7d493 aS aV [.ref aS] (some (.int (nI 0))) := by
  refine sm_of (by decide +kernel) rfl (Nat.le_of_ble_eq_true rfl) ?_
  intro p e s m args below meth c H locs la C hE hS hL
  refine va_gets C.1 C.2.1 hE.2.2.2.2.1 hS C.2.2.2.2.1 (C.2.2.2.2.2.1 _ kf_38) (fun _ h => h) dJ0_coder_7d493_0 ?_
  refine lv_if_eq (tgt := 13) C.1 C.2.1 dJ0_coder_7d493_3 (by decide) (fun h => absurd h (by decide)) (fun _ => ?_)
  refine lv_aload_n C.1 C.2.1 dJ0_coder_7d493_6 rfl (hL.2 0 _ rfl) ?_
  refine vk_getf C.1 C.2.1 hE.2.1 hS C.2.2.2.2.1 (C.2.2.2.2.2.1 _ kf_15) (fun _ h => h) dJ0_coder_7d493_7 ?_
  refine lv_goto (tgt := 14) C.1 C.2.1 dJ0_coder_7d493_10 (by decide) ?_
  exact s_iret (M := N_J0_coder_7d493) (av := [.ref aS]) (ty := .byte) dJ0_coder_7d493_14 rfl (by decide) p e s m args below meth c H locs la C hE hS hL
theorem s_isLatin1 (l : Launch) (aS aV : Nat) : SM l N_J0_isLatin1_aae02 aS aV [.ref aS] (some (.int (nI 1))) := by
  refine sm_of (by decide +kernel) rfl (Nat.le_of_ble_eq_true rfl) ?_
  intro p e s m args below meth c H locs la C hE hS hL
  refine va_gets C.1 C.2.1 hE.2.2.2.2.1 hS C.2.2.2.2.1 (C.2.2.2.2.2.1 _ kf_38) (fun _ h => h) dJ0_isLatin1_aae02_0 ?_
  refine lv_if_eq (tgt := 17) C.1 C.2.1 dJ0_isLatin1_aae02_3 (by decide) (fun h => absurd h (by decide)) (fun _ => ?_)
  refine lv_aload_n C.1 C.2.1 dJ0_isLatin1_aae02_6 rfl (hL.2 0 _ rfl) ?_
  refine vk_getf C.1 C.2.1 hE.2.1 hS C.2.2.2.2.1 (C.2.2.2.2.2.1 _ kf_15) (fun _ h => h) dJ0_isLatin1_aae02_7 ?_
  refine lv_if_ne (tgt := 17) C.1 C.2.1 dJ0_isLatin1_aae02_10 (by decide) (fun h => absurd rfl h) (fun _ => ?_)
  refine lv_iconst (v := nI 1) C.1 C.2.1 dJ0_isLatin1_aae02_13 (by decide) ?_
  refine lv_goto (tgt := 18) C.1 C.2.1 dJ0_isLatin1_aae02_14 (by decide) ?_
  exact s_iret (M := N_J0_isLatin1_aae02) (av := [.ref aS]) (ty := .boolean) dJ0_isLatin1_aae02_18 rfl (by decide) p e s m args below meth c H locs la C hE hS hL
theorem s_length (l : Launch) (aS aV : Nat) : SM l N_J0_length_8abf5 aS aV [.ref aS] (some (.int (nI 107))) := by
  refine sm_of (by decide +kernel) rfl (Nat.le_of_ble_eq_true rfl) ?_
  refine s_aload (n := 1) dJ0_length_8abf5_0 rfl rfl ?_
  intro p e s m args below meth c H locs la C hE hS hL
  refine vk_getf C.1 C.2.1 hE.2.2.1 hS C.2.2.2.2.1 (C.2.2.2.2.2.1 _ kf_9) (fun _ h => h) dJ0_length_8abf5_1 ?_
  refine va_tlen (v := nI 107) C.1 C.2.1 hE.2.2.2.1 hS rfl dJ0_length_8abf5_4 ?_
  refine lv_aload_n C.1 C.2.1 dJ0_length_8abf5_5 rfl (hL.2 0 _ rfl) ?_
  refine s_callV (M := N_J0_length_8abf5) (av := [.ref aS]) (n := 9) (As := []) cv_J0_335 (s_coder l aS aV) rfl dJ0_length_8abf5_6 rfl ⟨by decide, by decide, rfl, rfl⟩ rfl (by decide) rfl ?_ p e s m args below meth c H locs la C hE hS hL
  intro p e s m args below meth c H locs la C hE hS hL
  refine lv_ishr C.1 C.2.1 dJ0_length_8abf5_9 ?_
  exact s_iret (M := N_J0_length_8abf5) (av := [.ref aS]) (v := nI 107) (ty := .int) dJ0_length_8abf5_10 rfl rfl p e s m args below meth c H locs la C hE hS hL
theorem s_ci3 (l : Launch) (aS aV : Nat) (i n : Nat) (h : i < n) (hn : n < 2 ^ 31) (v : Value) (hv : v = .null ∨ ∃ t, v = .ref t) : SM l N_J3_checkIndex_8e157 aS aV [.int (nI i), .int (nI n), v] (some (.int (nI i))) := by
  refine sm_of (by decide +kernel) (by rcases hv with rfl | ⟨t, rfl⟩ <;> rfl) (Nat.le_of_ble_eq_true rfl) ?_
  refine s_iload (n := 1) dJ3_checkIndex_8e157_0 rfl rfl ?_
  intro p e s m args below meth c H locs la C hE hS hL
  refine lv_if_lt (tgt := 9) C.1 C.2.1 dJ3_checkIndex_8e157_1 (by decide) (fun q => absurd q (nI_pos (by omega))) (fun _ => ?_)
  refine lv_iload_n C.1 C.2.1 dJ3_checkIndex_8e157_4 rfl (hL.2 0 _ rfl) ?_
  refine lv_iload_n C.1 C.2.1 dJ3_checkIndex_8e157_5 rfl (hL.2 1 _ rfl) ?_
  refine lv_icmp_lt (tgt := 16) C.1 C.2.1 dJ3_checkIndex_8e157_6 (by decide) (fun _ => ?_) (fun q => absurd (nI_lt h hn) q)
  refine lv_iload_n C.1 C.2.1 dJ3_checkIndex_8e157_16 rfl (hL.2 0 _ rfl) ?_
  exact s_iret (M := N_J3_checkIndex_8e157) (av := [.int (nI i), .int (nI n), v]) (ty := .int) dJ3_checkIndex_8e157_17 rfl rfl p e s m args below meth c H locs la C hE hS hL
theorem s_ci (l : Launch) (aS aV : Nat) (i n : Nat) (h : i < n) (hn : n < 2 ^ 31) : SM l N_J0_checkIndex_df160 aS aV [.int (nI i), .int (nI n)] none := by
  refine sm_of (by decide +kernel) rfl (Nat.le_of_ble_eq_true rfl) ?_
  refine s_iload (n := 1) dJ0_checkIndex_df160_0 rfl rfl ?_
  refine s_iload (n := 2) dJ0_checkIndex_df160_1 rfl rfl ?_
  have go : ∀ v : Value, (v = .null ∨ ∃ t, v = .ref t) → GS l N_J0_checkIndex_df160 aS aV none 5 [.int (nI i), .int (nI n)] [v, .int (nI n), .int (nI i)] := fun v hv => by
    refine s_callS (n := 8) (As := [.int (nI i), .int (nI n), v]) cs_J0_1059 (s_ci3 l aS aV i n h hn v hv) dJ0_checkIndex_df160_5 rfl ⟨by decide, by decide, rfl, rfl⟩ rfl (by decide) rfl ?_
    intro p e s m args below meth c H locs la C hE hS hL
    refine lv_pop C.1 C.2.1 dJ0_checkIndex_df160_8 rfl ?_
    exact s_vret (M := N_J0_checkIndex_df160) (av := [.int (nI i), .int (nI n)]) dJ0_checkIndex_df160_9 rfl p e s m args below meth c H locs la C hE hS hL
  intro p e s m args below meth c H locs la C hE hS hL
  rcases hE.2.2.2.2.2 with hz | ⟨t, hz⟩
  · exact va_gets C.1 C.2.1 hz hS C.2.2.2.2.1 (C.2.2.2.2.2.1 _ kf_1053) (fun _ h => h) dJ0_checkIndex_df160_2 (go .null (Or.inl rfl) p e s m args below meth c H locs la C hE hS hL)
  · exact va_gets C.1 C.2.1 hz hS C.2.2.2.2.1 (C.2.2.2.2.2.1 _ kf_1053) (fun _ h => h) dJ0_checkIndex_df160_2 (go (.ref t) (Or.inr ⟨t, rfl⟩) p e s m args below meth c H locs la C hE hS hL)
theorem c_255 : ∀ k, k < 128 → ((nI k &&& nI 255).toUInt32 % 65536).toInt32 = nI k := by decide +kernel
theorem s_char1 (l : Launch) (aS aV : Nat) (i : Nat) (h : i < 107) : SM l N_J1_charAt_3b067 aS aV [.ref aV, .int (nI i)] (some (.int (nI (tz i)))) := by
  have hz := tz_ok i h
  refine sm_of (by decide +kernel) rfl (Nat.le_of_ble_eq_true rfl) ?_
  refine s_iload (n := 1) dJ1_charAt_3b067_0 rfl rfl ?_
  refine s_aload (n := 2) dJ1_charAt_3b067_1 rfl rfl ?_
  intro p e s m args below meth c H locs la C hE hS hL
  refine va_tlen (v := nI 107) C.1 C.2.1 hE.2.2.2.1 hS rfl dJ1_charAt_3b067_2 ?_
  refine s_callS (M := N_J1_charAt_3b067) (av := [.ref aV, .int (nI i)]) (n := 6) (As := [.int (nI i), .int (nI 107)]) cs_J1_9 (s_ci l aS aV i 107 h (by decide)) dJ1_charAt_3b067_3 rfl ⟨by decide, by decide, rfl, rfl⟩ rfl (by decide) rfl ?_ p e s m args below meth c H locs la C hE hS hL
  refine s_aload (n := 7) dJ1_charAt_3b067_6 rfl rfl ?_
  refine s_iload (n := 8) dJ1_charAt_3b067_7 rfl rfl ?_
  intro p e s m args below meth c H locs la C hE hS hL
  refine va_tb (v := .int (nI (tz i))) C.1 C.2.1 hE.2.2.2.1 hS (vp_in_nI h (by decide)) (by rw [nI_clamp (by omega)]) dJ1_charAt_3b067_8 ?_
  refine lv_sipush (v := nI 255) C.1 C.2.1 dJ1_charAt_3b067_9 (by decide) ?_
  refine lv_iand C.1 C.2.1 dJ1_charAt_3b067_12 ?_
  refine lv_i2c C.1 C.2.1 dJ1_charAt_3b067_13 (c_255 (tz i) (by omega)) ?_
  exact s_iret (M := N_J1_charAt_3b067) (av := [.ref aV, .int (nI i)]) (ty := .char) dJ1_charAt_3b067_14 rfl (pk_charN (by omega)).1 p e s m args below meth c H locs la C hE hS hL
theorem s_char (l : Launch) (aS aV : Nat) (i : Nat) (h : i < 107) : SM l N_J0_charAt_5068e aS aV [.ref aS, .int (nI i)] (some (.int (nI (tz i)))) := by
  have hz := tz_ok i h
  refine sm_of (by decide +kernel) rfl (Nat.le_of_ble_eq_true rfl) ?_
  refine s_aload (n := 1) dJ0_charAt_5068e_0 rfl rfl ?_
  refine s_callV (n := 4) (As := []) cv_J0_492 (s_isLatin1 l aS aV) rfl dJ0_charAt_5068e_1 rfl ⟨by decide, by decide, rfl, rfl⟩ rfl (by decide) rfl ?_
  intro p e s m args below meth c H locs la C hE hS hL
  refine lv_if_eq (tgt := 16) C.1 C.2.1 dJ0_charAt_5068e_4 (by decide) (fun h => absurd h (by decide)) (fun _ => ?_)
  refine lv_aload_n C.1 C.2.1 dJ0_charAt_5068e_7 rfl (hL.2 0 _ rfl) ?_
  refine vk_getf C.1 C.2.1 hE.2.2.1 hS C.2.2.2.2.1 (C.2.2.2.2.2.1 _ kf_9) (fun _ h => h) dJ0_charAt_5068e_8 ?_
  refine lv_iload_n C.1 C.2.1 dJ0_charAt_5068e_11 rfl (hL.2 1 _ rfl) ?_
  refine s_callS (M := N_J0_charAt_5068e) (av := [.ref aS, .int (nI i)]) (n := 15) (As := [.ref aV, .int (nI i)]) cs_J0_495 (s_char1 l aS aV i h) dJ0_charAt_5068e_12 rfl ⟨by decide, by decide, rfl, rfl⟩ rfl (by decide) rfl ?_ p e s m args below meth c H locs la C hE hS hL
  exact s_iret (ty := .char) dJ0_charAt_5068e_15 rfl (pk_charN (by omega)).1


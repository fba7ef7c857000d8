/-! 05.rules: an instruction, a rule -/
section RU
variable {l : Launch} {M : MC} {z : Nat × Nat × Nat} {Q : Option Value → List va_E → Prop} {pc n : Nat} {ls : List (Option Value)} {st : List Value} {w : List va_E}
theorem g_iconst {k : Int} {v : Int32} (hd : decode (mby M) pc = .ok (.iconst k, 1)) (hv : Int32.ofInt k = v) (hn : pc + 1 = n) (kk : G l M z Q n ls (.int v :: st) w) : G l M z Q pc ls st w := by
  subst hn
  intro p e s m args below meth c D ct A ad0 ad H locs la C hA h0 h1 hz hP hD hS hL
  exact lv_iconst C.1 C.2.1 hd hv (kk p e s m args below meth c D ct A ad0 ad H locs la C hA h0 h1 hz hP hD hS hL)
theorem g_bipush {k : Int} {v : Int32} (hd : decode (mby M) pc = .ok (.bipush k, 2)) (hv : (Int8.ofInt k).toInt32 = v) (hn : pc + 2 = n) (kk : G l M z Q n ls (.int v :: st) w) : G l M z Q pc ls st w := by
  subst hn
  intro p e s m args below meth c D ct A ad0 ad H locs la C hA h0 h1 hz hP hD hS hL
  exact lv_bipush C.1 C.2.1 hd hv (kk p e s m args below meth c D ct A ad0 ad H locs la C hA h0 h1 hz hP hD hS hL)
theorem g_sipush {k : Int} {v : Int32} (hd : decode (mby M) pc = .ok (.sipush k, 3)) (hv : (Int16.ofInt k).toInt32 = v) (hn : pc + 3 = n) (kk : G l M z Q n ls (.int v :: st) w) : G l M z Q pc ls st w := by
  subst hn
  intro p e s m args below meth c D ct A ad0 ad H locs la C hA h0 h1 hz hP hD hS hL
  exact lv_sipush C.1 C.2.1 hd hv (kk p e s m args below meth c D ct A ad0 ad H locs la C hA h0 h1 hz hP hD hS hL)
theorem g_lconst {k : Fin 2} {v : Int64} (hd : decode (mby M) pc = .ok (.lconst k, 1)) (hv : Int64.ofNat (k : Nat) = v) (hn : pc + 1 = n) (kk : G l M z Q n ls (.long v :: st) w) : G l M z Q pc ls st w := by
  subst hn
  intro p e s m args below meth c D ct A ad0 ad H locs la C hA h0 h1 hz hP hD hS hL
  exact lv_lconst C.1 C.2.1 hd hv (kk p e s m args below meth c D ct A ad0 ad H locs la C hA h0 h1 hz hP hD hS hL)
theorem g_ldc {ix : Nat} {v : Int32} (hd : decode (mby M) pc = .ok (.ldc ix, 2)) (hw : Cond.constant (mnm M).cls ix v ∈ big) (hn : pc + 2 = n) (kk : G l M z Q n ls (.int v :: st) w) : G l M z Q pc ls st w := by
  subst hn
  intro p e s m args below meth c D ct A ad0 ad H locs la C hA h0 h1 hz hP hD hS hL
  exact lv_ldc C.1 C.2.1 C.2.2.2.2.1 (C.2.2.2.2.2.1 _ hw) hd (kk p e s m args below meth c D ct A ad0 ad H locs la C hA h0 h1 hz hP hD hS hL)
theorem g_ldc2 {ix : Nat} {v : Int64} (hd : decode (mby M) pc = .ok (.ldc2_w ix, 3)) (hw : Cond.constantLong (mnm M).cls ix v ∈ big) (hn : pc + 3 = n) (kk : G l M z Q n ls (.long v :: st) w) : G l M z Q pc ls st w := by
  subst hn
  intro p e s m args below meth c D ct A ad0 ad H locs la C hA h0 h1 hz hP hD hS hL
  exact lv_ldc2 C.1 C.2.1 C.2.2.2.2.1 (C.2.2.2.2.2.1 _ hw) hd (kk p e s m args below meth c D ct A ad0 ad H locs la C hA h0 h1 hz hP hD hS hL)
theorem g_iload_n {k : Fin 4} {x : Int32} (hd : decode (mby M) pc = .ok (.iload_n k, 1)) (hl : ls[(k : Nat)]? = some (some (.int x))) (hn : pc + 1 = n) (kk : G l M z Q n ls (.int x :: st) w) : G l M z Q pc ls st w := by
  subst hn
  intro p e s m args below meth c D ct A ad0 ad H locs la C hA h0 h1 hz hP hD hS hL
  exact lv_iload_n C.1 C.2.1 hd rfl (hL.2.2 _ _ hl) (kk p e s m args below meth c D ct A ad0 ad H locs la C hA h0 h1 hz hP hD hS hL)
theorem g_iload {i : Nat} {x : Int32} (hd : decode (mby M) pc = .ok (.iload i, 2)) (hl : ls[i]? = some (some (.int x))) (hn : pc + 2 = n) (kk : G l M z Q n ls (.int x :: st) w) : G l M z Q pc ls st w := by
  subst hn
  intro p e s m args below meth c D ct A ad0 ad H locs la C hA h0 h1 hz hP hD hS hL
  exact lv_iload C.1 C.2.1 hd (hL.2.2 _ _ hl) (kk p e s m args below meth c D ct A ad0 ad H locs la C hA h0 h1 hz hP hD hS hL)
theorem g_lload_n {k : Fin 4} {x : Int64} (hd : decode (mby M) pc = .ok (.lload_n k, 1)) (hl : ls[(k : Nat)]? = some (some (.long x))) (hn : pc + 1 = n) (kk : G l M z Q n ls (.long x :: st) w) : G l M z Q pc ls st w := by
  subst hn
  intro p e s m args below meth c D ct A ad0 ad H locs la C hA h0 h1 hz hP hD hS hL
  exact lv_lload_n C.1 C.2.1 hd rfl (hL.2.2 _ _ hl) (kk p e s m args below meth c D ct A ad0 ad H locs la C hA h0 h1 hz hP hD hS hL)
theorem g_lload {i : Nat} {x : Int64} (hd : decode (mby M) pc = .ok (.lload i, 2)) (hl : ls[i]? = some (some (.long x))) (hn : pc + 2 = n) (kk : G l M z Q n ls (.long x :: st) w) : G l M z Q pc ls st w := by
  subst hn
  intro p e s m args below meth c D ct A ad0 ad H locs la C hA h0 h1 hz hP hD hS hL
  exact lv_lload C.1 C.2.1 hd (hL.2.2 _ _ hl) (kk p e s m args below meth c D ct A ad0 ad H locs la C hA h0 h1 hz hP hD hS hL)
theorem g_aload_n {k : Fin 4} {x : Nat} (hd : decode (mby M) pc = .ok (.aload_n k, 1)) (hl : ls[(k : Nat)]? = some (some (.ref x))) (hn : pc + 1 = n) (kk : G l M z Q n ls (.ref x :: st) w) : G l M z Q pc ls st w := by
  subst hn
  intro p e s m args below meth c D ct A ad0 ad H locs la C hA h0 h1 hz hP hD hS hL
  exact lv_aload_n C.1 C.2.1 hd rfl (hL.2.2 _ _ hl) (kk p e s m args below meth c D ct A ad0 ad H locs la C hA h0 h1 hz hP hD hS hL)
theorem g_aload {i : Nat} {x : Nat} (hd : decode (mby M) pc = .ok (.aload i, 2)) (hl : ls[i]? = some (some (.ref x))) (hn : pc + 2 = n) (kk : G l M z Q n ls (.ref x :: st) w) : G l M z Q pc ls st w := by
  subst hn
  intro p e s m args below meth c D ct A ad0 ad H locs la C hA h0 h1 hz hP hD hS hL
  exact lv_aload C.1 C.2.1 hd (hL.2.2 _ _ hl) (kk p e s m args below meth c D ct A ad0 ad H locs la C hA h0 h1 hz hP hD hS hL)
theorem g_istore_n {k : Fin 4} {x : Int32} (hd : decode (mby M) pc = .ok (.istore_n k, 1)) (hi : (k : Nat) < mlo M) (h2 : nl2 ls k = true) (hn : pc + 1 = n) (kk : G l M z Q n (ls.set k (some (.int x))) st w) : G l M z Q pc ls (.int x :: st) w := by
  subst hn
  intro p e s m args below meth c D ct A ad0 ad H locs la C hA h0 h1 hz hP hD hS hL
  exact lv_istore_n C.1 C.2.1 hd rfl hL.has hi rfl (fun la' h' => kk p e s m args below meth c D ct A ad0 ad H locs la' C hA h0 h1 hz hP hD hS (LR.store1 (v := .int x) h2 h'))
theorem g_istore {i : Nat} {x : Int32} (hd : decode (mby M) pc = .ok (.istore i, 2)) (hi : i < mlo M) (h2 : nl2 ls i = true) (hn : pc + 2 = n) (kk : G l M z Q n (ls.set i (some (.int x))) st w) : G l M z Q pc ls (.int x :: st) w := by
  subst hn
  intro p e s m args below meth c D ct A ad0 ad H locs la C hA h0 h1 hz hP hD hS hL
  exact lv_istore C.1 C.2.1 hd hL.has hi rfl (fun la' h' => kk p e s m args below meth c D ct A ad0 ad H locs la' C hA h0 h1 hz hP hD hS (LR.store1 (v := .int x) h2 h'))
theorem g_astore_n {k : Fin 4} {x : Nat} (hd : decode (mby M) pc = .ok (.astore_n k, 1)) (hi : (k : Nat) < mlo M) (h2 : nl2 ls k = true) (hn : pc + 1 = n) (kk : G l M z Q n (ls.set k (some (.ref x))) st w) : G l M z Q pc ls (.ref x :: st) w := by
  subst hn
  intro p e s m args below meth c D ct A ad0 ad H locs la C hA h0 h1 hz hP hD hS hL
  exact lv_astore_n C.1 C.2.1 hd rfl hL.has hi rfl (fun la' h' => kk p e s m args below meth c D ct A ad0 ad H locs la' C hA h0 h1 hz hP hD hS (LR.store1 (v := .ref x) h2 h'))
theorem g_astore {i : Nat} {x : Nat} (hd : decode (mby M) pc = .ok (.astore i, 2)) (hi : i < mlo M) (h2 : nl2 ls i = true) (hn : pc + 2 = n) (kk : G l M z Q n (ls.set i (some (.ref x))) st w) : G l M z Q pc ls (.ref x :: st) w := by
  subst hn
  intro p e s m args below meth c D ct A ad0 ad H locs la C hA h0 h1 hz hP hD hS hL
  exact lv_astore C.1 C.2.1 hd hL.has hi rfl (fun la' h' => kk p e s m args below meth c D ct A ad0 ad H locs la' C hA h0 h1 hz hP hD hS (LR.store1 (v := .ref x) h2 h'))
theorem g_lstore_n {k : Fin 4} {x : Int64} (hd : decode (mby M) pc = .ok (.lstore_n k, 1)) (hi : (k : Nat) + 1 < mlo M) (h2 : nl2 ls k = true) (hn : pc + 1 = n) (kk : G l M z Q n ((ls.set k (some (.long x))).set (k + 1) none) st w) : G l M z Q pc ls (.long x :: st) w := by
  subst hn
  intro p e s m args below meth c D ct A ad0 ad H locs la C hA h0 h1 hz hP hD hS hL
  exact lv_lstore_n C.1 C.2.1 hd rfl hL.has hi rfl (fun la' h' => kk p e s m args below meth c D ct A ad0 ad H locs la' C hA h0 h1 hz hP hD hS (LR.store2 (v := .long x) h2 h'))
theorem g_lstore {i : Nat} {x : Int64} (hd : decode (mby M) pc = .ok (.lstore i, 2)) (hi : i + 1 < mlo M) (h2 : nl2 ls i = true) (hn : pc + 2 = n) (kk : G l M z Q n ((ls.set i (some (.long x))).set (i + 1) none) st w) : G l M z Q pc ls (.long x :: st) w := by
  subst hn
  intro p e s m args below meth c D ct A ad0 ad H locs la C hA h0 h1 hz hP hD hS hL
  exact lv_lstore C.1 C.2.1 hd hL.has hi rfl (fun la' h' => kk p e s m args below meth c D ct A ad0 ad H locs la' C hA h0 h1 hz hP hD hS (LR.store2 (v := .long x) h2 h'))
theorem g_iinc {i : Nat} {k : Int} {x v : Int32} (hd : decode (mby M) pc = .ok (.iinc i k, 3)) (hl : ls[i]? = some (some (.int x))) (hv : x + Int32.ofInt k = v) (hi : i < mlo M) (h2 : nl2 ls i = true) (hn : pc + 3 = n) (kk : G l M z Q n (ls.set i (some (.int v))) st w) : G l M z Q pc ls st w := by
  subst hn
  intro p e s m args below meth c D ct A ad0 ad H locs la C hA h0 h1 hz hP hD hS hL
  obtain ⟨j, hj⟩ := List.getElem?_of_mem (lpr_mem (ad := ad) hl)
  exact lv_iinc C.1 C.2.1 hd hL.has hj hv hi rfl (fun la' h' => kk p e s m args below meth c D ct A ad0 ad H locs la' C hA h0 h1 hz hP hD hS (LR.store1 (v := .int v) h2 h'))
theorem g_iincN {i : Nat} {x k : Nat} (hd : decode (mby M) pc = .ok (.iinc i (k : Int), 3)) (hl : ls[i]? = some (some (.int (nI x)))) (hi : i < mlo M) (h2 : nl2 ls i = true) (hn : pc + 3 = n) (kk : G l M z Q n (ls.set i (some (.int (nI (x + k))))) st w) : G l M z Q pc ls st w :=
  g_iinc hd hl (by rw [← nI_add]; rfl) hi h2 hn kk
theorem g_iadd {x y : Int32} (hd : decode (mby M) pc = .ok (.iadd, 1)) (hn : pc + 1 = n) (kk : G l M z Q n ls (.int (x + y) :: st) w) : G l M z Q pc ls (.int y :: .int x :: st) w := by
  subst hn
  intro p e s m args below meth c D ct A ad0 ad H locs la C hA h0 h1 hz hP hD hS hL
  exact lv_iadd C.1 C.2.1 hd (kk p e s m args below meth c D ct A ad0 ad H locs la C hA h0 h1 hz hP hD hS hL)
theorem g_isub {x y : Int32} (hd : decode (mby M) pc = .ok (.isub, 1)) (hn : pc + 1 = n) (kk : G l M z Q n ls (.int (x - y) :: st) w) : G l M z Q pc ls (.int y :: .int x :: st) w := by
  subst hn
  intro p e s m args below meth c D ct A ad0 ad H locs la C hA h0 h1 hz hP hD hS hL
  exact lv_isub C.1 C.2.1 hd (kk p e s m args below meth c D ct A ad0 ad H locs la C hA h0 h1 hz hP hD hS hL)
theorem g_imul {x y : Int32} (hd : decode (mby M) pc = .ok (.imul, 1)) (hn : pc + 1 = n) (kk : G l M z Q n ls (.int (x * y) :: st) w) : G l M z Q pc ls (.int y :: .int x :: st) w := by
  subst hn
  intro p e s m args below meth c D ct A ad0 ad H locs la C hA h0 h1 hz hP hD hS hL
  exact lv_imul C.1 C.2.1 hd (kk p e s m args below meth c D ct A ad0 ad H locs la C hA h0 h1 hz hP hD hS hL)
theorem g_iand {x y : Int32} (hd : decode (mby M) pc = .ok (.iand, 1)) (hn : pc + 1 = n) (kk : G l M z Q n ls (.int (x &&& y) :: st) w) : G l M z Q pc ls (.int y :: .int x :: st) w := by
  subst hn
  intro p e s m args below meth c D ct A ad0 ad H locs la C hA h0 h1 hz hP hD hS hL
  exact lv_iand C.1 C.2.1 hd (kk p e s m args below meth c D ct A ad0 ad H locs la C hA h0 h1 hz hP hD hS hL)
theorem g_ior {x y : Int32} (hd : decode (mby M) pc = .ok (.ior, 1)) (hn : pc + 1 = n) (kk : G l M z Q n ls (.int (x ||| y) :: st) w) : G l M z Q pc ls (.int y :: .int x :: st) w := by
  subst hn
  intro p e s m args below meth c D ct A ad0 ad H locs la C hA h0 h1 hz hP hD hS hL
  exact lv_ior C.1 C.2.1 hd (kk p e s m args below meth c D ct A ad0 ad H locs la C hA h0 h1 hz hP hD hS hL)
theorem g_ixor {x y : Int32} (hd : decode (mby M) pc = .ok (.ixor, 1)) (hn : pc + 1 = n) (kk : G l M z Q n ls (.int (x ^^^ y) :: st) w) : G l M z Q pc ls (.int y :: .int x :: st) w := by
  subst hn
  intro p e s m args below meth c D ct A ad0 ad H locs la C hA h0 h1 hz hP hD hS hL
  exact lv_ixor C.1 C.2.1 hd (kk p e s m args below meth c D ct A ad0 ad H locs la C hA h0 h1 hz hP hD hS hL)
theorem g_ishl {x y : Int32} (hd : decode (mby M) pc = .ok (.ishl, 1)) (hn : pc + 1 = n) (kk : G l M z Q n ls (.int (x <<< (y &&& 31)) :: st) w) : G l M z Q pc ls (.int y :: .int x :: st) w := by
  subst hn
  intro p e s m args below meth c D ct A ad0 ad H locs la C hA h0 h1 hz hP hD hS hL
  exact lv_ishl C.1 C.2.1 hd (kk p e s m args below meth c D ct A ad0 ad H locs la C hA h0 h1 hz hP hD hS hL)
theorem g_ishr {x y : Int32} (hd : decode (mby M) pc = .ok (.ishr, 1)) (hn : pc + 1 = n) (kk : G l M z Q n ls (.int (x >>> (y &&& 31)) :: st) w) : G l M z Q pc ls (.int y :: .int x :: st) w := by
  subst hn
  intro p e s m args below meth c D ct A ad0 ad H locs la C hA h0 h1 hz hP hD hS hL
  exact lv_ishr C.1 C.2.1 hd (kk p e s m args below meth c D ct A ad0 ad H locs la C hA h0 h1 hz hP hD hS hL)
theorem g_iushr {x y : Int32} (hd : decode (mby M) pc = .ok (.iushr, 1)) (hn : pc + 1 = n) (kk : G l M z Q n ls (.int ((x.toUInt32 >>> (y.toUInt32 &&& Int32.toUInt32 31)).toInt32) :: st) w) : G l M z Q pc ls (.int y :: .int x :: st) w := by
  subst hn
  intro p e s m args below meth c D ct A ad0 ad H locs la C hA h0 h1 hz hP hD hS hL
  exact lv_iushr C.1 C.2.1 hd rfl (kk p e s m args below meth c D ct A ad0 ad H locs la C hA h0 h1 hz hP hD hS hL)
theorem g_idiv {x y : Int32} (hd : decode (mby M) pc = .ok (.idiv, 1)) (hy : ¬ y = 0) (hn : pc + 1 = n) (kk : G l M z Q n ls (.int (x / y) :: st) w) : G l M z Q pc ls (.int y :: .int x :: st) w := by
  subst hn
  intro p e s m args below meth c D ct A ad0 ad H locs la C hA h0 h1 hz hP hD hS hL
  exact lv_idiv C.1 C.2.1 hd hy (kk p e s m args below meth c D ct A ad0 ad H locs la C hA h0 h1 hz hP hD hS hL)
theorem g_irem {x y : Int32} (hd : decode (mby M) pc = .ok (.irem, 1)) (hy : ¬ y = 0) (hn : pc + 1 = n) (kk : G l M z Q n ls (.int (x - x / y * y) :: st) w) : G l M z Q pc ls (.int y :: .int x :: st) w := by
  subst hn
  intro p e s m args below meth c D ct A ad0 ad H locs la C hA h0 h1 hz hP hD hS hL
  exact lv_irem C.1 C.2.1 hd hy (kk p e s m args below meth c D ct A ad0 ad H locs la C hA h0 h1 hz hP hD hS hL)
theorem g_ineg {x : Int32} (hd : decode (mby M) pc = .ok (.ineg, 1)) (hn : pc + 1 = n) (kk : G l M z Q n ls (.int (-x) :: st) w) : G l M z Q pc ls (.int x :: st) w := by
  subst hn
  intro p e s m args below meth c D ct A ad0 ad H locs la C hA h0 h1 hz hP hD hS hL
  exact lv_ineg C.1 C.2.1 hd (kk p e s m args below meth c D ct A ad0 ad H locs la C hA h0 h1 hz hP hD hS hL)
theorem g_ladd {x y : Int64} (hd : decode (mby M) pc = .ok (.ladd, 1)) (hn : pc + 1 = n) (kk : G l M z Q n ls (.long (x + y) :: st) w) : G l M z Q pc ls (.long y :: .long x :: st) w := by
  subst hn
  intro p e s m args below meth c D ct A ad0 ad H locs la C hA h0 h1 hz hP hD hS hL
  exact lv_ladd C.1 C.2.1 hd (kk p e s m args below meth c D ct A ad0 ad H locs la C hA h0 h1 hz hP hD hS hL)
theorem g_lmul {x y : Int64} (hd : decode (mby M) pc = .ok (.lmul, 1)) (hn : pc + 1 = n) (kk : G l M z Q n ls (.long (x * y) :: st) w) : G l M z Q pc ls (.long y :: .long x :: st) w := by
  subst hn
  intro p e s m args below meth c D ct A ad0 ad H locs la C hA h0 h1 hz hP hD hS hL
  exact lv_lmul C.1 C.2.1 hd (kk p e s m args below meth c D ct A ad0 ad H locs la C hA h0 h1 hz hP hD hS hL)
theorem g_lrem {x y : Int64} (hd : decode (mby M) pc = .ok (.lrem, 1)) (hy : ¬ y = 0) (hn : pc + 1 = n) (kk : G l M z Q n ls (.long (x - x / y * y) :: st) w) : G l M z Q pc ls (.long y :: .long x :: st) w := by
  subst hn
  intro p e s m args below meth c D ct A ad0 ad H locs la C hA h0 h1 hz hP hD hS hL
  exact lv_lrem C.1 C.2.1 hd hy (kk p e s m args below meth c D ct A ad0 ad H locs la C hA h0 h1 hz hP hD hS hL)
theorem g_i2l {x : Int32} (hd : decode (mby M) pc = .ok (.i2l, 1)) (hn : pc + 1 = n) (kk : G l M z Q n ls (.long x.toInt64 :: st) w) : G l M z Q pc ls (.int x :: st) w := by
  subst hn
  intro p e s m args below meth c D ct A ad0 ad H locs la C hA h0 h1 hz hP hD hS hL
  exact lv_i2l C.1 C.2.1 hd rfl (kk p e s m args below meth c D ct A ad0 ad H locs la C hA h0 h1 hz hP hD hS hL)
theorem g_l2i {x : Int64} (hd : decode (mby M) pc = .ok (.l2i, 1)) (hn : pc + 1 = n) (kk : G l M z Q n ls (.int x.toInt32 :: st) w) : G l M z Q pc ls (.long x :: st) w := by
  subst hn
  intro p e s m args below meth c D ct A ad0 ad H locs la C hA h0 h1 hz hP hD hS hL
  exact lv_l2i C.1 C.2.1 hd rfl (kk p e s m args below meth c D ct A ad0 ad H locs la C hA h0 h1 hz hP hD hS hL)
theorem g_i2c {x : Int32} (hd : decode (mby M) pc = .ok (.i2c, 1)) (hn : pc + 1 = n) (kk : G l M z Q n ls (.int (x.toUInt32 % 65536).toInt32 :: st) w) : G l M z Q pc ls (.int x :: st) w := by
  subst hn
  intro p e s m args below meth c D ct A ad0 ad H locs la C hA h0 h1 hz hP hD hS hL
  exact lv_i2c C.1 C.2.1 hd rfl (kk p e s m args below meth c D ct A ad0 ad H locs la C hA h0 h1 hz hP hD hS hL)
theorem g_dup {v : Value} (hd : decode (mby M) pc = .ok (.dup, 1)) (hv : v.category = 1) (hn : pc + 1 = n) (kk : G l M z Q n ls (v :: v :: st) w) : G l M z Q pc ls (v :: st) w := by
  subst hn
  intro p e s m args below meth c D ct A ad0 ad H locs la C hA h0 h1 hz hP hD hS hL
  exact lv_dup C.1 C.2.1 hd ((rv_cat ad v).trans hv) (kk p e s m args below meth c D ct A ad0 ad H locs la C hA h0 h1 hz hP hD hS hL)
theorem g_pop {v : Value} (hd : decode (mby M) pc = .ok (.pop, 1)) (hv : v.category = 1) (hn : pc + 1 = n) (kk : G l M z Q n ls st w) : G l M z Q pc ls (v :: st) w := by
  subst hn
  intro p e s m args below meth c D ct A ad0 ad H locs la C hA h0 h1 hz hP hD hS hL
  exact lv_pop C.1 C.2.1 hd ((rv_cat ad v).trans hv) (kk p e s m args below meth c D ct A ad0 ad H locs la C hA h0 h1 hz hP hD hS hL)
theorem g_dup2 {v u : Value} (hd : decode (mby M) pc = .ok (.dup2, 1)) (hv : v.category = 1) (hu : u.category = 1) (hn : pc + 1 = n) (kk : G l M z Q n ls (v :: u :: v :: u :: st) w) : G l M z Q pc ls (v :: u :: st) w := by
  subst hn
  intro p e s m args below meth c D ct A ad0 ad H locs la C hA h0 h1 hz hP hD hS hL
  exact lv_dup2_11 C.1 C.2.1 hd ((rv_cat ad v).trans hv) ((rv_cat ad u).trans hu) (kk p e s m args below meth c D ct A ad0 ad H locs la C hA h0 h1 hz hP hD hS hL)
theorem g_if_eq {x : Int32} {off : Int} {tgt : Nat} (hd : decode (mby M) pc = .ok (.ifCond .eq off, 3)) (ht : (pc : Int) + off = (tgt : Int)) (hn : pc + 3 = n) (kt : x = 0 → G l M z Q tgt ls st w) (kf : ¬ x = 0 → G l M z Q n ls st w) : G l M z Q pc ls (.int x :: st) w := by
  subst hn
  intro p e s m args below meth c D ct A ad0 ad H locs la C hA h0 h1 hz hP hD hS hL
  exact lv_if_eq C.1 C.2.1 hd ht (fun q => kt q p e s m args below meth c D ct A ad0 ad H locs la C hA h0 h1 hz hP hD hS hL) (fun q => kf q p e s m args below meth c D ct A ad0 ad H locs la C hA h0 h1 hz hP hD hS hL)
theorem g_icmp_eq {x y : Int32} {off : Int} {tgt : Nat} (hd : decode (mby M) pc = .ok (.if_icmp .eq off, 3)) (ht : (pc : Int) + off = (tgt : Int)) (hn : pc + 3 = n) (kt : x = y → G l M z Q tgt ls st w) (kf : ¬ x = y → G l M z Q n ls st w) : G l M z Q pc ls (.int y :: .int x :: st) w := by
  subst hn
  intro p e s m args below meth c D ct A ad0 ad H locs la C hA h0 h1 hz hP hD hS hL
  exact lv_icmp_eq C.1 C.2.1 hd ht (fun q => kt q p e s m args below meth c D ct A ad0 ad H locs la C hA h0 h1 hz hP hD hS hL) (fun q => kf q p e s m args below meth c D ct A ad0 ad H locs la C hA h0 h1 hz hP hD hS hL)
theorem g_if_ne {x : Int32} {off : Int} {tgt : Nat} (hd : decode (mby M) pc = .ok (.ifCond .ne off, 3)) (ht : (pc : Int) + off = (tgt : Int)) (hn : pc + 3 = n) (kt : ¬ x = 0 → G l M z Q tgt ls st w) (kf : x = 0 → G l M z Q n ls st w) : G l M z Q pc ls (.int x :: st) w := by
  subst hn
  intro p e s m args below meth c D ct A ad0 ad H locs la C hA h0 h1 hz hP hD hS hL
  exact lv_if_ne C.1 C.2.1 hd ht (fun q => kt q p e s m args below meth c D ct A ad0 ad H locs la C hA h0 h1 hz hP hD hS hL) (fun q => kf q p e s m args below meth c D ct A ad0 ad H locs la C hA h0 h1 hz hP hD hS hL)
theorem g_icmp_ne {x y : Int32} {off : Int} {tgt : Nat} (hd : decode (mby M) pc = .ok (.if_icmp .ne off, 3)) (ht : (pc : Int) + off = (tgt : Int)) (hn : pc + 3 = n) (kt : ¬ x = y → G l M z Q tgt ls st w) (kf : x = y → G l M z Q n ls st w) : G l M z Q pc ls (.int y :: .int x :: st) w := by
  subst hn
  intro p e s m args below meth c D ct A ad0 ad H locs la C hA h0 h1 hz hP hD hS hL
  exact lv_icmp_ne C.1 C.2.1 hd ht (fun q => kt q p e s m args below meth c D ct A ad0 ad H locs la C hA h0 h1 hz hP hD hS hL) (fun q => kf q p e s m args below meth c D ct A ad0 ad H locs la C hA h0 h1 hz hP hD hS hL)
theorem g_if_lt {x : Int32} {off : Int} {tgt : Nat} (hd : decode (mby M) pc = .ok (.ifCond .lt off, 3)) (ht : (pc : Int) + off = (tgt : Int)) (hn : pc + 3 = n) (kt : x < 0 → G l M z Q tgt ls st w) (kf : ¬ x < 0 → G l M z Q n ls st w) : G l M z Q pc ls (.int x :: st) w := by
  subst hn
  intro p e s m args below meth c D ct A ad0 ad H locs la C hA h0 h1 hz hP hD hS hL
  exact lv_if_lt C.1 C.2.1 hd ht (fun q => kt q p e s m args below meth c D ct A ad0 ad H locs la C hA h0 h1 hz hP hD hS hL) (fun q => kf q p e s m args below meth c D ct A ad0 ad H locs la C hA h0 h1 hz hP hD hS hL)
theorem g_icmp_lt {x y : Int32} {off : Int} {tgt : Nat} (hd : decode (mby M) pc = .ok (.if_icmp .lt off, 3)) (ht : (pc : Int) + off = (tgt : Int)) (hn : pc + 3 = n) (kt : x < y → G l M z Q tgt ls st w) (kf : ¬ x < y → G l M z Q n ls st w) : G l M z Q pc ls (.int y :: .int x :: st) w := by
  subst hn
  intro p e s m args below meth c D ct A ad0 ad H locs la C hA h0 h1 hz hP hD hS hL
  exact lv_icmp_lt C.1 C.2.1 hd ht (fun q => kt q p e s m args below meth c D ct A ad0 ad H locs la C hA h0 h1 hz hP hD hS hL) (fun q => kf q p e s m args below meth c D ct A ad0 ad H locs la C hA h0 h1 hz hP hD hS hL)
theorem g_if_ge {x : Int32} {off : Int} {tgt : Nat} (hd : decode (mby M) pc = .ok (.ifCond .ge off, 3)) (ht : (pc : Int) + off = (tgt : Int)) (hn : pc + 3 = n) (kt : 0 ≤ x → G l M z Q tgt ls st w) (kf : ¬ 0 ≤ x → G l M z Q n ls st w) : G l M z Q pc ls (.int x :: st) w := by
  subst hn
  intro p e s m args below meth c D ct A ad0 ad H locs la C hA h0 h1 hz hP hD hS hL
  exact lv_if_ge C.1 C.2.1 hd ht (fun q => kt q p e s m args below meth c D ct A ad0 ad H locs la C hA h0 h1 hz hP hD hS hL) (fun q => kf q p e s m args below meth c D ct A ad0 ad H locs la C hA h0 h1 hz hP hD hS hL)
theorem g_icmp_ge {x y : Int32} {off : Int} {tgt : Nat} (hd : decode (mby M) pc = .ok (.if_icmp .ge off, 3)) (ht : (pc : Int) + off = (tgt : Int)) (hn : pc + 3 = n) (kt : y ≤ x → G l M z Q tgt ls st w) (kf : ¬ y ≤ x → G l M z Q n ls st w) : G l M z Q pc ls (.int y :: .int x :: st) w := by
  subst hn
  intro p e s m args below meth c D ct A ad0 ad H locs la C hA h0 h1 hz hP hD hS hL
  exact lv_icmp_ge C.1 C.2.1 hd ht (fun q => kt q p e s m args below meth c D ct A ad0 ad H locs la C hA h0 h1 hz hP hD hS hL) (fun q => kf q p e s m args below meth c D ct A ad0 ad H locs la C hA h0 h1 hz hP hD hS hL)
theorem g_if_gt {x : Int32} {off : Int} {tgt : Nat} (hd : decode (mby M) pc = .ok (.ifCond .gt off, 3)) (ht : (pc : Int) + off = (tgt : Int)) (hn : pc + 3 = n) (kt : 0 < x → G l M z Q tgt ls st w) (kf : ¬ 0 < x → G l M z Q n ls st w) : G l M z Q pc ls (.int x :: st) w := by
  subst hn
  intro p e s m args below meth c D ct A ad0 ad H locs la C hA h0 h1 hz hP hD hS hL
  exact lv_if_gt C.1 C.2.1 hd ht (fun q => kt q p e s m args below meth c D ct A ad0 ad H locs la C hA h0 h1 hz hP hD hS hL) (fun q => kf q p e s m args below meth c D ct A ad0 ad H locs la C hA h0 h1 hz hP hD hS hL)
theorem g_icmp_gt {x y : Int32} {off : Int} {tgt : Nat} (hd : decode (mby M) pc = .ok (.if_icmp .gt off, 3)) (ht : (pc : Int) + off = (tgt : Int)) (hn : pc + 3 = n) (kt : y < x → G l M z Q tgt ls st w) (kf : ¬ y < x → G l M z Q n ls st w) : G l M z Q pc ls (.int y :: .int x :: st) w := by
  subst hn
  intro p e s m args below meth c D ct A ad0 ad H locs la C hA h0 h1 hz hP hD hS hL
  exact lv_icmp_gt C.1 C.2.1 hd ht (fun q => kt q p e s m args below meth c D ct A ad0 ad H locs la C hA h0 h1 hz hP hD hS hL) (fun q => kf q p e s m args below meth c D ct A ad0 ad H locs la C hA h0 h1 hz hP hD hS hL)
theorem g_if_le {x : Int32} {off : Int} {tgt : Nat} (hd : decode (mby M) pc = .ok (.ifCond .le off, 3)) (ht : (pc : Int) + off = (tgt : Int)) (hn : pc + 3 = n) (kt : x ≤ 0 → G l M z Q tgt ls st w) (kf : ¬ x ≤ 0 → G l M z Q n ls st w) : G l M z Q pc ls (.int x :: st) w := by
  subst hn
  intro p e s m args below meth c D ct A ad0 ad H locs la C hA h0 h1 hz hP hD hS hL
  exact lv_if_le C.1 C.2.1 hd ht (fun q => kt q p e s m args below meth c D ct A ad0 ad H locs la C hA h0 h1 hz hP hD hS hL) (fun q => kf q p e s m args below meth c D ct A ad0 ad H locs la C hA h0 h1 hz hP hD hS hL)
theorem g_icmp_le {x y : Int32} {off : Int} {tgt : Nat} (hd : decode (mby M) pc = .ok (.if_icmp .le off, 3)) (ht : (pc : Int) + off = (tgt : Int)) (hn : pc + 3 = n) (kt : x ≤ y → G l M z Q tgt ls st w) (kf : ¬ x ≤ y → G l M z Q n ls st w) : G l M z Q pc ls (.int y :: .int x :: st) w := by
  subst hn
  intro p e s m args below meth c D ct A ad0 ad H locs la C hA h0 h1 hz hP hD hS hL
  exact lv_icmp_le C.1 C.2.1 hd ht (fun q => kt q p e s m args below meth c D ct A ad0 ad H locs la C hA h0 h1 hz hP hD hS hL) (fun q => kf q p e s m args below meth c D ct A ad0 ad H locs la C hA h0 h1 hz hP hD hS hL)
theorem g_goto {off : Int} {tgt : Nat} (hd : decode (mby M) pc = .ok (.goto off, 3)) (ht : (pc : Int) + off = (tgt : Int)) (kk : G l M z Q tgt ls st w) : G l M z Q pc ls st w := by
  intro p e s m args below meth c D ct A ad0 ad H locs la C hA h0 h1 hz hP hD hS hL
  exact lv_goto C.1 C.2.1 hd ht (kk p e s m args below meth c D ct A ad0 ad H locs la C hA h0 h1 hz hP hD hS hL)
theorem g_lookup {dflt : Int} {ps : Array (Int × Int)} {len : Nat} {x : Int32} {off : Int} {tgt : Nat} (hd : decode (mby M) pc = .ok (.lookupswitch dflt ps, len)) (hp : (ps.toList.zip (ps.toList.drop 1)).all (fun (a, next) => a.1 < next.1) = true) (ho : Op.lookupswitch.offset ps.toList dflt x.toInt = off) (ht : (pc : Int) + off = (tgt : Int)) (kk : G l M z Q tgt ls st w) : G l M z Q pc ls (.int x :: st) w := by
  intro p e s m args below meth c D ct A ad0 ad H locs la C hA h0 h1 hz hP hD hS hL
  exact lv_lookup C.1 C.2.1 hd hp ho ht (kk p e s m args below meth c D ct A ad0 ad H locs la C hA h0 h1 hz hP hD hS hL)
theorem g_tableOut {dflt lo hi : Int} {offs : Array Int} {len : Nat} {x : Int32} {tgt : Nat} (hd : decode (mby M) pc = .ok (.tableswitch dflt lo hi offs, len)) (h : x.toInt < lo ∨ hi < x.toInt) (ht : (pc : Int) + dflt = (tgt : Int)) (kk : G l M z Q tgt ls st w) : G l M z Q pc ls (.int x :: st) w := by
  intro p e s m args below meth c D ct A ad0 ad H locs la C hA h0 h1 hz hP hD hS hL
  exact lv_tableOut C.1 C.2.1 hd h ht (kk p e s m args below meth c D ct A ad0 ad H locs la C hA h0 h1 hz hP hD hS hL)
theorem g_tableIn {dflt lo hi : Int} {offs : Array Int} {len : Nat} {x : Int32} {off : Int} {tgt : Nat} (hd : decode (mby M) pc = .ok (.tableswitch dflt lo hi offs, len)) (g1 : ¬ x.toInt < lo) (g2 : ¬ hi < x.toInt) (ho : offs[(x.toInt - lo).toNat]? = some off) (ht : (pc : Int) + off = (tgt : Int)) (kk : G l M z Q tgt ls st w) : G l M z Q pc ls (.int x :: st) w := by
  intro p e s m args below meth c D ct A ad0 ad H locs la C hA h0 h1 hz hP hD hS hL
  exact lv_tableIn C.1 C.2.1 hd g1 g2 ho ht (kk p e s m args below meth c D ct A ad0 ad H locs la C hA h0 h1 hz hP hD hS hL)
theorem g_top {x y : Int32} (h : x = y) (kk : G l M z Q pc ls (.int y :: st) w) : G l M z Q pc ls (.int x :: st) w := h ▸ kk
theorem g_iaddN {x y : Nat} (hd : decode (mby M) pc = .ok (.iadd, 1)) (hn : pc + 1 = n) (kk : G l M z Q n ls (.int (nI (x + y)) :: st) w) : G l M z Q pc ls (.int (nI y) :: .int (nI x) :: st) w := g_iadd hd hn (g_top (nI_add x y) kk)
theorem g_isubN {x y : Nat} (hd : decode (mby M) pc = .ok (.isub, 1)) (hn : pc + 1 = n) (hxy : y ≤ x) (kk : G l M z Q n ls (.int (nI (x - y)) :: st) w) : G l M z Q pc ls (.int (nI y) :: .int (nI x) :: st) w := g_isub hd hn (g_top (pk_sub hxy) kk)
theorem g_imulN {x y : Nat} (hd : decode (mby M) pc = .ok (.imul, 1)) (hn : pc + 1 = n) (kk : G l M z Q n ls (.int (nI (x * y)) :: st) w) : G l M z Q pc ls (.int (nI y) :: .int (nI x) :: st) w := g_imul hd hn (g_top (pk_mul x y) kk)
theorem g_iret {v : Int32} {ty : FieldType} (hd : decode (mby M) pc = .ok (.ireturn, 1)) (hr : mrt M = some ty) (hv : narrow ty (.int v) = .int v) (hc : z.2.1 ≤ mkc M ∧ z.2.2 ≤ mks M) (hq : Q (some (.int v)) w) : G l M z Q pc ls [.int v] w := by
  intro p e s m args below meth c D ct A ad0 ad H locs la C hA h0 h1 hz hP hD hS hL
  refine W.widen (k := mkc M) (n := mks M) hc.1 hc.2 ?_
  exact W.zret (ty := ty) C.1 C.2.1 (C.2.2.1.trans hr) hv (fun t ht hW => ⟨⟨some (.int v), w, ad, rfl, hq, h0, fun q => h1 (Nat.le_zero.mp (q ▸ hc.1)), by rw [ht]; exact hP, hD⟩, hS.F ht⟩) hS.2.2 hd C.2.2.2.2.2.2.1
theorem g_vret (hd : decode (mby M) pc = .ok (.return_, 1)) (hr : mrt M = none) (hc : z.2.1 ≤ mkc M ∧ z.2.2 ≤ mks M) (hq : Q none w) : G l M z Q pc ls [] w := by
  intro p e s m args below meth c D ct A ad0 ad H locs la C hA h0 h1 hz hP hD hS hL
  refine W.widen (k := mkc M) (n := mks M) hc.1 hc.2 ?_
  exact W.vret C.1 C.2.1 (C.2.2.1.trans hr) (fun t ht hW => ⟨⟨none, w, ad, rfl, hq, h0, fun q => h1 (Nat.le_zero.mp (q ▸ hc.1)), by rw [ht]; exact hP, hD⟩, hS.F ht⟩) hS.2.2 hd C.2.2.2.2.2.2.1
end RU

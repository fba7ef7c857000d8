/-! 57.hrules: the machine at a frame, with a premise on the start; rules, as for G -/
def GE (E : State → (Nat → Prop) → Prop) (l : Launch) (M : MC) (z : Nat × Nat × Nat) (Q : Option Value → List va_E → Prop) (pc : Nat) (ls : List (Option Value)) (st : List Value) (w : List va_E) : Prop :=
  ∀ (p : Program) (e : Env) (s : State) (m : MethodId) (args : Array Value) (below : List Frame) (meth : Method) (c : Code) (D : va_G) (ct : Nat → Nat) (A : Nat → Prop) (ad0 ad : Nat → Nat) (H : Heap) (locs : List Loc) (la : Array Slot),
    E s A → Cx M p s m args meth c D ct → (∀ q, s.heap.size ≤ q → A q) → (∀ i, i < z.1 → ad i = ad0 i) → (z.2.1 = 0 → ad = ad0) → z.1 ≤ w.length → va_P D vwCl (wa ct ad w) H → va_D A (wa ct ad w) → va_S A s.heap H locs → LR ad (mlo M) ls la →
    W p l e (rmd (mdp M) (mkc M) (mks M)) s m args below meth c H locs z.2.1 z.2.2 (MQ below (Qm D ct A ad0 z.1 (mkc M) Q) args s (mkc M) (mks M) A) (F0 m pc la (st.map (rv ad)))
def ConE (E : State → (Nat → Prop) → Prop) (l : Launch) (M : MC) (av : List Value) (w : List va_E) (Q : Option Value → List va_E → Prop) : Prop :=
  ∀ (D : va_G) (ct ad : Nat → Nat) (sz : Nat), Met l (mnm M) (.code (mnm M) (mby M) (mlo M) (mrt M) :: big) (rmd (mdp M) (mkc M) (mks M)) (fun a U => Pm D ct ad sz av w a U ∧ E U (va_A (wa ct ad w) sz)) (Qm D ct (va_A (wa ct ad w) sz) ad w.length (mkc M) Q) (mkc M) (mks M) (va_A (wa ct ad w) sz)
theorem con_ofE {E : State → (Nat → Prop) → Prop} {l : Launch} {M : MC} {av : List Value} {w : List va_E} {Q : Option Value → List va_E → Prop} (hp : plainName (mnm M).cls = true) (hcat : av.all (fun v => v.category == 1) = true) (hlen : av.length ≤ mlo M)
    (h : GE E l M (w.length, 0, 0) Q 0 (av.map some ++ List.replicate (mlo M - av.length) none) [] w) : ConE E l M av w Q := by
  intro D ct ad sz
  refine Met.ofW (cc := mby M) (maxL := mlo M) (ret := mrt M) hp rfl ?_
  intro p e s m args below meth c s₁ B hml hv
  obtain ⟨⟨rfl, hsz, hP, hK, hD0⟩, hE⟩ := hv
  subst hsz
  have hts := atoms_spec (ws := .code (mnm M) (mby M) (mlo M) (mrt M) :: big) B.pre
  have hc1 : ∀ v ∈ av.map (rv ad), v.category = 1 := by
    intro v hv
    obtain ⟨u, hu, rfl⟩ := List.mem_map.mp hv
    rw [rv_cat]
    exact eq_of_beq (List.all_eq_true.mp hcat u hu)
  have hl := lv_entry (av.map (rv ad)) (n := mlo M) (by rw [lg_sl_len _ hc1, List.length_map]; exact hlen)
  rw [lg_entry_eq]
  refine h p e s m _ below meth c D ct _ ad ad s.heap [] _ hE ⟨B.exec, B.bytes, B.returns, hml, findClass_of_methodNamed B.named, fun w hw => hts w (List.mem_cons_of_mem _ hw), B.notSynchronized, (name_of_methodNamed B.named B.method).1, hK⟩ (fun q h => Or.inr h) (fun _ _ => rfl) (fun _ => rfl) (Nat.le_refl _) hP hD0.self va_S.rf ⟨hl.1, hl.2.1, fun i v hi => ?_⟩
  have hi2 : av[i]? = some v := by
    by_cases hil : i < av.length
    · rw [List.getElem?_append_left (by simpa using hil), List.getElem?_map] at hi
      cases hx : av[i]? with
      | none => rw [hx] at hi; cases hi
      | some u => rw [hx] at hi; cases hi; rfl
    · rw [List.getElem?_append_right (by simpa using hil)] at hi
      have := List.mem_of_getElem? hi
      rw [List.mem_replicate] at this
      cases this.2
  have := lv_args_mem (av.map (rv ad)) 0 hc1 i (rv ad v) (by rw [List.getElem?_map, hi2]; rfl)
  rw [Nat.zero_add] at this
  exact hl.2.2 _ this
section HR
variable {E : State → (Nat → Prop) → Prop} {l : Launch} {M M1 M' : MC} {z : Nat × Nat × Nat} {Q Q' : Option Value → List va_E → Prop} {pc n ix nA a k : Nat} {ls : List (Option Value)} {st rest : List Value} {w cw cw' w' news : List va_E} {x0 y0 : va_E} {ps : List Nat} {cav : List Value}
theorem h_aload_n {k : Fin 4} {x : Nat} (hd : decode (mby M) pc = .ok (.aload_n k, 1)) (hl : ls[(k : Nat)]? = some (some (.ref x))) (hn : pc + 1 = n) (kk : GE E l M z Q n ls (.ref x :: st) w) : GE E l M z Q pc ls st w := by
  subst hn
  intro p e s m args below meth c D ct A ad0 ad H locs la hE C hA h0 h1 hz hP hD hS hL
  exact lv_aload_n C.1 C.2.1 hd rfl (hL.2.2 _ _ hl) (kk p e s m args below meth c D ct A ad0 ad H locs la hE C hA h0 h1 hz hP hD hS hL)
theorem h_iload_n {k : Fin 4} {x : Int32} (hd : decode (mby M) pc = .ok (.iload_n k, 1)) (hl : ls[(k : Nat)]? = some (some (.int x))) (hn : pc + 1 = n) (kk : GE E l M z Q n ls (.int x :: st) w) : GE E l M z Q pc ls st w := by
  subst hn
  intro p e s m args below meth c D ct A ad0 ad H locs la hE C hA h0 h1 hz hP hD hS hL
  exact lv_iload_n C.1 C.2.1 hd rfl (hL.2.2 _ _ hl) (kk p e s m args below meth c D ct A ad0 ad H locs la hE C hA h0 h1 hz hP hD hS hL)
theorem h_iconst {k : Int} {v : Int32} (hd : decode (mby M) pc = .ok (.iconst k, 1)) (hv : Int32.ofInt k = v) (hn : pc + 1 = n) (kk : GE E l M z Q n ls (.int v :: st) w) : GE E l M z Q pc ls st w := by
  subst hn
  intro p e s m args below meth c D ct A ad0 ad H locs la hE C hA h0 h1 hz hP hD hS hL
  exact lv_iconst C.1 C.2.1 hd hv (kk p e s m args below meth c D ct A ad0 ad H locs la hE C hA h0 h1 hz hP hD hS hL)
theorem h_bipush {k : Int} {v : Int32} (hd : decode (mby M) pc = .ok (.bipush k, 2)) (hv : (Int8.ofInt k).toInt32 = v) (hn : pc + 2 = n) (kk : GE E l M z Q n ls (.int v :: st) w) : GE E l M z Q pc ls st w := by
  subst hn
  intro p e s m args below meth c D ct A ad0 ad H locs la hE C hA h0 h1 hz hP hD hS hL
  exact lv_bipush C.1 C.2.1 hd hv (kk p e s m args below meth c D ct A ad0 ad H locs la hE C hA h0 h1 hz hP hD hS hL)
theorem h_dup {v : Value} (hd : decode (mby M) pc = .ok (.dup, 1)) (hv : v.category = 1) (hn : pc + 1 = n) (kk : GE E l M z Q n ls (v :: v :: st) w) : GE E l M z Q pc ls (v :: st) w := by
  subst hn
  intro p e s m args below meth c D ct A ad0 ad H locs la hE C hA h0 h1 hz hP hD hS hL
  exact lv_dup C.1 C.2.1 hd ((rv_cat ad v).trans hv) (kk p e s m args below meth c D ct A ad0 ad H locs la hE C hA h0 h1 hz hP hD hS hL)
theorem h_pop {v : Value} (hd : decode (mby M) pc = .ok (.pop, 1)) (hv : v.category = 1) (hn : pc + 1 = n) (kk : GE E l M z Q n ls st w) : GE E l M z Q pc ls (v :: st) w := by
  subst hn
  intro p e s m args below meth c D ct A ad0 ad H locs la hE C hA h0 h1 hz hP hD hS hL
  exact lv_pop C.1 C.2.1 hd ((rv_cat ad v).trans hv) (kk p e s m args below meth c D ct A ad0 ad H locs la hE C hA h0 h1 hz hP hD hS hL)
theorem h_istore_n {k : Fin 4} {x : Int32} (hd : decode (mby M) pc = .ok (.istore_n k, 1)) (hi : (k : Nat) < mlo M) (h2 : nl2 ls k = true) (hn : pc + 1 = n) (kk : GE E l M z Q n (ls.set k (some (.int x))) st w) : GE E l M z Q pc ls (.int x :: st) w := by
  subst hn
  intro p e s m args below meth c D ct A ad0 ad H locs la hE C hA h0 h1 hz hP hD hS hL
  exact lv_istore_n C.1 C.2.1 hd rfl hL.has hi rfl (fun la' h' => kk p e s m args below meth c D ct A ad0 ad H locs la' hE C hA h0 h1 hz hP hD hS (LR.store1 (v := .int x) h2 h'))
theorem h_iinc {i : Nat} {k : Int} {x v : Int32} (hd : decode (mby M) pc = .ok (.iinc i k, 3)) (hl : ls[i]? = some (some (.int x))) (hv : x + Int32.ofInt k = v) (hi : i < mlo M) (h2 : nl2 ls i = true) (hn : pc + 3 = n) (kk : GE E l M z Q n (ls.set i (some (.int v))) st w) : GE E l M z Q pc ls st w := by
  subst hn
  intro p e s m args below meth c D ct A ad0 ad H locs la hE C hA h0 h1 hz hP hD hS hL
  obtain ⟨j, hj⟩ := List.getElem?_of_mem (lpr_mem (ad := ad) hl)
  exact lv_iinc C.1 C.2.1 hd hL.has hj hv hi rfl (fun la' h' => kk p e s m args below meth c D ct A ad0 ad H locs la' hE C hA h0 h1 hz hP hD hS (LR.store1 (v := .int v) h2 h'))
theorem h_iincN {i : Nat} {x k : Nat} (hd : decode (mby M) pc = .ok (.iinc i (k : Int), 3)) (hl : ls[i]? = some (some (.int (nI x)))) (hi : i < mlo M) (h2 : nl2 ls i = true) (hn : pc + 3 = n) (kk : GE E l M z Q n (ls.set i (some (.int (nI (x + k))))) st w) : GE E l M z Q pc ls st w :=
  h_iinc hd hl (by rw [← nI_add]; rfl) hi h2 hn kk
theorem h_icmp_ge {x y : Int32} {off : Int} {tgt : Nat} (hd : decode (mby M) pc = .ok (.if_icmp .ge off, 3)) (ht : (pc : Int) + off = (tgt : Int)) (hn : pc + 3 = n) (kt : y ≤ x → GE E l M z Q tgt ls st w) (kf : ¬ y ≤ x → GE E l M z Q n ls st w) : GE E l M z Q pc ls (.int y :: .int x :: st) w := by
  subst hn
  intro p e s m args below meth c D ct A ad0 ad H locs la hE C hA h0 h1 hz hP hD hS hL
  exact lv_icmp_ge C.1 C.2.1 hd ht (fun q => kt q p e s m args below meth c D ct A ad0 ad H locs la hE C hA h0 h1 hz hP hD hS hL) (fun q => kf q p e s m args below meth c D ct A ad0 ad H locs la hE C hA h0 h1 hz hP hD hS hL)
theorem h_goto {off : Int} {tgt : Nat} (hd : decode (mby M) pc = .ok (.goto off, 3)) (ht : (pc : Int) + off = (tgt : Int)) (kk : GE E l M z Q tgt ls st w) : GE E l M z Q pc ls st w := by
  intro p e s m args below meth c D ct A ad0 ad H locs la hE C hA h0 h1 hz hP hD hS hL
  exact lv_goto C.1 C.2.1 hd ht (kk p e s m args below meth c D ct A ad0 ad H locs la hE C hA h0 h1 hz hP hD hS hL)
theorem h_top {x y : Int32} (h : x = y) (kk : GE E l M z Q pc ls (.int y :: st) w) : GE E l M z Q pc ls (.int x :: st) w := h ▸ kk
theorem h_vret (hd : decode (mby M) pc = .ok (.return_, 1)) (hr : mrt M = none) (hc : z.2.1 ≤ mkc M ∧ z.2.2 ≤ mks M) (hq : Q none w) : GE E l M z Q pc ls [] w := by
  intro p e s m args below meth c D ct A ad0 ad H locs la hE C hA h0 h1 hz hP hD hS hL
  refine W.widen (k := mkc M) (n := mks M) hc.1 hc.2 ?_
  exact W.vret C.1 C.2.1 (C.2.2.1.trans hr) (fun t ht hW => ⟨⟨none, w, ad, rfl, hq, h0, fun q => h1 (Nat.le_zero.mp (q ▸ hc.1)), by rw [ht]; exact hP, hD⟩, hS.F ht⟩) hS.2.2 hd C.2.2.2.2.2.2.1
theorem h_get {ix ci k a : Nat} {fs : List Value} {v : Value} (hf : FL (mnm M).cls ix ci k) (hd : decode (mby M) pc = .ok (.getfield ix, 3)) (hw : w[a]? = some (.inr (ci, fs))) (hv : fs[k]? = some v) (hn : pc + 3 = n) (kk : GE E l M z Q n ls (v :: st) w) : GE E l M z Q pc ls (.ref a :: st) w := by
  subst hn
  obtain ⟨⟨C0, T, N⟩, hc, hk, hlk, hin⟩ := hf
  intro p e s m args below meth c D ct A ad0 ad H locs la hE C hA h0 h1 hz hP hD hS hL
  exact va_get (own := (mnm M).cls) (ref := (T k).1) (v := rv ad v) C.1 C.2.1 C.2.2.2.2.2.1 hin C.2.2.2.2.1 C.2.2.2.2.2.2.2.2.1 hP a (wa_at hw) hc k hk (C.2.2.2.2.2.1 _ hlk) (fun _ h => h) (by rw [List.getElem?_map, hv]; rfl) hd (kk p e s m args below meth c D ct A ad0 ad H locs la hE C hA h0 h1 hz hP hD hS hL)
theorem h_put {ix ci k a : Nat} {fs : List Value} {v : Value} {ty : FieldType} (hf : PF (mnm M).cls ix ci k false ty) (hd : decode (mby M) pc = .ok (.putfield ix, 3)) (hw : w[a]? = some (.inr (ci, fs))) (hk2 : k < fs.length) (hnr : ∀ ad : Nat → Nat, narrow ty (rv ad v) = rv ad v) (hfit : ∀ ad : Nat → Nat, fits ty (rv ad v) = true) (hn : pc + 3 = n)
    (kk : GE E l M z Q n ls st (w.set a (.inr (ci, fs.set k v)))) : GE E l M z Q pc ls (v :: .ref a :: st) w := by
  subst hn
  obtain ⟨⟨C0, T, N⟩, hc, hk, hlk, hin, ⟨ty0, hty, hnm⟩, hfin, hcl, hpd⟩ := hf
  intro p e s m args below meth c D ct A ad0 ad H locs la hE C hA h0 h1 hz hP hD hS hL
  refine va_put (own := (mnm M).cls) (ref := (T k).1) (v := rv ad v) (ty := ty) C.1 C.2.1 C.2.2.2.2.2.1 hin ty0 hty hnm C.2.2.2.2.1 C.2.2.2.2.2.2.2.2.1 hP hD hS a (wa_at hw) hc k hk (C.2.2.2.2.2.1 _ hlk) (fun _ h => h) hfin hpd (hnr ad) (hfit ad) (by simpa using hk2) hd (fun H1 locs1 hP1 hD1 hS1 => ?_)
  rw [wa_setF] at hP1 hD1
  exact kk p e s m args below meth c D ct A ad0 ad H1 locs1 la hE C hA h0 h1 (by simpa using hz) hP1 hD1 hS1 hL
theorem h_putF {ix ci k a : Nat} {fs : List Value} {v : Value} {ty : FieldType} (hf : PF (mnm M).cls ix ci k true ty) (hi : (mnm M).name = "<init>") (ho : (vwCl[ci]?).map (fun r => r.1) = some (mnm M).cls) (hd : decode (mby M) pc = .ok (.putfield ix, 3)) (hw : w[a]? = some (.inr (ci, fs))) (hk2 : k < fs.length) (hnr : ∀ ad : Nat → Nat, narrow ty (rv ad v) = rv ad v) (hfit : ∀ ad : Nat → Nat, fits ty (rv ad v) = true) (hn : pc + 3 = n)
    (kk : GE E l M z Q n ls st (w.set a (.inr (ci, fs.set k v)))) : GE E l M z Q pc ls (v :: .ref a :: st) w := by
  subst hn
  obtain ⟨⟨C0, T, N⟩, hc, hk, hlk, hin, ⟨ty0, hty, hnm⟩, hfin, hcl, hpd⟩ := hf
  rw [hc] at ho
  intro p e s m args below meth c D ct A ad0 ad H locs la hE C hA h0 h1 hz hP hD hS hL
  refine va_putF (own := (mnm M).cls) (ref := (T k).1) (v := rv ad v) (ty := ty) C.1 C.2.1 C.2.2.2.2.2.1 hin ty0 hty hnm C.2.2.2.2.1 C.2.2.2.2.2.2.2.2.1 hP hD hS a (wa_at hw) hc k hk (C.2.2.2.2.2.1 _ hlk) (fun _ h => h) hfin (C.2.2.2.2.2.2.2.1.trans hi) (hcl.trans (Option.some.inj ho)) hpd (hnr ad) (hfit ad) (by simpa using hk2) hd (fun H1 locs1 hP1 hD1 hS1 => ?_)
  rw [wa_setF] at hP1 hD1
  exact kk p e s m args below meth c D ct A ad0 ad H1 locs1 la hE C hA h0 h1 (by simpa using hz) hP1 hD1 hS1 hL
theorem h_aast {a b N : Nat} {f : Nat → Option Nat} {i : Int32} {vs : List Value} (hd : decode (mby M) pc = .ok (.aastore, 1)) (hw : w[a]? = some (.inl (2, N, .inr (.inr (.inr (.inr f)))))) (hb : w[b]? = some (.inr (3, vs))) (hin : vp_in i N) (hn : pc + 1 = n) (kk : GE E l M z Q n ls st (w.set a (.inl (2, N, .inr (.inr (.inr (.inr (va_up f i.toNatClampNeg (some b))))))))) : GE E l M z Q pc ls (.ref b :: .int i :: .ref a :: st) w := by
  subst hn
  intro p e s m args below meth c D ct A ad0 ad H locs la hE C hA h0 h1 hz hP hD hS hL
  refine va_astq (r := (RX3, TX3, 6)) C.1 C.2.1 C.2.2.2.2.2.2.2.2.1 hP hD hS a 2 b 3 (wa_at hw) rfl (wa_at hb) rfl hin hd (fun H1 locs1 hP1 hD1 hS1 => ?_)
  have e1 := wa_set ct ad w a (.inl (2, N, .inr (.inr (.inr (.inr (va_up f i.toNatClampNeg (some b)))))))
  have e2 : rcl ct ad (.inl (2, N, .inr (.inr (.inr (.inr (va_up f i.toNatClampNeg (some b))))))) = .inl (ct 2, N, .inr (.inr (.inr (.inr (va_up (fun j => (f j).map ad) i.toNatClampNeg (some (ad b))))))) := by
    show (Sum.inl (ct 2, N, .inr (.inr (.inr (.inr (fun j => (va_up f i.toNatClampNeg (some b) j).map ad))))) : va_E) = _
    refine congrArg (fun h : Nat → Option Nat => (Sum.inl (ct 2, N, .inr (.inr (.inr (.inr h)))) : va_E)) ?_
    funext j
    unfold va_up
    by_cases hj : j = i.toNatClampNeg
    · simp [hj]
    · simp [hj]
  rw [e2] at e1
  exact kk p e s m args below meth c D ct A ad0 ad H1 locs1 la hE C hA h0 h1 (by simpa using hz) (e1 ▸ hP1) (e1 ▸ hD1) hS1 hL
theorem h_aastN {a b N j : Nat} {f : Nat → Option Nat} {vs : List Value} (hd : decode (mby M) pc = .ok (.aastore, 1)) (hw : w[a]? = some (.inl (2, N, .inr (.inr (.inr (.inr f)))))) (hb : w[b]? = some (.inr (3, vs))) (hn : pc + 1 = n) (hN : N < 2147483648) (hj : j < N) (kk : GE E l M z Q n ls st (w.set a (.inl (2, N, .inr (.inr (.inr (.inr (va_up f j (some b))))))))) : GE E l M z Q pc ls (.ref b :: .int (nI j) :: .ref a :: st) w :=
  h_aast hd hw hb (vp_in_nI hj hN) hn (by rw [nI_clamp (by omega)]; exact kk)
theorem h_objInit {ix a : Nat} (hd : decode (mby M) pc = .ok (.invokespecial ix, 3)) (hw1 : Cond.methodLink (mnm M).cls ix Lib.objectInit ∈ big) (hw2 : Cond.instanceMethod Lib.objectInit ∈ big) (hw3 : Cond.code Lib.objectInit ⟨#[0xb1]⟩ 1 none ∈ big) (hdp : 1 ≤ mdp M) (hst : (st.map fun v => v.category).sum ≤ 8) (hn : pc + 3 = n) (kk : GE E l M z Q n ls st w) : GE E l M z Q pc ls (.ref a :: st) w := by
  subst hn
  intro p e s m args below meth c D ct A ad0 ad H locs la hE C hA h0 h1 hz hP hD hS hL
  have e1 : (st.map (rv ad)).map (fun v => v.category) = st.map (fun v => v.category) := by rw [List.map_map]; exact List.map_congr_left (fun v _ => rv_cat ad v)
  refine W.objInit C.1 C.2.1 C.2.2.2.2.1 (C.2.2.2.2.2.1 _ hw1) (C.2.2.2.2.2.1 _ hw2) (C.2.2.2.2.2.1 _ hw3) rfl (hL.1.trans C.2.2.2.1.symm) rfl hd hdp ?_ ?_
  · show 2 * 0 + ((st.map (rv ad)).map fun v => v.category).sum + 12 ≤ 48 * mdp M
    rw [e1]; omega
  · exact W.eq (g2 := F0 m (pc + 3) la (st.map (rv ad))) rfl (kk p e s m args below meth c D ct A ad0 ad H locs la hE C hA h0 h1 hz hP hD hS hL)
theorem h_lsN {ls' : List (Option Value)} (h : ls = ls') (kk : GE E l M z Q pc ls' st w) : GE E l M z Q pc ls st w := h ▸ kk
theorem h_wN {w' : List va_E} (h : w = w') (kk : GE E l M z Q pc ls st w') : GE E l M z Q pc ls st w := h ▸ kk
theorem h_cutV {b0 ci : Nat} {fs : List Value} (hcall : CV (mnm M).cls ix M' nA) (hcon : Con l M' (.ref b0 :: cav) cw Q') (hd : decode (mby M) pc = .ok (.invokevirtual ix, 3)) (hst : st = (cav.map (rv (sg ps))).reverse ++ .ref (sg ps b0) :: rest) (hw : (ps.take cw.length).map (fun i => w[i]?) = cw.map (fun x => some (ren ps x))) (hnd : va_nd (ps.take cw.length) = true)
    (hdp : mdp M' + 1 ≤ mdp M ∧ mlo M' ≤ 29 ∧ mkc M' = 0 ∧ mks M' = 0 ∧ z.2.1 ≤ mkc M ∧ z.2.2 ≤ mks M) (hrc : cw[b0]? = some (.inr (ci, fs))) (hci : (vwCl[ci]?).map (fun r => r.1) = some (mnm M').cls) (hna : cav.length = nA) (hrs : (rest.map fun v => v.category).sum ≤ 8) (hn : pc + 3 = n)
    (kk : ∀ (r : Option Value) (cw' : List va_E), Q' r cw' → cw'.length = cw.length ∧ GE E l M z Q n ls ((r.map (rv (sg ps))).toList ++ rest) (putM w ps cw')) : GE E l M z Q pc ls st w := by
  subst hn
  subst hst
  obtain ⟨⟨hini, hcode, hy⟩, hlk, him, hsel⟩ := hcall
  obtain ⟨d1, d2, d3, d4, d5, d6⟩ := hdp
  intro p e s m args below meth c D ct A ad0 ad H locs la hE C hA h0 h1 hz hP hD hS hL
  have hts := C.2.2.2.2.2.1
  have hcut := wa_cut2 (ct := ct) (ad := ad) hw
  have hPc := hP.sub (ws' := wa ct (fun j => ad (sg ps j)) cw) (ps.take cw.length) (fm_of _ _ _ hcut)
  have hDc := hD.sub (ps.take cw.length) hnd hcut
  have hF := va_free (wc := wa ct (fun j => ad (sg ps j)) cw) hD hS hA (ps.take cw.length) hcut
  obtain ⟨q0, hq0⟩ : ∃ q0, vwCl[ci]? = some q0 := by
    cases hx : vwCl[ci]? with
    | none => rw [hx] at hci; cases hci
    | some q => exact ⟨q, rfl⟩
  have hq1 : q0.1 = (mnm M').cls := by rw [hq0] at hci; exact Option.some.inj hci
  have hM := hcon D ct (fun j => ad (sg ps j)) H.size
  rw [d3, d4] at hM
  refine run_back (cw := cw) (rest := rest.map (rv ad)) (va_runV (C := (mnm M').cls) (b := ad (sg ps b0)) (As := cav.map (rv (fun j => ad (sg ps j)))) ⟨C.1, C.2.1, C.2.2.2.1, C.2.2.2.2.1, hts⟩ hM
    ⟨callB_of nA hts (good_big hcode) rfl rfl rfl (hts _ hini) (hts _ hlk) hy ⟨d1, by show 8 + (mlo M' + 11) + 48 * mdp M' ≤ 48 * mdp M; omega⟩, hts _ him, hts _ hsel⟩
    ⟨Pm_blind, by rw [← hq1]; exact va_recv C.2.2.2.2.2.2.2.2.1 hPc hq0 (wa_at hrc), fun U hU hW => ⟨rfl, by rw [hU], by rw [hU]; exact hPc, KB.moved hW C.2.2.2.2.2.2.2.2, hDc.weaken (fun _ _ _ _ => trivial)⟩⟩
    rfl (by rw [List.length_map]; exact hna) hL.1 (by show List.map (rv ad) _ = _; rw [List.map_append, stk_map]; rfl) (by show 2 * 0 + _ ≤ 8; rw [cat_map]; omega) hd ⟨d5, d6⟩) hS hF (fun r cw' H1 locs1 hq hP1 hD1 hk1 hS1 => ?_)
  obtain ⟨hlen, hG⟩ := kk r cw' hq
  obtain ⟨hP2, hD2⟩ := wa_join2 hw hnd hlen hP hD hP1 hk1
  rw [ret_map]
  exact hG p e s m args below meth c D ct A ad0 ad H1 locs1 la hE C hA h0 h1 (by rw [putM, foldl_set_len]; exact hz) hP2 hD2 hS1 hL
theorem h_cutVi {b0 ci : Nat} {fs : List Value} {v : Int32} (hcall : CV (mnm M).cls ix M' nA) (hcon : Fn l M' (.ref b0 :: cav) cw (some (.int v)) cw') (hd : decode (mby M) pc = .ok (.invokevirtual ix, 3)) (hst : st = (cav.map (rv (sg ps))).reverse ++ .ref (sg ps b0) :: rest) (hw : (ps.take cw.length).map (fun i => w[i]?) = cw.map (fun x => some (ren ps x))) (hnd : va_nd (ps.take cw.length) = true)
    (hdp : mdp M' + 1 ≤ mdp M ∧ mlo M' ≤ 29 ∧ mkc M' = 0 ∧ mks M' = 0 ∧ z.2.1 ≤ mkc M ∧ z.2.2 ≤ mks M) (hrc : cw[b0]? = some (.inr (ci, fs))) (hci : (vwCl[ci]?).map (fun r => r.1) = some (mnm M').cls) (hna : cav.length = nA) (hrs : (rest.map fun v => v.category).sum ≤ 8) (hlen : cw'.length = cw.length) (hn : pc + 3 = n) (hput : putM w ps cw' = w')
    (kk : GE E l M z Q n ls (.int v :: rest) w') : GE E l M z Q pc ls st w := by
  refine h_cutV hcall hcon hd hst hw hnd hdp hrc hci hna hrs hn (fun r u hq => ?_)
  obtain ⟨rfl, rfl⟩ := hq
  subst hput
  exact ⟨hlen, kk⟩
theorem h_new {ix ci N k : Nat} {C : String} {T : u_T} {ty : Nat → FieldType} {fs : List Value} (hk : w.length = k) (hd : decode (mby M) pc = .ok (.new ix, 3)) (hin : ∀ w ∈ u_ws C T N, w ∈ big) (hty : ∀ k, k < N → parseFieldDescriptor (T k).2.2.1 = some (ty k)) (hcl : Cond.classLink (mnm M).cls ix C ∈ big) (hinst : Cond.instantiable C N ∈ big) (hini : Cond.initialized C ∈ big) (hc : vwCl[ci]? = some (C, T, N)) (hfs : ∀ j, j < N → defaultValue (ty j) = vp_V fs j) (hf0 : fs.all (clR 0) = true)
    (hcw : clW k w) (hcs : st.all (clR k) = true) (hcls : clL k ls = true) (hroom : z.2.1 + 1 ≤ mkc M ∧ z.2.2 + N ≤ mks M) (hn : pc + 3 = n)
    (kk : GE E l M (z.1, z.2.1 + 1, z.2.2 + N) Q n ls (.ref k :: st) (w ++ [.inr (ci, fs)])) : GE E l M z Q pc ls st w := by
  subst hn
  subst hk
  intro p e s m args below meth c D ct A ad0 ad H locs la hE C0 hA h0 h1 hz hP hD hS hL
  refine va_new (own := (mnm M).cls) (ci := ci) (C := C) (T := T) (N := N) (fs := fs) C0.1 C0.2.1 C0.2.2.2.2.2.1 hin ty hty C0.2.2.2.2.1 (C0.2.2.2.2.2.1 _ hcl) (C0.2.2.2.2.2.1 _ hinst) (C0.2.2.2.2.2.1 _ hini) C0.2.2.2.2.2.2.2.2.1 hP hD hS hA hc hfs hroom.1 hroom.2 hd (fun q H1 hP1 hD1 hS1 => ?_)
  have e := fun i (hi : i < w.length) => ext1_lt (ad := ad) (q := q) hi
  have ef : fs.map (rv (ext1 ad w.length q)) = fs := by
    have : fs.map (rv (ext1 ad w.length q)) = fs.map id := List.map_congr_left (fun v hv => by
      have h1 := List.all_eq_true.mp hf0 v hv
      cases v with
      | ref i => exact absurd (of_decide_eq_true (show decide (i < 0) = true from h1)) (Nat.not_lt_zero _)
      | _ => rfl)
    rw [this, List.map_id]
  have e9 : wa ct (ext1 ad w.length q) (w ++ [.inr (ci, fs)]) = wa ct ad w ++ [(q, .inr (ci, fs))] := by
    rw [wa_app, wa_cl e (Nat.le_refl _) hcw, ext1_at]
    show _ ++ [(q, (Sum.inr (ci, fs.map (rv (ext1 ad w.length q))) : va_E))] = _
    rw [ef]
  have key := kk p ‹Env› s m args below meth c D ct A ad0 (ext1 ad w.length q) H1 locs la hE C0 hA (fun i hi => (e i (by omega)).trans (h0 i hi)) (fun h => absurd h (Nat.succ_ne_zero _)) (by rw [List.length_append]; show z.1 ≤ w.length + 1; omega) (e9 ▸ hP1) (e9 ▸ hD1) hS1 (hL.ext e hcls)
  have e8 : (Value.ref w.length :: st).map (rv (ext1 ad w.length q)) = .ref q :: st.map (rv ad) := by
    rw [List.map_cons, st_ext e hcs]
    show Value.ref (ext1 ad w.length q w.length) :: _ = _
    rw [ext1_at]
  rw [e8] at key
  exact key
theorem h_newq {ix N k : Nat} (hk : w.length = k) (hd : decode (mby M) pc = .ok (.anewarray ix, 3)) (hcl : Cond.classLink (mnm M).cls ix "ButtressWall$State" ∈ big) (hN : N < 100000) (hcw : clW k w) (hcs : st.all (clR k) = true) (hcls : clL k ls = true) (hroom : z.2.1 + 1 ≤ mkc M ∧ z.2.2 + N ≤ mks M) (hn : pc + 3 = n)
    (kk : GE E l M (z.1, z.2.1 + 1, z.2.2 + N) Q n ls (.ref k :: st) (w ++ [.inl (2, N, .inr (.inr (.inr (.inr (fun _ => none)))))])) : GE E l M z Q pc ls (.int (nI N) :: st) w := by
  subst hn
  subst hk
  intro p e s m args below meth c D ct A ad0 ad H locs la hE C0 hA h0 h1 hz hP hD hS hL
  refine va_newq (own := (mnm M).cls) (C := "ButtressWall$State") (N' := N) C0.1 C0.2.1 C0.2.2.2.2.1 (C0.2.2.2.2.2.1 _ hcl) C0.2.2.2.2.2.2.2.2.2.2 C0.2.2.2.2.2.2.2.2.1 hP hD hS hA (nI_pos (by omega)) (nI_clamp (by omega)) (by omega) hroom.1 hroom.2 hd (fun q cA H1 hK1 hP1 hD1 hS1 => ?_)
  have ec : cA = ct 2 := by
    have a1 := va_nmO (hK1.2 3 _ rfl).2 rfl
    have a2 := va_nmO (C0.2.2.2.2.2.2.2.2.1.2 2 _ rfl).2 rfl
    rw [a1] at a2
    exact Option.some.inj a2
  subst ec
  have e := fun i (hi : i < w.length) => ext1_lt (ad := ad) (q := q) hi
  have e9 : wa ct (ext1 ad w.length q) (w ++ [.inl (2, N, .inr (.inr (.inr (.inr (fun _ => none)))))]) = wa ct ad w ++ [(q, .inl (ct 2, N, .inr (.inr (.inr (.inr (fun _ => none))))))] := by
    rw [wa_app, wa_cl e (Nat.le_refl _) hcw, ext1_at]
    rfl
  have key := kk p ‹Env› s m args below meth c D ct A ad0 (ext1 ad w.length q) H1 locs la hE C0 hA (fun i hi => (e i (by omega)).trans (h0 i hi)) (fun h => absurd h (Nat.succ_ne_zero _)) (by rw [List.length_append]; show z.1 ≤ w.length + 1; omega) (e9 ▸ hP1) (e9 ▸ hD1) hS1 (hL.ext e hcls)
  have e8 : (Value.ref w.length :: st).map (rv (ext1 ad w.length q)) = .ref q :: st.map (rv ad) := by
    rw [List.map_cons, st_ext e hcs]
    show Value.ref (ext1 ad w.length q w.length) :: _ = _
    rw [ext1_at]
  rw [e8] at key
  exact key
theorem h_callIN {nn : Nat} (hk : w.length = k) (hnn : news.length = nn) (hcall : CIN (mnm M).cls ix M1 0) (hcon : Con l M1 [.ref 0] [x0] (fun r u => r = none ∧ u = y0 :: news)) (hd : decode (mby M) pc = .ok (.invokespecial ix, 3)) (hwa : w[a]? = some x0) (hx0 : clE 0 x0) (hcn : clW (1 + nn) (y0 :: news)) (hps : ∀ j, j < 1 + nn → sg ps j = if j = 0 then a else k + (j - 1))
    (hcw : clW k w) (hcs : rest.all (clR k) = true) (hcls : clL k ls = true) (hdp : mdp M1 + 1 ≤ mdp M ∧ mlo M1 ≤ 29 ∧ 0 < mkc M1 ∧ z.2.1 + mkc M1 ≤ mkc M ∧ z.2.2 + mks M1 ≤ mks M) (hrs : (rest.map fun v => v.category).sum ≤ 8) (hn : pc + 3 = n)
    (kk : GE E l M (z.1, z.2.1 + mkc M1, z.2.2 + mks M1) Q n ls rest (w.set a (ren ps y0) ++ news.map (ren ps))) : GE E l M z Q pc ls (.ref a :: rest) w := by
  subst hn
  subst hk
  subst hnn
  obtain ⟨⟨hini, hcode, hy⟩, hlk, him, hnm, hrt⟩ := hcall
  obtain ⟨d1, d2, d3, d4, d5⟩ := hdp
  intro p e s m args below meth c D ct A ad0 ad H locs la hE C hA h0 h1 hz hP hD hS hL
  have hts := C.2.2.2.2.2.1
  have hcut : [a].map (fun i => (wa ct ad w)[i]?) = (wa ct (fun _ => ad a) [x0]).map some := by
    show [(wa ct ad w)[a]?] = [some (ad a, rcl ct (fun _ => ad a) x0)]
    rw [wa_at hwa, rcl_cl (n := 0) (ad := ad) (ad2 := fun _ => ad a) (fun i hi => absurd hi (Nat.not_lt_zero _)) hx0]
  have hPc := hP.sub (ws' := wa ct (fun _ => ad a) [x0]) [a] (fm_of _ _ _ hcut)
  have hDc := hD.sub [a] rfl hcut
  have hF := va_free (wc := wa ct (fun _ => ad a) [x0]) hD hS hA [a] hcut
  have hM := hcon D ct (fun _ => ad a) H.size
  rw [hrt] at hM hcode
  refine run_backK (cw := [x0]) (ad := fun _ => ad a) (rest := rest.map (rv ad)) (va_runIN (host := RX8) (b := ad a) (As := []) ⟨C.1, C.2.1, C.2.2.2.1, C.2.2.2.2.1, hts⟩ hM
    ⟨va_cnB 0 hts (good_big hcode) rfl rfl rfl (C.2.2.2.2.2.2.2.2.2.1 _ hlk) (hts _ hini) hy ⟨d1, by show 8 + (mlo M1 + 11) + 48 * mdp M1 ≤ 48 * mdp M; omega⟩, hnm, hts _ him⟩
    ⟨Pm_blind, fun U hU hW => ⟨rfl, by rw [hU], by rw [hU]; exact hPc, KB.moved hW C.2.2.2.2.2.2.2.2, hDc.weaken (fun _ _ _ _ => trivial)⟩⟩
    rfl rfl hL.1 rfl (by show 2 * 0 + _ ≤ 8; rw [cat_map]; omega) hd ⟨d4, d5⟩) hS hF (fun r cw2 ad2 H1 locs1 hq had hP1 hD1 hk1 hS1 => ?_)
  obtain ⟨rfl, rfl⟩ := hq
  have h2 : ad2 0 = ad a := had 0 (Nat.zero_lt_succ _)
  have hvA : ∀ q, va_A (wa ct (fun _ => ad a) [x0]) H.size q ↔ (q = ad a ∨ H.size ≤ q) := fun q => by
    constructor
    · rintro (⟨k, e1, h⟩ | h)
      · rw [wa_get] at h
        obtain ⟨x, hx, h⟩ := Option.map_eq_some_iff.mp h
        exact Or.inl (congrArg Prod.fst h).symm
      · exact Or.inr h
    · rintro (rfl | h)
      · exact Or.inl ⟨0, _, rfl⟩
      · exact Or.inr h
  obtain ⟨hP2, hD2⟩ := wa_grow (ps := ps) hwa hcw hcn hps hP hD h2 hP1 (hD1.weaken (fun _ q _ h => (hvA _).mp h)) (fun q g1 g2 => hk1 q g1 (fun x => by
    rcases (hvA q).mp x with y | y
    · exact g2 y
    · omega)) (fun q hq => hF q ((hvA q).mpr (Or.inr hq)))
  have en : ∀ i, i < w.length → (fun i => if i < w.length then ad i else ad2 (i - w.length + 1)) i = ad i := fun i hi => if_pos hi
  have key := kk p e s m args below meth c D ct A ad0 _ H1 locs1 la hE C hA (fun i hi => (en i (by omega)).trans (h0 i hi)) (fun h => absurd h (by show ¬ z.2.1 + mkc M1 = 0; omega)) (by rw [List.length_append, List.length_set]; show z.1 ≤ _; omega) hP2 hD2 hS1 (hL.ext en hcls)
  rw [st_ext en hcs] at key
  exact key
theorem h_callI {nn : Nat} (hk : w.length = k) (hnn : news.length = nn) (hcall : CI (mnm M).cls ix M1 0) (hcon : Con l M1 [.ref 0] [x0] (fun r u => r = none ∧ u = y0 :: news)) (hd : decode (mby M) pc = .ok (.invokespecial ix, 3)) (hwa : w[a]? = some x0) (hx0 : clE 0 x0) (hcn : clW (1 + nn) (y0 :: news)) (hps : ∀ j, j < 1 + nn → sg ps j = if j = 0 then a else k + (j - 1))
    (hcw : clW k w) (hcs : rest.all (clR k) = true) (hcls : clL k ls = true) (hdp : mdp M1 + 1 ≤ mdp M ∧ mlo M1 ≤ 29 ∧ 0 < mkc M1 ∧ z.2.1 + mkc M1 ≤ mkc M ∧ z.2.2 + mks M1 ≤ mks M) (hrs : (rest.map fun v => v.category).sum ≤ 8) (hn : pc + 3 = n)
    (kk : GE E l M (z.1, z.2.1 + mkc M1, z.2.2 + mks M1) Q n ls rest (w.set a (ren ps y0) ++ news.map (ren ps))) : GE E l M z Q pc ls (.ref a :: rest) w := by
  subst hn
  subst hk
  subst hnn
  obtain ⟨⟨hini, hcode, hy⟩, hlk, him, hnm, hrt⟩ := hcall
  obtain ⟨d1, d2, d3, d4, d5⟩ := hdp
  intro p e s m args below meth c D ct A ad0 ad H locs la hE C hA h0 h1 hz hP hD hS hL
  have hts := C.2.2.2.2.2.1
  have hcut : [a].map (fun i => (wa ct ad w)[i]?) = (wa ct (fun _ => ad a) [x0]).map some := by
    show [(wa ct ad w)[a]?] = [some (ad a, rcl ct (fun _ => ad a) x0)]
    rw [wa_at hwa, rcl_cl (n := 0) (ad := ad) (ad2 := fun _ => ad a) (fun i hi => absurd hi (Nat.not_lt_zero _)) hx0]
  have hPc := hP.sub (ws' := wa ct (fun _ => ad a) [x0]) [a] (fm_of _ _ _ hcut)
  have hDc := hD.sub [a] rfl hcut
  have hF := va_free (wc := wa ct (fun _ => ad a) [x0]) hD hS hA [a] hcut
  have hM := hcon D ct (fun _ => ad a) H.size
  rw [hrt] at hM hcode
  refine run_backK (cw := [x0]) (ad := fun _ => ad a) (rest := rest.map (rv ad)) (va_runI (b := ad a) (As := []) ⟨C.1, C.2.1, C.2.2.2.1, C.2.2.2.2.1, hts⟩ hM
    ⟨callB_of 0 hts (good_big hcode) rfl rfl rfl (hts _ hini) (hts _ hlk) hy ⟨d1, by show 8 + (mlo M1 + 11) + 48 * mdp M1 ≤ 48 * mdp M; omega⟩, hnm, hts _ him⟩
    ⟨Pm_blind, fun U hU hW => ⟨rfl, by rw [hU], by rw [hU]; exact hPc, KB.moved hW C.2.2.2.2.2.2.2.2, hDc.weaken (fun _ _ _ _ => trivial)⟩⟩
    rfl rfl hL.1 rfl (by show 2 * 0 + _ ≤ 8; rw [cat_map]; omega) hd ⟨d4, d5⟩) hS hF (fun r cw2 ad2 H1 locs1 hq had hP1 hD1 hk1 hS1 => ?_)
  obtain ⟨rfl, rfl⟩ := hq
  have h2 : ad2 0 = ad a := had 0 (Nat.zero_lt_succ _)
  have hvA : ∀ q, va_A (wa ct (fun _ => ad a) [x0]) H.size q ↔ (q = ad a ∨ H.size ≤ q) := fun q => by
    constructor
    · rintro (⟨k, e1, h⟩ | h)
      · rw [wa_get] at h
        obtain ⟨x, hx, h⟩ := Option.map_eq_some_iff.mp h
        exact Or.inl (congrArg Prod.fst h).symm
      · exact Or.inr h
    · rintro (rfl | h)
      · exact Or.inl ⟨0, _, rfl⟩
      · exact Or.inr h
  obtain ⟨hP2, hD2⟩ := wa_grow (ps := ps) hwa hcw hcn hps hP hD h2 hP1 (hD1.weaken (fun _ q _ h => (hvA _).mp h)) (fun q g1 g2 => hk1 q g1 (fun x => by
    rcases (hvA q).mp x with y | y
    · exact g2 y
    · omega)) (fun q hq => hF q ((hvA q).mpr (Or.inr hq)))
  have en : ∀ i, i < w.length → (fun i => if i < w.length then ad i else ad2 (i - w.length + 1)) i = ad i := fun i hi => if_pos hi
  have key := kk p e s m args below meth c D ct A ad0 _ H1 locs1 la hE C hA (fun i hi => (en i (by omega)).trans (h0 i hi)) (fun h => absurd h (by show ¬ z.2.1 + mkc M1 = 0; omega)) (by rw [List.length_append, List.length_set]; show z.1 ≤ _; omega) hP2 hD2 hS1 (hL.ext en hcls)
  rw [st_ext en hcs] at key
  exact key
end HR
/-- the string constant, at a start -/
def EZ (s : State) (A : Nat → Prop) : Prop := ∃ aS aV : Nat, vk_R RX8 72 TXT0 aS s ∧ SF aS aV A s s.heap
section HS
variable {l : Launch} {M : MC} {z : Nat × Nat × Nat} {Q : Option Value → List va_E → Prop} {pc n : Nat} {ls : List (Option Value)} {st : List Value} {w : List va_E}
theorem h_strlen (hd1 : decode (mby M) pc = .ok (.ldc 72, 2)) (hd2 : decode (mby M) (pc + 2) = .ok (.invokevirtual 74, 3)) (hM : (mnm M).cls = RX8) (hdp : 3 ≤ mdp M ∧ z.2.1 ≤ mkc M ∧ z.2.2 ≤ mks M) (hrs : (st.map fun v => v.category).sum ≤ 8) (hn : pc + 5 = n) (kk : GE EZ l M z Q n ls (.int (nI 107) :: st) w) : GE EZ l M z Q pc ls st w := by
  subst hn
  intro p e s m args below meth c D ct A ad0 ad H locs la hE C hA h0 h1 hz hP hD hS hL
  obtain ⟨aS, aV, hR, hF⟩ := id hE
  have hts := C.2.2.2.2.2.1
  have hown : s.vm.findClass RX8 = some m.cls := hM ▸ C.2.2.2.2.1
  refine va_ldcS C.1 C.2.1 hown hR hd1 ?_
  obtain ⟨⟨hini, hcode, hy⟩, hlk, him, hsel⟩ := cv_X8_74
  obtain ⟨cell, g1, g2, g3, -⟩ := hF.1.kept hS.2.1
  have hA2 : ∀ q, H.size ≤ q → A q := fun q hq => hA q (Nat.le_trans hS.1 hq)
  refine run_backS (rest := st.map (rv ad)) (va_runV (C := "java/lang/String") (b := aS) (As := []) ⟨C.1, C.2.1, C.2.2.2.1, hown, hts⟩ (s_length l aS aV H.size)
    ⟨callB_of 0 hts (good_big hcode) rfl rfl rfl (hts _ hini) (hts _ hlk) hy ⟨by show 2 + 1 ≤ mdp M; omega, by show 8 + (1 + 11) + 48 * 2 ≤ 48 * mdp M; omega⟩, hts _ him, hts _ hsel⟩
    ⟨SM_blind, ⟨cell, g1, g2, g3⟩, fun U hU hW => ⟨rfl, by rw [hU], hF.at hS hA2 hU hW⟩⟩
    rfl rfl hL.1 rfl (by show 2 * 0 + _ ≤ 8; rw [cat_map]; omega) hd2 ⟨hdp.2.1, hdp.2.2⟩) hS hA2 (fun H1 locs1 hk hS1 => ?_)
  exact kk p e s m args below meth c D ct A ad0 ad H1 locs1 la hE C hA h0 h1 hz (hP.kept (fun k q hq => hk q.1 (hP k q hq).lt)) hD hS1 hL
theorem h_strchar {i : Nat} (hi : i < 107) (hd1 : decode (mby M) pc = .ok (.ldc 72, 2)) (hd2 : decode (mby M) (pc + 2) = .ok (.iload_n 1, 1)) (hd3 : decode (mby M) (pc + 2 + 1) = .ok (.invokevirtual 80, 3)) (hl : ls[1]? = some (some (.int (nI i)))) (hM : (mnm M).cls = RX8) (hdp : 5 ≤ mdp M ∧ z.2.1 ≤ mkc M ∧ z.2.2 ≤ mks M) (hrs : (st.map fun v => v.category).sum ≤ 8) (hn : pc + 6 = n) (kk : GE EZ l M z Q n ls (.int (nI (tz i)) :: st) w) : GE EZ l M z Q pc ls st w := by
  subst hn
  intro p e s m args below meth c D ct A ad0 ad H locs la hE C hA h0 h1 hz hP hD hS hL
  obtain ⟨aS, aV, hR, hF⟩ := id hE
  have hts := C.2.2.2.2.2.1
  have hown : s.vm.findClass RX8 = some m.cls := hM ▸ C.2.2.2.2.1
  refine va_ldcS C.1 C.2.1 hown hR hd1 ?_
  refine lv_iload_n C.1 C.2.1 hd2 rfl (hL.2.2 _ _ hl) ?_
  obtain ⟨⟨hini, hcode, hy⟩, hlk, him, hsel⟩ := cv_X8_80
  obtain ⟨cell, g1, g2, g3, -⟩ := hF.1.kept hS.2.1
  have hA2 : ∀ q, H.size ≤ q → A q := fun q hq => hA q (Nat.le_trans hS.1 hq)
  refine run_backS (rest := st.map (rv ad)) (va_runV (C := "java/lang/String") (b := aS) (As := [.int (nI i)]) ⟨C.1, C.2.1, C.2.2.2.1, hown, hts⟩ (s_char l aS aV i hi H.size)
    ⟨callB_of 1 hts (good_big hcode) rfl rfl rfl (hts _ hini) (hts _ hlk) hy ⟨by show 4 + 1 ≤ mdp M; omega, by show 8 + (2 + 11) + 48 * 4 ≤ 48 * mdp M; omega⟩, hts _ him, hts _ hsel⟩
    ⟨SM_blind, ⟨cell, g1, g2, g3⟩, fun U hU hW => ⟨rfl, by rw [hU], hF.at hS hA2 hU hW⟩⟩
    rfl rfl hL.1 rfl (by show 2 * 0 + _ ≤ 8; rw [cat_map]; omega) hd3 ⟨hdp.2.1, hdp.2.2⟩) hS hA2 (fun H1 locs1 hk hS1 => ?_)
  exact kk p e s m args below meth c D ct A ad0 ad H1 locs1 la hE C hA h0 h1 hz (hP.kept (fun k q hq => hk q.1 (hP k q hq).lt)) hD hS1 hL
end HS

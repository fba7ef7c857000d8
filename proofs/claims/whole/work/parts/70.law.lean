/-! 70.law: the law, its loop -/
def R_law : String := "ButtressWallLaw"
def lw_P (b : Addr) (xs : List Int32) (args : Array Value) (s : State) : Prop := args = #[.ref b] ∧ s.IntsAt b xs ∧ xs.length ≤ 2048 ∧ (Jvm.Cond.and given_1 narrow_1).before args s = true
def lw_Q (_ : Array Value) (s : State) (o : Outcome) (t : State) : Prop := o = .returned (some (.int 1)) ∧ Framed s o t [] 600000 7302250
def lw_Z (below : List Frame) (a : Array Value) (s : State) : State → Prop := fun t => ∃ o, t.status = .running ∧ Ended t below o ∧ lw_Q a s o t
/-- the law's own end, with 1 on the stack, nothing written that was there before, its room as the claim has it -/
theorem lw_ret {p : Program} {l : Launch} {e : Env} {s : State} {m : MethodId} {below : List Frame} {meth : Method} {c : Code} {b : Nat} (hx : p.tables.exec = Jvm.exec) (hb : c.code = code) (hr : meth.sig.returnType = ret) (hlocks : meth.locks = false) {pc : Nat} {H : Heap} {ls : Array Slot} (hdg : decode code pc = .ok (.ireturn, 1)) : W p l e room_1 s m #[Value.ref b] below meth c H [] 600000 7302250 (lw_Z below #[Value.ref b] s) (F0 m pc ls [.int 1]) := by
  intro T hT X
  obtain ⟨fs, hret, hrun, hended, hW, hframe⟩ := X.leave (v := some (.int 1)) (hlocks := hlocks) (fun h => by rw [hr] at h; cases h)
  have hmeth' : T.vm.method? m = some meth := X.method'
  refine ⟨T.setFrames fs, ?_, .returned (some (.int 1)), hrun, hended, rfl, ⟨_, rfl⟩, hW, hframe⟩
  jvm_step X.here [X.here.top, hx, hb, hdg, hmeth', hr, ret, narrow_b1]
  (try refine ⟨rfl, ?_⟩); (try refine ⟨rfl, ?_⟩)
  first | (intro acts; rw [hret _ acts rfl rfl rfl]) | rw [hret _ _ rfl rfl rfl]
  exact Steps.refl _
/-- what holds at the law's entry: the machine, the code, the tables' words (any of lw_tbl by 'hts w (by decide +kernel)'), the script of L ints xs at the cell b, what the Statement gives of the start (any of its parts by flat_of_before) -/
def lw_At (p : Program) (s : State) (m : MethodId) (meth : Method) (c : Code) (b L : Nat) (xs : Nat → Int32) : Prop :=
  p.tables.exec = Jvm.exec ∧ c.code = code ∧ meth.sig.returnType = ret ∧ c.maxLocals = 4 ∧ s.vm.findClass R_law = some m.cls ∧ (∀ w ∈ lw_tbl, w.before #[Value.ref b] s = true) ∧ va_X b L xs s s.heap ∧ b < s.heap.size ∧ meth.locks = false ∧ (Jvm.Cond.and given_1 narrow_1).before #[Value.ref b] s = true
abbrev Ah (s : State) : Nat → Prop := fun q => s.heap.size ≤ q
def LC (p : Program) (s : State) (m : MethodId) (meth : Method) (c : Code) (D : va_G) (ct : Nat → Nat) (b L : Nat) (xs : Nat → Int32) : Prop := p.tables.exec = Jvm.exec ∧ c.code = cL_law ∧ meth.sig.returnType = ret ∧ c.maxLocals = 4 ∧ s.vm.findClass RL = some m.cls ∧ (∀ w ∈ big, w.before #[Value.ref b] s = true) ∧ meth.locks = false ∧ KB D ct s ∧ va_X b L xs s s.heap ∧ b < s.heap.size
/-- the law's machine, both objects made: the script stands at place 1000 -/
def GL (l : Launch) (b L : Nat) (xs : Nat → Int32) (pc : Nat) (ls : List (Option Value)) (st : List Value) (w : List va_E) : Prop :=
  ∀ (p : Program) (e : Env) (s : State) (m : MethodId) (below : List Frame) (meth : Method) (c : Code) (D : va_G) (ct ad : Nat → Nat) (H : Heap) (locs : List Loc) (la : Array Slot), LC p s m meth c D ct b L xs → ad 1000 = b → va_P D vwCl (wa ct ad w) H → va_D (Ah s) (wa ct ad w) → va_S (Ah s) s.heap H locs → LR ad 4 ls la → W p l e room_1 s m #[Value.ref b] below meth c H locs 118 1467 (lw_Z below #[Value.ref b] s) (F0 m pc la (st.map (rv ad)))
section GLs
variable {l : Launch} {b L : Nat} {xs : Nat → Int32} {pc n : Nat} {ls : List (Option Value)} {st rest : List Value} {w : List va_E}
theorem gl_aload_n {k : Fin 4} {x : Nat} (hd : decode cL_law pc = .ok (.aload_n k, 1)) (hl : ls[(k : Nat)]? = some (some (.ref x))) (hn : pc + 1 = n) (kk : GL l b L xs n ls (.ref x :: st) w) : GL l b L xs pc ls st w := by
  subst hn
  intro p e s m below meth c D ct ad H locs la C hb hP hD hS hL
  exact lv_aload_n C.1 C.2.1 hd rfl (hL.2.2 _ _ hl) (kk p e s m below meth c D ct ad H locs la C hb hP hD hS hL)
theorem gl_iload_n {k : Fin 4} {x : Int32} (hd : decode cL_law pc = .ok (.iload_n k, 1)) (hl : ls[(k : Nat)]? = some (some (.int x))) (hn : pc + 1 = n) (kk : GL l b L xs n ls (.int x :: st) w) : GL l b L xs pc ls st w := by
  subst hn
  intro p e s m below meth c D ct ad H locs la C hb hP hD hS hL
  exact lv_iload_n C.1 C.2.1 hd rfl (hL.2.2 _ _ hl) (kk p e s m below meth c D ct ad H locs la C hb hP hD hS hL)
theorem gl_istore_n {k : Fin 4} {x : Int32} (hd : decode cL_law pc = .ok (.istore_n k, 1)) (hi : (k : Nat) < 4) (h2 : nl2 ls k = true) (hn : pc + 1 = n) (kk : GL l b L xs n (ls.set k (some (.int x))) st w) : GL l b L xs pc ls (.int x :: st) w := by
  subst hn
  intro p e s m below meth c D ct ad H locs la C hb hP hD hS hL
  exact lv_istore_n C.1 C.2.1 hd rfl hL.has hi rfl (fun la' h' => kk p e s m below meth c D ct ad H locs la' C hb hP hD hS (LR.store1 (v := .int x) h2 h'))
theorem gl_iconst {k : Int} {v : Int32} (hd : decode cL_law pc = .ok (.iconst k, 1)) (hv : Int32.ofInt k = v) (hn : pc + 1 = n) (kk : GL l b L xs n ls (.int v :: st) w) : GL l b L xs pc ls st w := by
  subst hn
  intro p e s m below meth c D ct ad H locs la C hb hP hD hS hL
  exact lv_iconst C.1 C.2.1 hd hv (kk p e s m below meth c D ct ad H locs la C hb hP hD hS hL)
theorem gl_bipush {k : Int} {v : Int32} (hd : decode cL_law pc = .ok (.bipush k, 2)) (hv : (Int8.ofInt k).toInt32 = v) (hn : pc + 2 = n) (kk : GL l b L xs n ls (.int v :: st) w) : GL l b L xs pc ls st w := by
  subst hn
  intro p e s m below meth c D ct ad H locs la C hb hP hD hS hL
  exact lv_bipush C.1 C.2.1 hd hv (kk p e s m below meth c D ct ad H locs la C hb hP hD hS hL)
theorem gl_iadd {x y : Int32} (hd : decode cL_law pc = .ok (.iadd, 1)) (hn : pc + 1 = n) (kk : GL l b L xs n ls (.int (x + y) :: st) w) : GL l b L xs pc ls (.int y :: .int x :: st) w := by
  subst hn
  intro p e s m below meth c D ct ad H locs la C hb hP hD hS hL
  exact lv_iadd C.1 C.2.1 hd (kk p e s m below meth c D ct ad H locs la C hb hP hD hS hL)
theorem gl_isub {x y : Int32} (hd : decode cL_law pc = .ok (.isub, 1)) (hn : pc + 1 = n) (kk : GL l b L xs n ls (.int (x - y) :: st) w) : GL l b L xs pc ls (.int y :: .int x :: st) w := by
  subst hn
  intro p e s m below meth c D ct ad H locs la C hb hP hD hS hL
  exact lv_isub C.1 C.2.1 hd (kk p e s m below meth c D ct ad H locs la C hb hP hD hS hL)
theorem gl_iand {x y : Int32} (hd : decode cL_law pc = .ok (.iand, 1)) (hn : pc + 1 = n) (kk : GL l b L xs n ls (.int (x &&& y) :: st) w) : GL l b L xs pc ls (.int y :: .int x :: st) w := by
  subst hn
  intro p e s m below meth c D ct ad H locs la C hb hP hD hS hL
  exact lv_iand C.1 C.2.1 hd (kk p e s m below meth c D ct ad H locs la C hb hP hD hS hL)
theorem gl_iinc {i : Nat} {k : Int} {x v : Int32} (hd : decode cL_law pc = .ok (.iinc i k, 3)) (hl : ls[i]? = some (some (.int x))) (hv : x + Int32.ofInt k = v) (hi : i < 4) (h2 : nl2 ls i = true) (hn : pc + 3 = n) (kk : GL l b L xs n (ls.set i (some (.int v))) st w) : GL l b L xs pc ls st w := by
  subst hn
  intro p e s m below meth c D ct ad H locs la C hb hP hD hS hL
  obtain ⟨j, hj⟩ := List.getElem?_of_mem (lpr_mem (ad := ad) hl)
  exact lv_iinc C.1 C.2.1 hd hL.has hj hv hi rfl (fun la' h' => kk p e s m below meth c D ct ad H locs la' C hb hP hD hS (LR.store1 (v := .int v) h2 h'))
theorem gl_iincN {i : Nat} {x k : Nat} (hd : decode cL_law pc = .ok (.iinc i (k : Int), 3)) (hl : ls[i]? = some (some (.int (nI x)))) (hi : i < 4) (h2 : nl2 ls i = true) (hn : pc + 3 = n) (kk : GL l b L xs n (ls.set i (some (.int (nI (x + k))))) st w) : GL l b L xs pc ls st w :=
  gl_iinc hd hl (by rw [← nI_add]; rfl) hi h2 hn kk
theorem gl_icmp_eq {x y : Int32} {off : Int} {tgt : Nat} (hd : decode cL_law pc = .ok (.if_icmp .eq off, 3)) (ht : (pc : Int) + off = (tgt : Int)) (hn : pc + 3 = n) (kt : x = y → GL l b L xs tgt ls st w) (kf : ¬ x = y → GL l b L xs n ls st w) : GL l b L xs pc ls (.int y :: .int x :: st) w := by
  subst hn
  intro p e s m below meth c D ct ad H locs la C hb hP hD hS hL
  exact lv_icmp_eq C.1 C.2.1 hd ht (fun q => kt q p e s m below meth c D ct ad H locs la C hb hP hD hS hL) (fun q => kf q p e s m below meth c D ct ad H locs la C hb hP hD hS hL)
theorem gl_icmp_gt {x y : Int32} {off : Int} {tgt : Nat} (hd : decode cL_law pc = .ok (.if_icmp .gt off, 3)) (ht : (pc : Int) + off = (tgt : Int)) (hn : pc + 3 = n) (kt : y < x → GL l b L xs tgt ls st w) (kf : ¬ y < x → GL l b L xs n ls st w) : GL l b L xs pc ls (.int y :: .int x :: st) w := by
  subst hn
  intro p e s m below meth c D ct ad H locs la C hb hP hD hS hL
  exact lv_icmp_gt C.1 C.2.1 hd ht (fun q => kt q p e s m below meth c D ct ad H locs la C hb hP hD hS hL) (fun q => kf q p e s m below meth c D ct ad H locs la C hb hP hD hS hL)
theorem gl_goto {off : Int} {tgt : Nat} (hd : decode cL_law pc = .ok (.goto off, 3)) (ht : (pc : Int) + off = (tgt : Int)) (kk : GL l b L xs tgt ls st w) : GL l b L xs pc ls st w := by
  intro p e s m below meth c D ct ad H locs la C hb hP hD hS hL
  exact lv_goto C.1 C.2.1 hd ht (kk p e s m below meth c D ct ad H locs la C hb hP hD hS hL)
theorem gl_tableOut {dflt lo hi : Int} {offs : Array Int} {len : Nat} {x : Int32} {tgt : Nat} (hd : decode cL_law pc = .ok (.tableswitch dflt lo hi offs, len)) (h : x.toInt < lo ∨ hi < x.toInt) (ht : (pc : Int) + dflt = (tgt : Int)) (kk : GL l b L xs tgt ls st w) : GL l b L xs pc ls (.int x :: st) w := by
  intro p e s m below meth c D ct ad H locs la C hb hP hD hS hL
  exact lv_tableOut C.1 C.2.1 hd h ht (kk p e s m below meth c D ct ad H locs la C hb hP hD hS hL)
theorem gl_tableIn {dflt lo hi : Int} {offs : Array Int} {len : Nat} {x : Int32} {off : Int} {tgt : Nat} (hd : decode cL_law pc = .ok (.tableswitch dflt lo hi offs, len)) (g1 : ¬ x.toInt < lo) (g2 : ¬ hi < x.toInt) (ho : offs[(x.toInt - lo).toNat]? = some off) (ht : (pc : Int) + off = (tgt : Int)) (kk : GL l b L xs tgt ls st w) : GL l b L xs pc ls (.int x :: st) w := by
  intro p e s m below meth c D ct ad H locs la C hb hP hD hS hL
  exact lv_tableIn C.1 C.2.1 hd g1 g2 ho ht (kk p e s m below meth c D ct ad H locs la C hb hP hD hS hL)
theorem gl_top {x y : Int32} (h : x = y) (kk : GL l b L xs pc ls (.int y :: st) w) : GL l b L xs pc ls (.int x :: st) w := h ▸ kk
theorem gl_iaddN {x y : Nat} (hd : decode cL_law pc = .ok (.iadd, 1)) (hn : pc + 1 = n) (kk : GL l b L xs n ls (.int (nI (x + y)) :: st) w) : GL l b L xs pc ls (.int (nI y) :: .int (nI x) :: st) w := gl_iadd hd hn (gl_top (nI_add x y) kk)
theorem gl_lsN {ls' : List (Option Value)} (h : ls = ls') (kk : GL l b L xs pc ls' st w) : GL l b L xs pc ls st w := h ▸ kk
theorem gl_len (hd : decode cL_law pc = .ok (.arraylength, 1)) (hn : pc + 1 = n) (kk : GL l b L xs n ls (.int (nI L) :: st) w) : GL l b L xs pc ls (.ref 1000 :: st) w := by
  subst hn
  intro p e s m below meth c D ct ad H locs la C hb hP hD hS hL
  have e1 : (Value.ref 1000 :: st).map (rv ad) = .ref b :: st.map (rv ad) := by rw [← hb]; rfl
  rw [e1]
  exact va_slen C.1 C.2.1 C.2.2.2.2.2.2.2.2.1 C.2.2.2.2.2.2.2.2.2 (Nat.not_le.mpr C.2.2.2.2.2.2.2.2.2) hS hd (kk p e s m below meth c D ct ad H locs la C hb hP hD hS hL)
theorem gl_sld {i : Nat} (hi : i < L) (hL2 : L ≤ 2048) (hd : decode cL_law pc = .ok (.iaload, 1)) (hn : pc + 1 = n) (kk : GL l b L xs n ls (.int (xs i) :: st) w) : GL l b L xs pc ls (.int (nI i) :: .ref 1000 :: st) w := by
  subst hn
  intro p e s m below meth c D ct ad H locs la C hb hP hD hS hL
  have e1 : (Value.int (nI i) :: Value.ref 1000 :: st).map (rv ad) = .int (nI i) :: .ref b :: st.map (rv ad) := by rw [← hb]; rfl
  rw [e1]
  refine va_sld C.1 C.2.1 C.2.2.2.2.2.2.2.2.1 C.2.2.2.2.2.2.2.2.2 (Nat.not_le.mpr C.2.2.2.2.2.2.2.2.2) hS (vp_in_nI hi (by omega)) hd ?_
  rw [nI_clamp (by omega)]
  exact kk p e s m below meth c D ct ad H locs la C hb hP hD hS hL
theorem gl_callW {M' : MC} {ix nA b0 ci : Nat} {cav : List Value} {Q' : Option Value → List va_E → Prop} {fs : List Value} (hcall : CV RL ix M' nA) (hcon : Con l M' (.ref b0 :: cav) w Q') (hd : decode cL_law pc = .ok (.invokevirtual ix, 3)) (hst : st = cav.reverse ++ .ref b0 :: rest)
    (hdp : mdp M' ≤ 100 ∧ mlo M' ≤ 29 ∧ mkc M' = 0 ∧ mks M' = 0) (hrc : w[b0]? = some (.inr (ci, fs))) (hci : (vwCl[ci]?).map (fun r => r.1) = some (mnm M').cls) (hna : cav.length = nA) (hrs : (rest.map fun v => v.category).sum ≤ 8) (hn : pc + 3 = n)
    (kk : ∀ (r : Option Value) (w' : List va_E), Q' r w' → w'.length = w.length ∧ GL l b L xs n ls (r.toList ++ rest) w') : GL l b L xs pc ls st w := by
  subst hn
  subst hst
  obtain ⟨⟨hini, hcode, hy⟩, hlk, him, hsel⟩ := hcall
  obtain ⟨d1, d2, d3, d4⟩ := hdp
  intro p e s m below meth c D ct ad H locs la C hb hP hD hS hL
  have hts := C.2.2.2.2.2.1
  have hF : ∀ q, va_A (wa ct ad w) H.size q → Ah s q := fun q h => by
    rcases h with ⟨k, e1, h⟩ | h
    · exact hD.2 k _ h
    · exact Nat.le_trans hS.1 h
  obtain ⟨q0, hq0⟩ : ∃ q0, vwCl[ci]? = some q0 := by
    cases hx : vwCl[ci]? with
    | none => rw [hx] at hci; cases hci
    | some q => exact ⟨q, rfl⟩
  have hq1 : q0.1 = (mnm M').cls := by rw [hq0] at hci; exact Option.some.inj hci
  have hM := hcon D ct ad H.size
  rw [d3, d4] at hM
  refine run_back (cw := w) (rest := rest.map (rv ad)) (va_runV (C := (mnm M').cls) (b := ad b0) (As := cav.map (rv ad)) ⟨C.1, C.2.1, C.2.2.2.1, C.2.2.2.2.1, hts⟩ hM
    ⟨callB_of nA hts (good_big hcode) rfl rfl rfl (hts _ hini) (hts _ hlk) hy ⟨by show mdp M' + 1 ≤ 2048; omega, by show 8 + (mlo M' + 11) + 48 * mdp M' ≤ 84000; omega⟩, hts _ him, hts _ hsel⟩
    ⟨Pm_blind, by rw [← hq1]; exact va_recv C.2.2.2.2.2.2.2.1.1 hP hq0 (wa_at hrc), fun U hU hW => ⟨rfl, by rw [hU], by rw [hU]; exact hP, KB.moved hW C.2.2.2.2.2.2.2.1, hD.weaken (fun _ _ _ _ => trivial)⟩⟩
    rfl (by rw [List.length_map]; exact hna) hL.1 (by show List.map (rv ad) _ = _; rw [List.map_append, List.map_reverse]; rfl) (by show 2 * 0 + _ ≤ 8; rw [cat_map]; omega) hd ⟨by decide, by decide⟩) hS hF (fun r w' H1 locs1 hq hP1 hD1 hk1 hS1 => ?_)
  obtain ⟨hlen, hG⟩ := kk r w' hq
  have e9 : (r.map (rv ad)).toList ++ rest.map (rv ad) = (r.toList ++ rest).map (rv ad) := by cases r <;> rfl
  rw [e9]
  exact hG p e s m below meth c D ct ad H1 locs1 la C hb hP1 (va_D_addr hlen hD) hS1 hL
theorem gl_ret (hd : decode cL_law pc = .ok (.ireturn, 1)) : GL l b L xs pc ls [.int (nI 1)] w := by
  intro p e s m below meth c D ct ad H locs la C hb hP hD hS hL
  refine va_forget hS.2.2 (W.widen (k := 600000) (n := 7302250) (by decide) (by decide) ?_)
  exact lw_ret C.1 C.2.1 C.2.2.1 C.2.2.2.2.2.2.1 hd
/-- an argument out of the script -/
theorem gl_arg {k j : Nat} (hj : k + j < L) (hL2 : L ≤ 2048) (hl0 : ls[0]? = some (some (.ref 1000))) (hl3 : ls[3]? = some (some (.int (nI k)))) (hd0 : decode cL_law pc = .ok (.aload_n 0, 1)) (hd1 : decode cL_law (pc + 1) = .ok (.iload_n 3, 1)) (hd2 : decode cL_law (pc + 2) = .ok (.iconst (j : Int), 1)) (hd3 : decode cL_law (pc + 3) = .ok (.iadd, 1)) (hd4 : decode cL_law (pc + 4) = .ok (.iaload, 1)) (hn : pc + 5 = n) (kk : GL l b L xs n ls (.int (xs (k + j)) :: st) w) : GL l b L xs pc ls st w := by
  subst hn
  refine gl_aload_n (n := pc + 1) hd0 hl0 rfl ?_
  refine gl_iload_n (n := pc + 2) hd1 hl3 rfl ?_
  refine gl_iconst (v := nI j) (n := pc + 3) hd2 rfl rfl ?_
  refine gl_iaddN (n := pc + 4) hd3 rfl ?_
  exact gl_sld hj hL2 hd4 rfl kk
end GLs
abbrev lsL (k : Nat) : List (Option Value) := [some (.ref 1000), some (.ref 0), some (.ref 109), some (.int (nI k))]
theorem co_recv {H : Nat} {w : List va_E} (h : CoI H w) : ∃ fs, w[0]? = some (.inr (8, fs)) := by
  obtain ⟨ke, la, sp, n, tf, S, tn, sz, P, K, V, dn, fb, e, to, s, hI, hm, hC⟩ := h
  exact ⟨_, hI.2.2.1⟩
theorem co_w {H H2 : Nat} (hh : H ≤ H2) {w : List va_E} (h : CoI H w) : CoI H2 w := by
  obtain ⟨ke, la, sp, n, tf, S, tn, sz, P, K, V, dn, fb, e, to, s, hI, hm, hC⟩ := h
  exact ⟨ke, la, sp, n, tf, S, tn, sz, P, K, V, dn, fb, e, to, s, hI, hm, cp_w hh hC⟩
theorem and31 (x : Int32) : ∃ c : Nat, c < 32 ∧ x &&& nI 31 = nI c := by
  have hz : ∀ j, 5 ≤ j → j < 32 → hb (x &&& nI 31) (nI j) = false := fun j h5 hj => by
    rw [hb_and _ _ hj, hb_hi (n := 5) (by decide) h5 hj, Bool.and_false]
  obtain ⟨k, hk, e⟩ := okN_of (x := x &&& nI 31) (fun j h8 hj => hz j (by omega) hj)
  refine ⟨k, ?_, e⟩
  have t : ∀ j, 5 ≤ j → j < 8 → k.testBit j = false := fun j h5 h8 => by
    have := hz j h5 (by omega)
    rw [e, hb_nI k (by omega)] at this
    exact this
  exact (by decide +kernel : ∀ k, k < 256 → k.testBit 5 = false → k.testBit 6 = false → k.testBit 7 = false → k < 32) k hk (t 5 (by decide) (by decide)) (t 6 (by decide) (by decide)) (t 7 (by decide) (by decide))
theorem lw_more {L k : Nat} (hL : L ≤ 2048) (hk : k ≤ 4000) (h : ¬ nI L - nI 4 < nI k) : k + 4 ≤ L := by
  rcases Nat.lt_or_ge L (k + 4) with q | q
  · exfalso
    apply h
    rcases Nat.lt_or_ge L 4 with r | r
    · rw [Int32.lt_iff_toInt_lt, nI_toInt (by omega)]
      have : ∀ L, L < 4 → (nI L - nI 4).toInt < 0 := by decide +kernel
      have := this L r
      omega
    · have e : nI L - nI 4 = nI (L - 4) := pk_sub r
      rw [e]
      exact nI_lt (by omega) (by omega)
  · exact q
section LB
variable {l : Launch} {b L : Nat} {xs : Nat → Int32} {w : List va_E} {k H : Nat}
set_option maxRecDepth 20000 in
theorem lw_call0 {M8 M9 : MC} {pc ix ix2 : Nat} {off : Int} (e0 : decode cL_law pc = .ok (.aload_n 1, 1)) (e1 : decode cL_law (pc + 1) = .ok (.invokevirtual ix, 3)) (e4 : decode cL_law (pc + 4) = .ok (.aload_n 2, 1)) (e5 : decode cL_law (pc + 5) = .ok (.invokevirtual ix2, 3)) (e8 : decode cL_law (pc + 8) = .ok (.if_icmp .eq off, 3)) (hof : ((pc + 8 : Nat) : Int) + off = (733 : Nat)) (h8 : CV RL ix M8 0) (h9 : CV RL ix2 M9 0) (d8 : mdp M8 ≤ 100 ∧ mlo M8 ≤ 29 ∧ mkc M8 = 0 ∧ mks M8 = 0) (d9 : mdp M9 ≤ 100 ∧ mlo M9 ≤ 29 ∧ mkc M9 = 0 ∧ mks M9 = 0) (n8 : (vwCl[8]?).map (fun r => r.1) = some (mnm M8).cls) (n9 : (vwCl[9]?).map (fun r => r.1) = some (mnm M9).cls) (hL : L ≤ 2048) (hk : k + 4 ≤ L) (hC : CoI H w) (hs : Sby l M8 M9 [] H w) (kk : ∀ u, CoI (H + 24) u → GL l b L xs 733 (lsL k) [] u) : GL l b L xs pc (lsL k) [] w := by
  obtain ⟨v, Mid, hc8, hc9⟩ := hs
  obtain ⟨fs, hr⟩ := co_recv hC
  refine gl_aload_n (n := pc + 1) e0 rfl rfl ?_
  refine gl_callW (n := pc + 4) (b0 := 0) (ci := 8) (rest := []) h8 hc8 e1 rfl d8 hr n8 rfl (by decide) rfl (fun r u hq => ?_)
  obtain ⟨rfl, hmid⟩ := hq
  obtain ⟨⟨hlen, fs9, hr9⟩, hc9⟩ := hc9 u hmid
  refine ⟨hlen, ?_⟩
  refine gl_aload_n (n := pc + 5) e4 rfl rfl ?_
  refine gl_callW (n := pc + 8) (b0 := 109) (ci := 9) (rest := [.int v]) h9 hc9 e5 rfl d9 hr9 n9 rfl (Nat.le_of_ble_eq_true rfl) rfl (fun r u2 hq => ?_)
  obtain ⟨rfl, hco, hl2⟩ := hq
  refine ⟨hl2.trans hlen.symm, ?_⟩
  refine gl_icmp_eq (tgt := 733) (n := pc + 11) e8 hof rfl (fun _ => kk u2 hco) (fun h => absurd rfl h)
set_option maxRecDepth 20000 in
theorem lw_call1 {M8 M9 : MC} {pc ix ix2 : Nat} {off : Int} (e0 : decode cL_law pc = .ok (.aload_n 1, 1)) (e1 : decode cL_law (pc + 1) = .ok (.aload_n 0, 1)) (e2 : decode cL_law (pc + 2) = .ok (.iload_n 3, 1)) (e3 : decode cL_law (pc + 3) = .ok (.iconst 1, 1)) (e4 : decode cL_law (pc + 4) = .ok (.iadd, 1)) (e5 : decode cL_law (pc + 5) = .ok (.iaload, 1)) (e6 : decode cL_law (pc + 6) = .ok (.invokevirtual ix, 3)) (e9 : decode cL_law (pc + 9) = .ok (.aload_n 2, 1)) (e10 : decode cL_law (pc + 10) = .ok (.aload_n 0, 1)) (e11 : decode cL_law (pc + 11) = .ok (.iload_n 3, 1)) (e12 : decode cL_law (pc + 12) = .ok (.iconst 1, 1)) (e13 : decode cL_law (pc + 13) = .ok (.iadd, 1)) (e14 : decode cL_law (pc + 14) = .ok (.iaload, 1)) (e15 : decode cL_law (pc + 15) = .ok (.invokevirtual ix2, 3)) (e18 : decode cL_law (pc + 18) = .ok (.if_icmp .eq off, 3)) (hof : ((pc + 18 : Nat) : Int) + off = (733 : Nat)) (h8 : CV RL ix M8 1) (h9 : CV RL ix2 M9 1) (d8 : mdp M8 ≤ 100 ∧ mlo M8 ≤ 29 ∧ mkc M8 = 0 ∧ mks M8 = 0) (d9 : mdp M9 ≤ 100 ∧ mlo M9 ≤ 29 ∧ mkc M9 = 0 ∧ mks M9 = 0) (n8 : (vwCl[8]?).map (fun r => r.1) = some (mnm M8).cls) (n9 : (vwCl[9]?).map (fun r => r.1) = some (mnm M9).cls) (hL : L ≤ 2048) (hk : k + 4 ≤ L) (hC : CoI H w) (hs : Sby l M8 M9 [.int (xs (k + 1))] H w) (kk : ∀ u, CoI (H + 24) u → GL l b L xs 733 (lsL k) [] u) : GL l b L xs pc (lsL k) [] w := by
  obtain ⟨v, Mid, hc8, hc9⟩ := hs
  obtain ⟨fs, hr⟩ := co_recv hC
  refine gl_aload_n (n := pc + 1) e0 rfl rfl ?_
  refine gl_arg (k := k) (j := 1) (n := pc + 6) (by omega) hL rfl rfl e1 e2 e3 e4 e5 rfl ?_
  refine gl_callW (n := pc + 9) (b0 := 0) (ci := 8) (rest := []) h8 hc8 e6 rfl d8 hr n8 rfl (by decide) rfl (fun r u hq => ?_)
  obtain ⟨rfl, hmid⟩ := hq
  obtain ⟨⟨hlen, fs9, hr9⟩, hc9⟩ := hc9 u hmid
  refine ⟨hlen, ?_⟩
  refine gl_aload_n (n := pc + 10) e9 rfl rfl ?_
  refine gl_arg (k := k) (j := 1) (n := pc + 15) (by omega) hL rfl rfl e10 e11 e12 e13 e14 rfl ?_
  refine gl_callW (n := pc + 18) (b0 := 109) (ci := 9) (rest := [.int v]) h9 hc9 e15 rfl d9 hr9 n9 rfl (Nat.le_of_ble_eq_true rfl) rfl (fun r u2 hq => ?_)
  obtain ⟨rfl, hco, hl2⟩ := hq
  refine ⟨hl2.trans hlen.symm, ?_⟩
  refine gl_icmp_eq (tgt := 733) (n := pc + 21) e18 hof rfl (fun _ => kk u2 hco) (fun h => absurd rfl h)
set_option maxRecDepth 20000 in
theorem lw_call2 {M8 M9 : MC} {pc ix ix2 : Nat} {off : Int} (e0 : decode cL_law pc = .ok (.aload_n 1, 1)) (e1 : decode cL_law (pc + 1) = .ok (.aload_n 0, 1)) (e2 : decode cL_law (pc + 2) = .ok (.iload_n 3, 1)) (e3 : decode cL_law (pc + 3) = .ok (.iconst 1, 1)) (e4 : decode cL_law (pc + 4) = .ok (.iadd, 1)) (e5 : decode cL_law (pc + 5) = .ok (.iaload, 1)) (e6 : decode cL_law (pc + 6) = .ok (.aload_n 0, 1)) (e7 : decode cL_law (pc + 7) = .ok (.iload_n 3, 1)) (e8 : decode cL_law (pc + 8) = .ok (.iconst 2, 1)) (e9 : decode cL_law (pc + 9) = .ok (.iadd, 1)) (e10 : decode cL_law (pc + 10) = .ok (.iaload, 1)) (e11 : decode cL_law (pc + 11) = .ok (.invokevirtual ix, 3)) (e14 : decode cL_law (pc + 14) = .ok (.aload_n 2, 1)) (e15 : decode cL_law (pc + 15) = .ok (.aload_n 0, 1)) (e16 : decode cL_law (pc + 16) = .ok (.iload_n 3, 1)) (e17 : decode cL_law (pc + 17) = .ok (.iconst 1, 1)) (e18 : decode cL_law (pc + 18) = .ok (.iadd, 1)) (e19 : decode cL_law (pc + 19) = .ok (.iaload, 1)) (e20 : decode cL_law (pc + 20) = .ok (.aload_n 0, 1)) (e21 : decode cL_law (pc + 21) = .ok (.iload_n 3, 1)) (e22 : decode cL_law (pc + 22) = .ok (.iconst 2, 1)) (e23 : decode cL_law (pc + 23) = .ok (.iadd, 1)) (e24 : decode cL_law (pc + 24) = .ok (.iaload, 1)) (e25 : decode cL_law (pc + 25) = .ok (.invokevirtual ix2, 3)) (e28 : decode cL_law (pc + 28) = .ok (.if_icmp .eq off, 3)) (hof : ((pc + 28 : Nat) : Int) + off = (733 : Nat)) (h8 : CV RL ix M8 2) (h9 : CV RL ix2 M9 2) (d8 : mdp M8 ≤ 100 ∧ mlo M8 ≤ 29 ∧ mkc M8 = 0 ∧ mks M8 = 0) (d9 : mdp M9 ≤ 100 ∧ mlo M9 ≤ 29 ∧ mkc M9 = 0 ∧ mks M9 = 0) (n8 : (vwCl[8]?).map (fun r => r.1) = some (mnm M8).cls) (n9 : (vwCl[9]?).map (fun r => r.1) = some (mnm M9).cls) (hL : L ≤ 2048) (hk : k + 4 ≤ L) (hC : CoI H w) (hs : Sby l M8 M9 [.int (xs (k + 1)), .int (xs (k + 2))] H w) (kk : ∀ u, CoI (H + 24) u → GL l b L xs 733 (lsL k) [] u) : GL l b L xs pc (lsL k) [] w := by
  obtain ⟨v, Mid, hc8, hc9⟩ := hs
  obtain ⟨fs, hr⟩ := co_recv hC
  refine gl_aload_n (n := pc + 1) e0 rfl rfl ?_
  refine gl_arg (k := k) (j := 1) (n := pc + 6) (by omega) hL rfl rfl e1 e2 e3 e4 e5 rfl ?_
  refine gl_arg (k := k) (j := 2) (n := pc + 11) (by omega) hL rfl rfl e6 e7 e8 e9 e10 rfl ?_
  refine gl_callW (n := pc + 14) (b0 := 0) (ci := 8) (rest := []) h8 hc8 e11 rfl d8 hr n8 rfl (by decide) rfl (fun r u hq => ?_)
  obtain ⟨rfl, hmid⟩ := hq
  obtain ⟨⟨hlen, fs9, hr9⟩, hc9⟩ := hc9 u hmid
  refine ⟨hlen, ?_⟩
  refine gl_aload_n (n := pc + 15) e14 rfl rfl ?_
  refine gl_arg (k := k) (j := 1) (n := pc + 20) (by omega) hL rfl rfl e15 e16 e17 e18 e19 rfl ?_
  refine gl_arg (k := k) (j := 2) (n := pc + 25) (by omega) hL rfl rfl e20 e21 e22 e23 e24 rfl ?_
  refine gl_callW (n := pc + 28) (b0 := 109) (ci := 9) (rest := [.int v]) h9 hc9 e25 rfl d9 hr9 n9 rfl (Nat.le_of_ble_eq_true rfl) rfl (fun r u2 hq => ?_)
  obtain ⟨rfl, hco, hl2⟩ := hq
  refine ⟨hl2.trans hlen.symm, ?_⟩
  refine gl_icmp_eq (tgt := 733) (n := pc + 31) e28 hof rfl (fun _ => kk u2 hco) (fun h => absurd rfl h)
set_option maxRecDepth 20000 in
theorem lw_call3 {M8 M9 : MC} {pc ix ix2 : Nat} {off : Int} (e0 : decode cL_law pc = .ok (.aload_n 1, 1)) (e1 : decode cL_law (pc + 1) = .ok (.aload_n 0, 1)) (e2 : decode cL_law (pc + 2) = .ok (.iload_n 3, 1)) (e3 : decode cL_law (pc + 3) = .ok (.iconst 1, 1)) (e4 : decode cL_law (pc + 4) = .ok (.iadd, 1)) (e5 : decode cL_law (pc + 5) = .ok (.iaload, 1)) (e6 : decode cL_law (pc + 6) = .ok (.aload_n 0, 1)) (e7 : decode cL_law (pc + 7) = .ok (.iload_n 3, 1)) (e8 : decode cL_law (pc + 8) = .ok (.iconst 2, 1)) (e9 : decode cL_law (pc + 9) = .ok (.iadd, 1)) (e10 : decode cL_law (pc + 10) = .ok (.iaload, 1)) (e11 : decode cL_law (pc + 11) = .ok (.aload_n 0, 1)) (e12 : decode cL_law (pc + 12) = .ok (.iload_n 3, 1)) (e13 : decode cL_law (pc + 13) = .ok (.iconst 3, 1)) (e14 : decode cL_law (pc + 14) = .ok (.iadd, 1)) (e15 : decode cL_law (pc + 15) = .ok (.iaload, 1)) (e16 : decode cL_law (pc + 16) = .ok (.invokevirtual ix, 3)) (e19 : decode cL_law (pc + 19) = .ok (.aload_n 2, 1)) (e20 : decode cL_law (pc + 20) = .ok (.aload_n 0, 1)) (e21 : decode cL_law (pc + 21) = .ok (.iload_n 3, 1)) (e22 : decode cL_law (pc + 22) = .ok (.iconst 1, 1)) (e23 : decode cL_law (pc + 23) = .ok (.iadd, 1)) (e24 : decode cL_law (pc + 24) = .ok (.iaload, 1)) (e25 : decode cL_law (pc + 25) = .ok (.aload_n 0, 1)) (e26 : decode cL_law (pc + 26) = .ok (.iload_n 3, 1)) (e27 : decode cL_law (pc + 27) = .ok (.iconst 2, 1)) (e28 : decode cL_law (pc + 28) = .ok (.iadd, 1)) (e29 : decode cL_law (pc + 29) = .ok (.iaload, 1)) (e30 : decode cL_law (pc + 30) = .ok (.aload_n 0, 1)) (e31 : decode cL_law (pc + 31) = .ok (.iload_n 3, 1)) (e32 : decode cL_law (pc + 32) = .ok (.iconst 3, 1)) (e33 : decode cL_law (pc + 33) = .ok (.iadd, 1)) (e34 : decode cL_law (pc + 34) = .ok (.iaload, 1)) (e35 : decode cL_law (pc + 35) = .ok (.invokevirtual ix2, 3)) (e38 : decode cL_law (pc + 38) = .ok (.if_icmp .eq off, 3)) (hof : ((pc + 38 : Nat) : Int) + off = (733 : Nat)) (h8 : CV RL ix M8 3) (h9 : CV RL ix2 M9 3) (d8 : mdp M8 ≤ 100 ∧ mlo M8 ≤ 29 ∧ mkc M8 = 0 ∧ mks M8 = 0) (d9 : mdp M9 ≤ 100 ∧ mlo M9 ≤ 29 ∧ mkc M9 = 0 ∧ mks M9 = 0) (n8 : (vwCl[8]?).map (fun r => r.1) = some (mnm M8).cls) (n9 : (vwCl[9]?).map (fun r => r.1) = some (mnm M9).cls) (hL : L ≤ 2048) (hk : k + 4 ≤ L) (hC : CoI H w) (hs : Sby l M8 M9 [.int (xs (k + 1)), .int (xs (k + 2)), .int (xs (k + 3))] H w) (kk : ∀ u, CoI (H + 24) u → GL l b L xs 733 (lsL k) [] u) : GL l b L xs pc (lsL k) [] w := by
  obtain ⟨v, Mid, hc8, hc9⟩ := hs
  obtain ⟨fs, hr⟩ := co_recv hC
  refine gl_aload_n (n := pc + 1) e0 rfl rfl ?_
  refine gl_arg (k := k) (j := 1) (n := pc + 6) (by omega) hL rfl rfl e1 e2 e3 e4 e5 rfl ?_
  refine gl_arg (k := k) (j := 2) (n := pc + 11) (by omega) hL rfl rfl e6 e7 e8 e9 e10 rfl ?_
  refine gl_arg (k := k) (j := 3) (n := pc + 16) (by omega) hL rfl rfl e11 e12 e13 e14 e15 rfl ?_
  refine gl_callW (n := pc + 19) (b0 := 0) (ci := 8) (rest := []) h8 hc8 e16 rfl d8 hr n8 rfl (by decide) rfl (fun r u hq => ?_)
  obtain ⟨rfl, hmid⟩ := hq
  obtain ⟨⟨hlen, fs9, hr9⟩, hc9⟩ := hc9 u hmid
  refine ⟨hlen, ?_⟩
  refine gl_aload_n (n := pc + 20) e19 rfl rfl ?_
  refine gl_arg (k := k) (j := 1) (n := pc + 25) (by omega) hL rfl rfl e20 e21 e22 e23 e24 rfl ?_
  refine gl_arg (k := k) (j := 2) (n := pc + 30) (by omega) hL rfl rfl e25 e26 e27 e28 e29 rfl ?_
  refine gl_arg (k := k) (j := 3) (n := pc + 35) (by omega) hL rfl rfl e30 e31 e32 e33 e34 rfl ?_
  refine gl_callW (n := pc + 38) (b0 := 109) (ci := 9) (rest := [.int v]) h9 hc9 e35 rfl d9 hr9 n9 rfl (Nat.le_of_ble_eq_true rfl) rfl (fun r u2 hq => ?_)
  obtain ⟨rfl, hco, hl2⟩ := hq
  refine ⟨hl2.trans hlen.symm, ?_⟩
  refine gl_icmp_eq (tgt := 733) (n := pc + 41) e38 hof rfl (fun _ => kk u2 hco) (fun h => absurd rfl h)
end LB
set_option maxRecDepth 20000 in
set_option maxHeartbeats 4000000 in
theorem lw_round (l : Launch) {b L : Nat} {xs : Nat → Int32} {w : List va_E} {k H : Nat} (hL : L ≤ 2048) (hk : k + 4 ≤ L) (hH : H ≤ 100000) (hC : CoI H w) (kk : ∀ u, CoI (H + 24) u → GL l b L xs 733 (lsL k) [] u) : GL l b L xs 26 (lsL k) [] w := by
  refine gl_aload_n (n := 27) dL_law_26 rfl rfl ?_
  refine gl_iload_n (n := 28) dL_law_27 rfl rfl ?_
  refine gl_sld (i := k) (n := 29) (by omega) hL dL_law_28 rfl ?_
  refine gl_bipush (v := nI 31) (n := 31) dL_law_29 (by decide) rfl ?_
  refine gl_iand (n := 32) dL_law_31 rfl ?_
  obtain ⟨c, hc, e⟩ := and31 (xs k)
  refine gl_top e ?_
  clear e
  rcases Nat.lt_or_ge c 25 with h25 | h25
  · rcases (show c = 0 ∨ c = 1 ∨ c = 2 ∨ c = 3 ∨ c = 4 ∨ c = 5 ∨ c = 6 ∨ c = 7 ∨ c = 8 ∨ c = 9 ∨ c = 10 ∨ c = 11 ∨ c = 12 ∨ c = 13 ∨ c = 14 ∨ c = 15 ∨ c = 16 ∨ c = 17 ∨ c = 18 ∨ c = 19 ∨ c = 20 ∨ c = 21 ∨ c = 22 ∨ c = 23 ∨ c = 24 by omega) with rfl | rfl | rfl | rfl | rfl | rfl | rfl | rfl | rfl | rfl | rfl | rfl | rfl | rfl | rfl | rfl | rfl | rfl | rfl | rfl | rfl | rfl | rfl | rfl | rfl
    · refine gl_tableIn (off := 116) (tgt := 148) dL_law_32 (by decide) (by decide) (by decide) (by decide) ?_
      exact lw_call1 (M8 := M_X8_write) (M9 := M_X9_write) dL_law_148 dL_law_149 dL_law_150 dL_law_151 dL_law_152 dL_law_153 dL_law_154 dL_law_157 dL_law_158 dL_law_159 dL_law_160 dL_law_161 dL_law_162 dL_law_163 dL_law_166 (by decide) cv_L_13 cv_L_17 ⟨by decide, by decide, rfl, rfl⟩ ⟨by decide, by decide, rfl, rfl⟩ rfl rfl hL hk hC (sp_write l hH hC (xs (k + 1))) kk
    · refine gl_tableIn (off := 139) (tgt := 171) dL_law_32 (by decide) (by decide) (by decide) (by decide) ?_
      exact lw_call0 (M8 := M_X8_wipe) (M9 := M_X9_wipe) dL_law_171 dL_law_172 dL_law_175 dL_law_176 dL_law_179 (by decide) cv_L_18 cv_L_22 ⟨by decide, by decide, rfl, rfl⟩ ⟨by decide, by decide, rfl, rfl⟩ rfl rfl hL hk hC (sp_wipe l hH hC) kk
    · refine gl_tableIn (off := 152) (tgt := 184) dL_law_32 (by decide) (by decide) (by decide) (by decide) ?_
      exact lw_call0 (M8 := M_X8_fault) (M9 := M_X9_fault) dL_law_184 dL_law_185 dL_law_188 dL_law_189 dL_law_192 (by decide) cv_L_23 cv_L_26 ⟨by decide, by decide, rfl, rfl⟩ ⟨by decide, by decide, rfl, rfl⟩ rfl rfl hL hk hC (sp_fault l hH hC) kk
    · refine gl_tableIn (off := 165) (tgt := 197) dL_law_32 (by decide) (by decide) (by decide) (by decide) ?_
      exact lw_call0 (M8 := M_X8_lay) (M9 := M_X9_lay) dL_law_197 dL_law_198 dL_law_201 dL_law_202 dL_law_205 (by decide) cv_L_27 cv_L_30 ⟨by decide, by decide, rfl, rfl⟩ ⟨by decide, by decide, rfl, rfl⟩ rfl rfl hL hk hC (sp_lay l hH hC) kk
    · refine gl_tableIn (off := 178) (tgt := 210) dL_law_32 (by decide) (by decide) (by decide) (by decide) ?_
      exact lw_call2 (M8 := M_X8_bay) (M9 := M_X9_bay) dL_law_210 dL_law_211 dL_law_212 dL_law_213 dL_law_214 dL_law_215 dL_law_216 dL_law_217 dL_law_218 dL_law_219 dL_law_220 dL_law_221 dL_law_224 dL_law_225 dL_law_226 dL_law_227 dL_law_228 dL_law_229 dL_law_230 dL_law_231 dL_law_232 dL_law_233 dL_law_234 dL_law_235 dL_law_238 (by decide) cv_L_31 cv_L_35 ⟨by decide, by decide, rfl, rfl⟩ ⟨by decide, by decide, rfl, rfl⟩ rfl rfl hL hk hC (sp_bay l hH hC (xs (k + 1)) (xs (k + 2))) kk
    · refine gl_tableIn (off := 211) (tgt := 243) dL_law_32 (by decide) (by decide) (by decide) (by decide) ?_
      exact lw_call2 (M8 := M_X8_buttress) (M9 := M_X9_buttress) dL_law_243 dL_law_244 dL_law_245 dL_law_246 dL_law_247 dL_law_248 dL_law_249 dL_law_250 dL_law_251 dL_law_252 dL_law_253 dL_law_254 dL_law_257 dL_law_258 dL_law_259 dL_law_260 dL_law_261 dL_law_262 dL_law_263 dL_law_264 dL_law_265 dL_law_266 dL_law_267 dL_law_268 dL_law_271 (by decide) cv_L_36 cv_L_39 ⟨by decide, by decide, rfl, rfl⟩ ⟨by decide, by decide, rfl, rfl⟩ rfl rfl hL hk hC (sp_buttress l hH hC (xs (k + 1)) (xs (k + 2))) kk
    · refine gl_tableIn (off := 244) (tgt := 276) dL_law_32 (by decide) (by decide) (by decide) (by decide) ?_
      exact lw_call1 (M8 := M_X8_carts) (M9 := M_X9_carts) dL_law_276 dL_law_277 dL_law_278 dL_law_279 dL_law_280 dL_law_281 dL_law_282 dL_law_285 dL_law_286 dL_law_287 dL_law_288 dL_law_289 dL_law_290 dL_law_291 dL_law_294 (by decide) cv_L_40 cv_L_43 ⟨by decide, by decide, rfl, rfl⟩ ⟨by decide, by decide, rfl, rfl⟩ rfl rfl hL hk hC (sp_carts l hH hC (xs (k + 1))) kk
    · refine gl_tableIn (off := 267) (tgt := 299) dL_law_32 (by decide) (by decide) (by decide) (by decide) ?_
      exact lw_call1 (M8 := M_X8_pass) (M9 := M_X9_pass) dL_law_299 dL_law_300 dL_law_301 dL_law_302 dL_law_303 dL_law_304 dL_law_305 dL_law_308 dL_law_309 dL_law_310 dL_law_311 dL_law_312 dL_law_313 dL_law_314 dL_law_317 (by decide) cv_L_44 cv_L_47 ⟨by decide, by decide, rfl, rfl⟩ ⟨by decide, by decide, rfl, rfl⟩ rfl rfl hL hk hC (sp_pass l hH hC (xs (k + 1))) kk
    · refine gl_tableIn (off := 290) (tgt := 322) dL_law_32 (by decide) (by decide) (by decide) (by decide) ?_
      exact lw_call1 (M8 := M_X8_down) (M9 := M_X9_down) dL_law_322 dL_law_323 dL_law_324 dL_law_325 dL_law_326 dL_law_327 dL_law_328 dL_law_331 dL_law_332 dL_law_333 dL_law_334 dL_law_335 dL_law_336 dL_law_337 dL_law_340 (by decide) cv_L_48 cv_L_51 ⟨by decide, by decide, rfl, rfl⟩ ⟨by decide, by decide, rfl, rfl⟩ rfl rfl hL hk hC (sp_down l hH hC (xs (k + 1))) kk
    · refine gl_tableIn (off := 313) (tgt := 345) dL_law_32 (by decide) (by decide) (by decide) (by decide) ?_
      exact lw_call1 (M8 := M_X8_up) (M9 := M_X9_up) dL_law_345 dL_law_346 dL_law_347 dL_law_348 dL_law_349 dL_law_350 dL_law_351 dL_law_354 dL_law_355 dL_law_356 dL_law_357 dL_law_358 dL_law_359 dL_law_360 dL_law_363 (by decide) cv_L_52 cv_L_55 ⟨by decide, by decide, rfl, rfl⟩ ⟨by decide, by decide, rfl, rfl⟩ rfl rfl hL hk hC (sp_up l hH hC (xs (k + 1))) kk
    · refine gl_tableIn (off := 336) (tgt := 368) dL_law_32 (by decide) (by decide) (by decide) (by decide) ?_
      exact lw_call2 (M8 := M_X8_send) (M9 := M_X9_send) dL_law_368 dL_law_369 dL_law_370 dL_law_371 dL_law_372 dL_law_373 dL_law_374 dL_law_375 dL_law_376 dL_law_377 dL_law_378 dL_law_379 dL_law_382 dL_law_383 dL_law_384 dL_law_385 dL_law_386 dL_law_387 dL_law_388 dL_law_389 dL_law_390 dL_law_391 dL_law_392 dL_law_393 dL_law_396 (by decide) cv_L_56 cv_L_59 ⟨by decide, by decide, rfl, rfl⟩ ⟨by decide, by decide, rfl, rfl⟩ rfl rfl hL hk hC (sp_send l hH hC (xs (k + 1)) (xs (k + 2))) kk
    · refine gl_tableIn (off := 369) (tgt := 401) dL_law_32 (by decide) (by decide) (by decide) (by decide) ?_
      exact lw_call0 (M8 := M_X8_undo) (M9 := M_X9_undo) dL_law_401 dL_law_402 dL_law_405 dL_law_406 dL_law_409 (by decide) cv_L_60 cv_L_63 ⟨by decide, by decide, rfl, rfl⟩ ⟨by decide, by decide, rfl, rfl⟩ rfl rfl hL hk hC (sp_undo l hH hC) kk
    · refine gl_tableIn (off := 382) (tgt := 414) dL_law_32 (by decide) (by decide) (by decide) (by decide) ?_
      exact lw_call1 (M8 := M_X8_stands) (M9 := M_X9_stands) dL_law_414 dL_law_415 dL_law_416 dL_law_417 dL_law_418 dL_law_419 dL_law_420 dL_law_423 dL_law_424 dL_law_425 dL_law_426 dL_law_427 dL_law_428 dL_law_429 dL_law_432 (by decide) cv_L_64 cv_L_67 ⟨by decide, by decide, rfl, rfl⟩ ⟨by decide, by decide, rfl, rfl⟩ rfl rfl hL hk hC (sp_stands l hH hC (xs (k + 1))) kk
    · refine gl_tableIn (off := 405) (tgt := 437) dL_law_32 (by decide) (by decide) (by decide) (by decide) ?_
      exact lw_call0 (M8 := M_X8_needed) (M9 := M_X9_needed) dL_law_437 dL_law_438 dL_law_441 dL_law_442 dL_law_445 (by decide) cv_L_68 cv_L_71 ⟨by decide, by decide, rfl, rfl⟩ ⟨by decide, by decide, rfl, rfl⟩ rfl rfl hL hk hC (sp_needed l hH hC) kk
    · refine gl_tableIn (off := 418) (tgt := 450) dL_law_32 (by decide) (by decide) (by decide) (by decide) ?_
      exact lw_call0 (M8 := M_X8_cuts) (M9 := M_X9_cuts) dL_law_450 dL_law_451 dL_law_454 dL_law_455 dL_law_458 (by decide) cv_L_72 cv_L_75 ⟨by decide, by decide, rfl, rfl⟩ ⟨by decide, by decide, rfl, rfl⟩ rfl rfl hL hk hC (sp_cuts l hH hC) kk
    · refine gl_tableIn (off := 431) (tgt := 463) dL_law_32 (by decide) (by decide) (by decide) (by decide) ?_
      exact lw_call2 (M8 := M_X8_rosterD) (M9 := M_X9_roster) dL_law_463 dL_law_464 dL_law_465 dL_law_466 dL_law_467 dL_law_468 dL_law_469 dL_law_470 dL_law_471 dL_law_472 dL_law_473 dL_law_474 dL_law_477 dL_law_478 dL_law_479 dL_law_480 dL_law_481 dL_law_482 dL_law_483 dL_law_484 dL_law_485 dL_law_486 dL_law_487 dL_law_488 dL_law_491 (by decide) cv_L_76 cv_L_79 ⟨by decide, by decide, rfl, rfl⟩ ⟨by decide, by decide, rfl, rfl⟩ rfl rfl hL hk hC (sp_roster l hH hC (xs (k + 1)) (xs (k + 2))) kk
    · refine gl_tableIn (off := 464) (tgt := 496) dL_law_32 (by decide) (by decide) (by decide) (by decide) ?_
      exact lw_call1 (M8 := M_X8_place) (M9 := M_X9_place) dL_law_496 dL_law_497 dL_law_498 dL_law_499 dL_law_500 dL_law_501 dL_law_502 dL_law_505 dL_law_506 dL_law_507 dL_law_508 dL_law_509 dL_law_510 dL_law_511 dL_law_514 (by decide) cv_L_80 cv_L_83 ⟨by decide, by decide, rfl, rfl⟩ ⟨by decide, by decide, rfl, rfl⟩ rfl rfl hL hk hC (sp_place l hH hC (xs (k + 1))) kk
    · refine gl_tableIn (off := 487) (tgt := 519) dL_law_32 (by decide) (by decide) (by decide) (by decide) ?_
      exact lw_call1 (M8 := M_X8_strong) (M9 := M_X9_strong) dL_law_519 dL_law_520 dL_law_521 dL_law_522 dL_law_523 dL_law_524 dL_law_525 dL_law_528 dL_law_529 dL_law_530 dL_law_531 dL_law_532 dL_law_533 dL_law_534 dL_law_537 (by decide) cv_L_84 cv_L_87 ⟨by decide, by decide, rfl, rfl⟩ ⟨by decide, by decide, rfl, rfl⟩ rfl rfl hL hk hC (sp_strong l hH hC (xs (k + 1))) kk
    · refine gl_tableIn (off := 510) (tgt := 542) dL_law_32 (by decide) (by decide) (by decide) (by decide) ?_
      exact lw_call2 (M8 := M_X8_who) (M9 := M_X9_who) dL_law_542 dL_law_543 dL_law_544 dL_law_545 dL_law_546 dL_law_547 dL_law_548 dL_law_549 dL_law_550 dL_law_551 dL_law_552 dL_law_553 dL_law_556 dL_law_557 dL_law_558 dL_law_559 dL_law_560 dL_law_561 dL_law_562 dL_law_563 dL_law_564 dL_law_565 dL_law_566 dL_law_567 dL_law_570 (by decide) cv_L_88 cv_L_91 ⟨by decide, by decide, rfl, rfl⟩ ⟨by decide, by decide, rfl, rfl⟩ rfl rfl hL hk hC (sp_who l hH hC (xs (k + 1)) (xs (k + 2))) kk
    · refine gl_tableIn (off := 543) (tgt := 575) dL_law_32 (by decide) (by decide) (by decide) (by decide) ?_
      exact lw_call2 (M8 := M_X8_knees) (M9 := M_X9_knees) dL_law_575 dL_law_576 dL_law_577 dL_law_578 dL_law_579 dL_law_580 dL_law_581 dL_law_582 dL_law_583 dL_law_584 dL_law_585 dL_law_586 dL_law_589 dL_law_590 dL_law_591 dL_law_592 dL_law_593 dL_law_594 dL_law_595 dL_law_596 dL_law_597 dL_law_598 dL_law_599 dL_law_600 dL_law_603 (by decide) cv_L_92 cv_L_95 ⟨by decide, by decide, rfl, rfl⟩ ⟨by decide, by decide, rfl, rfl⟩ rfl rfl hL hk hC (sp_knees l hH hC (xs (k + 1)) (xs (k + 2))) kk
    · refine gl_tableIn (off := 576) (tgt := 608) dL_law_32 (by decide) (by decide) (by decide) (by decide) ?_
      exact lw_call2 (M8 := M_X8_shirkers) (M9 := M_X9_shirkers) dL_law_608 dL_law_609 dL_law_610 dL_law_611 dL_law_612 dL_law_613 dL_law_614 dL_law_615 dL_law_616 dL_law_617 dL_law_618 dL_law_619 dL_law_622 dL_law_623 dL_law_624 dL_law_625 dL_law_626 dL_law_627 dL_law_628 dL_law_629 dL_law_630 dL_law_631 dL_law_632 dL_law_633 dL_law_636 (by decide) cv_L_96 cv_L_99 ⟨by decide, by decide, rfl, rfl⟩ ⟨by decide, by decide, rfl, rfl⟩ rfl rfl hL hk hC (sp_shirkers l hH hC (xs (k + 1)) (xs (k + 2))) kk
    · refine gl_tableIn (off := 609) (tgt := 641) dL_law_32 (by decide) (by decide) (by decide) (by decide) ?_
      exact lw_call3 (M8 := M_X8_night) (M9 := M_X9_night) dL_law_641 dL_law_642 dL_law_643 dL_law_644 dL_law_645 dL_law_646 dL_law_647 dL_law_648 dL_law_649 dL_law_650 dL_law_651 dL_law_652 dL_law_653 dL_law_654 dL_law_655 dL_law_656 dL_law_657 dL_law_660 dL_law_661 dL_law_662 dL_law_663 dL_law_664 dL_law_665 dL_law_666 dL_law_667 dL_law_668 dL_law_669 dL_law_670 dL_law_671 dL_law_672 dL_law_673 dL_law_674 dL_law_675 dL_law_676 dL_law_679 (by decide) cv_L_100 cv_L_104 ⟨by decide, by decide, rfl, rfl⟩ ⟨by decide, by decide, rfl, rfl⟩ rfl rfl hL hk hC (sp_night l hH hC (xs (k + 1)) (xs (k + 2)) (xs (k + 3))) kk
    · refine gl_tableIn (off := 652) (tgt := 684) dL_law_32 (by decide) (by decide) (by decide) (by decide) ?_
      exact lw_call0 (M8 := M_X8_keep) (M9 := M_X9_keep) dL_law_684 dL_law_685 dL_law_688 dL_law_689 dL_law_692 (by decide) cv_L_105 cv_L_108 ⟨by decide, by decide, rfl, rfl⟩ ⟨by decide, by decide, rfl, rfl⟩ rfl rfl hL hk hC (sp_keep l hH hC) kk
    · refine gl_tableIn (off := 665) (tgt := 697) dL_law_32 (by decide) (by decide) (by decide) (by decide) ?_
      exact lw_call0 (M8 := M_X8_back) (M9 := M_X9_back) dL_law_697 dL_law_698 dL_law_701 dL_law_702 dL_law_705 (by decide) cv_L_109 cv_L_112 ⟨by decide, by decide, rfl, rfl⟩ ⟨by decide, by decide, rfl, rfl⟩ rfl rfl hL hk hC (sp_back l hH hC) kk
    · refine gl_tableIn (off := 678) (tgt := 710) dL_law_32 (by decide) (by decide) (by decide) (by decide) ?_
      exact lw_call1 (M8 := M_X8_count) (M9 := M_X9_count) dL_law_710 dL_law_711 dL_law_712 dL_law_713 dL_law_714 dL_law_715 dL_law_716 dL_law_719 dL_law_720 dL_law_721 dL_law_722 dL_law_723 dL_law_724 dL_law_725 dL_law_728 (by decide) cv_L_113 cv_L_116 ⟨by decide, by decide, rfl, rfl⟩ ⟨by decide, by decide, rfl, rfl⟩ rfl rfl hL hk hC (sp_count l hH hC (xs (k + 1))) kk
  · refine gl_tableOut (tgt := 733) dL_law_32 (Or.inr ?_) (by decide) (kk w (co_w (by omega) hC))
    rw [nI_toInt (by omega)]
    omega
set_option maxRecDepth 20000 in
theorem lw_loop (l : Launch) {b L : Nat} {xs : Nat → Int32} (hL : L ≤ 2048) : ∀ (d i : Nat) (w : List va_E), i + d = 600 → CoI (24 * i) w → (4 * i ≤ 2052) → GL l b L xs 18 (lsL (4 * i)) [] w
  | 0, i, w, hd, hC, hi => by omega
  | d + 1, i, w, hd, hC, hi => by
    refine gl_iload_n (n := 19) dL_law_18 rfl rfl ?_
    refine gl_aload_n (n := 20) dL_law_19 rfl rfl ?_
    refine gl_len (n := 21) dL_law_20 rfl ?_
    refine gl_iconst (v := nI 4) (n := 22) dL_law_21 (by decide) rfl ?_
    refine gl_isub (n := 23) dL_law_22 rfl ?_
    refine gl_icmp_gt (tgt := 739) (n := 26) dL_law_23 (by decide) rfl (fun _ => ?_) (fun q => ?_)
    · refine gl_iconst (v := nI 1) (n := 740) dL_law_739 (by decide) rfl ?_
      exact gl_ret dL_law_740
    · have hk := lw_more hL (by omega) q
      refine lw_round l hL hk (by omega) hC (fun u hu => ?_)
      refine gl_iincN (k := 4) (n := 736) dL_law_733 rfl (by decide) rfl rfl ?_
      refine gl_lsN (ls' := lsL (4 * (i + 1))) rfl ?_
      refine gl_goto (tgt := 18) dL_law_736 (by decide) ?_
      exact lw_loop l hL d (i + 1) u (by omega) hu (by omega)

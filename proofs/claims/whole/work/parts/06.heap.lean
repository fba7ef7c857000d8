/-! 06.heap: fields, arrays -/
/-- a field, as the class 'own' links it: place ix of its pool, class ci of vwCl, slot k -/
def FL (own : String) (ix ci k : Nat) : Prop := ∃ r : vw_C, vwCl[ci]? = some r ∧ k < r.2.2 ∧ Cond.fieldLink own ix (r.2.1 k).1 (r.2.1 k).2.1 (r.2.1 k).2.2.1 ∈ big ∧ ∀ w ∈ u_ws r.1 r.2.1 r.2.2, w ∈ big
/-- what the tables say of a class's fields -/
def FT (r : vw_C) : Prop := ∃ ty0 : Nat → FieldType, (∀ k, k < r.2.2 → parseFieldDescriptor (r.2.1 k).2.2.1 = some (ty0 k)) ∧ (∀ a, a < r.2.2 → ∀ b, b < r.2.2 → a ≠ b → (r.2.1 a).2.1 ≠ (r.2.1 b).2.1)
def PF (own : String) (ix ci k : Nat) (fin : Bool) (ty : FieldType) : Prop := ∃ r : vw_C, vwCl[ci]? = some r ∧ k < r.2.2 ∧ Cond.fieldLink own ix (r.2.1 k).1 (r.2.1 k).2.1 (r.2.1 k).2.2.1 ∈ big ∧ (∀ w ∈ u_ws r.1 r.2.1 r.2.2, w ∈ big) ∧ FT r ∧ (r.2.1 k).2.2.2 = fin ∧ (r.2.1 k).1 = r.1 ∧ parseFieldDescriptor (r.2.1 k).2.2.1 = some ty
section RH
variable {l : Launch} {M : MC} {z : Nat × Nat × Nat} {Q : Option Value → List va_E → Prop} {pc n : Nat} {ls : List (Option Value)} {st : List Value} {w : List va_E}
theorem g_get {ix ci k a : Nat} {fs : List Value} {v : Value} (hf : FL (mnm M).cls ix ci k) (hd : decode (mby M) pc = .ok (.getfield ix, 3)) (hw : w[a]? = some (.inr (ci, fs))) (hv : fs[k]? = some v) (hn : pc + 3 = n) (kk : G l M z Q n ls (v :: st) w) : G l M z Q pc ls (.ref a :: st) w := by
  subst hn
  obtain ⟨⟨C0, T, N⟩, hc, hk, hlk, hin⟩ := hf
  intro p e s m args below meth c D ct A ad0 ad H locs la C hA h0 h1 hz hP hD hS hL
  exact va_get (own := (mnm M).cls) (ref := (T k).1) (v := rv ad v) C.1 C.2.1 C.2.2.2.2.2.1 hin C.2.2.2.2.1 C.2.2.2.2.2.2.2.2.1 hP a (wa_at hw) hc k hk (C.2.2.2.2.2.1 _ hlk) (fun _ h => h) (by rw [List.getElem?_map, hv]; rfl) hd (kk p e s m args below meth c D ct A ad0 ad H locs la C hA h0 h1 hz hP hD hS hL)
theorem wa_setF (ct ad : Nat → Nat) (w : List va_E) (a ci k : Nat) (fs : List Value) (v : Value) : (wa ct ad w).set a (ad a, .inr (ci, (fs.map (rv ad)).set k (rv ad v))) = wa ct ad (w.set a (.inr (ci, fs.set k v))) := by
  rw [← wa_set]
  show _ = List.set _ a (ad a, (Sum.inr (ci, (fs.set k v).map (rv ad)) : va_E))
  rw [List.map_set]
theorem g_put {ix ci k a : Nat} {fs : List Value} {v : Value} {ty : FieldType} (hf : PF (mnm M).cls ix ci k false ty) (hd : decode (mby M) pc = .ok (.putfield ix, 3)) (hw : w[a]? = some (.inr (ci, fs))) (hk2 : k < fs.length) (hnr : ∀ ad : Nat → Nat, narrow ty (rv ad v) = rv ad v) (hfit : ∀ ad : Nat → Nat, fits ty (rv ad v) = true) (hn : pc + 3 = n)
    (kk : G l M z Q n ls st (w.set a (.inr (ci, fs.set k v)))) : G l M z Q pc ls (v :: .ref a :: st) w := by
  subst hn
  obtain ⟨⟨C0, T, N⟩, hc, hk, hlk, hin, ⟨ty0, hty, hnm⟩, hfin, hcl, hpd⟩ := hf
  intro p e s m args below meth c D ct A ad0 ad H locs la C hA h0 h1 hz hP hD hS hL
  refine va_put (own := (mnm M).cls) (ref := (T k).1) (v := rv ad v) (ty := ty) C.1 C.2.1 C.2.2.2.2.2.1 hin ty0 hty hnm C.2.2.2.2.1 C.2.2.2.2.2.2.2.2.1 hP hD hS a (wa_at hw) hc k hk (C.2.2.2.2.2.1 _ hlk) (fun _ h => h) hfin hpd (hnr ad) (hfit ad) (by simpa using hk2) hd (fun H1 locs1 hP1 hD1 hS1 => ?_)
  rw [wa_setF] at hP1 hD1
  exact kk p e s m args below meth c D ct A ad0 ad H1 locs1 la C hA h0 h1 (by simpa using hz) hP1 hD1 hS1 hL
theorem g_putF {ix ci k a : Nat} {fs : List Value} {v : Value} {ty : FieldType} (hf : PF (mnm M).cls ix ci k true ty) (hi : (mnm M).name = "<init>") (ho : (vwCl[ci]?).map (fun r => r.1) = some (mnm M).cls) (hd : decode (mby M) pc = .ok (.putfield ix, 3)) (hw : w[a]? = some (.inr (ci, fs))) (hk2 : k < fs.length) (hnr : ∀ ad : Nat → Nat, narrow ty (rv ad v) = rv ad v) (hfit : ∀ ad : Nat → Nat, fits ty (rv ad v) = true) (hn : pc + 3 = n)
    (kk : G l M z Q n ls st (w.set a (.inr (ci, fs.set k v)))) : G l M z Q pc ls (v :: .ref a :: st) w := by
  subst hn
  obtain ⟨⟨C0, T, N⟩, hc, hk, hlk, hin, ⟨ty0, hty, hnm⟩, hfin, hcl, hpd⟩ := hf
  rw [hc] at ho
  intro p e s m args below meth c D ct A ad0 ad H locs la C hA h0 h1 hz hP hD hS hL
  refine va_putF (own := (mnm M).cls) (ref := (T k).1) (v := rv ad v) (ty := ty) C.1 C.2.1 C.2.2.2.2.2.1 hin ty0 hty hnm C.2.2.2.2.1 C.2.2.2.2.2.2.2.2.1 hP hD hS a (wa_at hw) hc k hk (C.2.2.2.2.2.1 _ hlk) (fun _ h => h) hfin (C.2.2.2.2.2.2.2.1.trans hi) (hcl.trans (Option.some.inj ho)) hpd (hnr ad) (hfit ad) (by simpa using hk2) hd (fun H1 locs1 hP1 hD1 hS1 => ?_)
  rw [wa_setF] at hP1 hD1
  exact kk p e s m args below meth c D ct A ad0 ad H1 locs1 la C hA h0 h1 (by simpa using hz) hP1 hD1 hS1 hL
theorem g_iald {a N : Nat} {f : Nat → Int32} {i : Int32} (hd : decode (mby M) pc = .ok (.iaload, 1)) (hw : w[a]? = some (.inl (0, N, .inl f))) (hin : vp_in i N) (hn : pc + 1 = n) (kk : G l M z Q n ls (.int (f i.toNatClampNeg) :: st) w) : G l M z Q pc ls (.int i :: .ref a :: st) w := by
  subst hn
  intro p e s m args below meth c D ct A ad0 ad H locs la C hA h0 h1 hz hP hD hS hL
  exact va_iald C.1 C.2.1 C.2.2.2.2.2.2.2.2.1 hP a 0 (wa_at hw) rfl hin hd (kk p e s m args below meth c D ct A ad0 ad H locs la C hA h0 h1 hz hP hD hS hL)
theorem g_cald {a N : Nat} {f : Nat → Int32} {i : Int32} (hd : decode (mby M) pc = .ok (.caload, 1)) (hw : w[a]? = some (.inl (1, N, .inl f))) (hin : vp_in i N) (hn : pc + 1 = n) (kk : G l M z Q n ls (.int (f i.toNatClampNeg) :: st) w) : G l M z Q pc ls (.int i :: .ref a :: st) w := by
  subst hn
  intro p e s m args below meth c D ct A ad0 ad H locs la C hA h0 h1 hz hP hD hS hL
  exact va_cald C.1 C.2.1 C.2.2.2.2.2.2.2.2.1 hP a 1 (wa_at hw) rfl hin hd (kk p e s m args below meth c D ct A ad0 ad H locs la C hA h0 h1 hz hP hD hS hL)
theorem g_iast {a N : Nat} {f : Nat → Int32} {i x : Int32} (hd : decode (mby M) pc = .ok (.iastore, 1)) (hw : w[a]? = some (.inl (0, N, .inl f))) (hin : vp_in i N) (hn : pc + 1 = n) (kk : G l M z Q n ls st (w.set a (.inl (0, N, .inl (upd f i.toNatClampNeg x))))) : G l M z Q pc ls (.int x :: .int i :: .ref a :: st) w := by
  subst hn
  intro p e s m args below meth c D ct A ad0 ad H locs la C hA h0 h1 hz hP hD hS hL
  refine va_iast C.1 C.2.1 C.2.2.2.2.2.2.2.2.1 hP hD hS a 0 (wa_at hw) rfl hin hd (fun H1 locs1 hP1 hD1 hS1 => ?_)
  have e1 := wa_set ct ad w a (.inl (0, N, .inl (upd f i.toNatClampNeg x)))
  exact kk p e s m args below meth c D ct A ad0 ad H1 locs1 la C hA h0 h1 (by simpa using hz) (e1 ▸ hP1) (e1 ▸ hD1) hS1 hL
theorem g_cast {a N : Nat} {f : Nat → Int32} {i x : Int32} (hd : decode (mby M) pc = .ok (.castore, 1)) (hw : w[a]? = some (.inl (1, N, .inl f))) (hin : vp_in i N) (hn : pc + 1 = n) (kk : G l M z Q n ls st (w.set a (.inl (1, N, .inl (upd f i.toNatClampNeg (vp_nar .char x)))))) : G l M z Q pc ls (.int x :: .int i :: .ref a :: st) w := by
  subst hn
  intro p e s m args below meth c D ct A ad0 ad H locs la C hA h0 h1 hz hP hD hS hL
  refine va_cast C.1 C.2.1 C.2.2.2.2.2.2.2.2.1 hP hD hS a 1 (wa_at hw) rfl hin hd (fun H1 locs1 hP1 hD1 hS1 => ?_)
  have e1 := wa_set ct ad w a (.inl (1, N, .inl (upd f i.toNatClampNeg (vp_nar .char x))))
  exact kk p e s m args below meth c D ct A ad0 ad H1 locs1 la C hA h0 h1 (by simpa using hz) (e1 ▸ hP1) (e1 ▸ hD1) hS1 hL
theorem g_aald {a N r : Nat} {f : Nat → Option Nat} {i : Int32} (hd : decode (mby M) pc = .ok (.aaload, 1)) (hw : w[a]? = some (.inl (2, N, .inr (.inr (.inr (.inr f)))))) (hin : vp_in i N) (hr : f i.toNatClampNeg = some r) (hn : pc + 1 = n) (kk : G l M z Q n ls (.ref r :: st) w) : G l M z Q pc ls (.int i :: .ref a :: st) w := by
  subst hn
  intro p e s m args below meth c D ct A ad0 ad H locs la C hA h0 h1 hz hP hD hS hL
  refine va_aldq (C := "ButtressWall$State") C.1 C.2.1 C.2.2.2.2.2.2.2.2.1 hP a 2 (wa_at hw) rfl hin hd ?_
  show W _ _ _ _ _ _ _ _ _ _ _ _ _ _ _ (F0 m (pc + 1) la (va_rf ((f i.toNatClampNeg).map ad) :: st.map (rv ad)))
  rw [hr]
  exact kk p e s m args below meth c D ct A ad0 ad H locs la C hA h0 h1 hz hP hD hS hL
theorem g_aast {a b N : Nat} {f : Nat → Option Nat} {i : Int32} {vs : List Value} (hd : decode (mby M) pc = .ok (.aastore, 1)) (hw : w[a]? = some (.inl (2, N, .inr (.inr (.inr (.inr f)))))) (hb : w[b]? = some (.inr (3, vs))) (hin : vp_in i N) (hn : pc + 1 = n) (kk : G l M z Q n ls st (w.set a (.inl (2, N, .inr (.inr (.inr (.inr (va_up f i.toNatClampNeg (some b))))))))) : G l M z Q pc ls (.ref b :: .int i :: .ref a :: st) w := by
  subst hn
  intro p e s m args below meth c D ct A ad0 ad H locs la C hA h0 h1 hz hP hD hS hL
  refine va_astq (r := (RX3, TX3, 6)) C.1 C.2.1 C.2.2.2.2.2.2.2.2.1 hP hD hS a 2 b 3 (wa_at hw) rfl (wa_at hb) rfl hin hd (fun H1 locs1 hP1 hD1 hS1 => ?_)
  have e1 := wa_set ct ad w a (.inl (2, N, .inr (.inr (.inr (.inr (va_up f i.toNatClampNeg (some b)))))))
  have e2 : rcl ct ad (.inl (2, N, .inr (.inr (.inr (.inr (va_up f i.toNatClampNeg (some b))))))) = .inl (ct 2, N, .inr (.inr (.inr (.inr (va_up (fun j => (f j).map ad) i.toNatClampNeg (some (ad b))))))) := by
    show (Sum.inl (ct 2, N, .inr (.inr (.inr (.inr (fun j => (va_up f i.toNatClampNeg (some b) j).map ad))))) : va_E) = _
    refine congrArg (fun h : Nat → Option Nat => (Sum.inl (ct 2, N, .inr (.inr (.inr (.inr h)))) : va_E)) ?_
    funext j
    unfold va_up
    by_cases hj : j = i.toNatClampNeg
    · simp [hj]
    · simp [hj]
  rw [e2] at e1
  exact kk p e s m args below meth c D ct A ad0 ad H1 locs1 la C hA h0 h1 (by simpa using hz) (e1 ▸ hP1) (e1 ▸ hD1) hS1 hL
theorem g_ialdN {a N j : Nat} {f : Nat → Int32} (hd : decode (mby M) pc = .ok (.iaload, 1)) (hw : w[a]? = some (.inl (0, N, .inl f))) (hn : pc + 1 = n) (hN : N < 2147483648) (hj : j < N) (kk : G l M z Q n ls (.int (f j) :: st) w) : G l M z Q pc ls (.int (nI j) :: .ref a :: st) w :=
  g_iald hd hw (vp_in_nI hj hN) hn (by rw [nI_clamp (by omega)]; exact kk)
theorem g_iastN {a N j : Nat} {f : Nat → Int32} {x : Int32} (hd : decode (mby M) pc = .ok (.iastore, 1)) (hw : w[a]? = some (.inl (0, N, .inl f))) (hn : pc + 1 = n) (hN : N < 2147483648) (hj : j < N) (kk : G l M z Q n ls st (w.set a (.inl (0, N, .inl (upd f j x))))) : G l M z Q pc ls (.int x :: .int (nI j) :: .ref a :: st) w :=
  g_iast hd hw (vp_in_nI hj hN) hn (by rw [nI_clamp (by omega)]; exact kk)
theorem g_caldN {a N j : Nat} {f : Nat → Int32} (hd : decode (mby M) pc = .ok (.caload, 1)) (hw : w[a]? = some (.inl (1, N, .inl f))) (hn : pc + 1 = n) (hN : N < 2147483648) (hj : j < N) (kk : G l M z Q n ls (.int (f j) :: st) w) : G l M z Q pc ls (.int (nI j) :: .ref a :: st) w :=
  g_cald hd hw (vp_in_nI hj hN) hn (by rw [nI_clamp (by omega)]; exact kk)
theorem g_castN {a N j : Nat} {f : Nat → Int32} {x : Int32} (hd : decode (mby M) pc = .ok (.castore, 1)) (hw : w[a]? = some (.inl (1, N, .inl f))) (hn : pc + 1 = n) (hN : N < 2147483648) (hj : j < N) (kk : G l M z Q n ls st (w.set a (.inl (1, N, .inl (upd f j (vp_nar .char x)))))) : G l M z Q pc ls (.int x :: .int (nI j) :: .ref a :: st) w :=
  g_cast hd hw (vp_in_nI hj hN) hn (by rw [nI_clamp (by omega)]; exact kk)
theorem g_aaldN {a N j r : Nat} {f : Nat → Option Nat} (hd : decode (mby M) pc = .ok (.aaload, 1)) (hw : w[a]? = some (.inl (2, N, .inr (.inr (.inr (.inr f)))))) (hn : pc + 1 = n) (hN : N < 2147483648) (hj : j < N) (hr : f j = some r) (kk : G l M z Q n ls (.ref r :: st) w) : G l M z Q pc ls (.int (nI j) :: .ref a :: st) w :=
  g_aald hd hw (vp_in_nI hj hN) (by rw [nI_clamp (by omega)]; exact hr) hn kk
theorem g_aastN {a b N j : Nat} {f : Nat → Option Nat} {vs : List Value} (hd : decode (mby M) pc = .ok (.aastore, 1)) (hw : w[a]? = some (.inl (2, N, .inr (.inr (.inr (.inr f)))))) (hb : w[b]? = some (.inr (3, vs))) (hn : pc + 1 = n) (hN : N < 2147483648) (hj : j < N) (kk : G l M z Q n ls st (w.set a (.inl (2, N, .inr (.inr (.inr (.inr (va_up f j (some b))))))))) : G l M z Q pc ls (.ref b :: .int (nI j) :: .ref a :: st) w :=
  g_aast hd hw hb (vp_in_nI hj hN) hn (by rw [nI_clamp (by omega)]; exact kk)
/-! the library's own: max, min, abs, arraycopy over ints, Object's constructor -/
theorem g_mmax {ix : Nat} {x y : Int32} (hd : decode (mby M) pc = .ok (.invokestatic ix, 3)) (hw1 : Cond.methodLink (mnm M).cls ix Lib.Math.max.name ∈ big) (hw2 : Cond.static Lib.Math.max.name ∈ big) (hw3 : Cond.initialized "java/lang/Math" ∈ big) (hw4 : Cond.code Lib.Math.max.name Lib.Math.max.code 2 (some .int) ∈ big) (hdp : 1 ≤ mdp M) (hst : (st.map fun v => v.category).sum ≤ 8) (hc : z.2.1 ≤ mkc M ∧ z.2.2 ≤ mks M) (hn : pc + 3 = n)
    (kk : G l M z Q n ls (.int (if x < y then y else x) :: st) w) : G l M z Q pc ls (.int y :: .int x :: st) w := by
  subst hn
  intro p e s m args below meth c D ct A ad0 ad H locs la C hA h0 h1 hz hP hD hS hL
  have e1 : (st.map (rv ad)).map (fun v => v.category) = st.map (fun v => v.category) := by rw [List.map_map]; exact List.map_congr_left (fun v _ => rv_cat ad v)
  exact va_mmax C.1 C.2.1 (C.2.2.2.1.trans hL.1.symm) C.2.2.2.2.1 (C.2.2.2.2.2.1 _ hw1) (C.2.2.2.2.2.1 _ hw2) (C.2.2.2.2.2.1 _ hw3) (C.2.2.2.2.2.1 _ hw4) hdp (by rw [e1]; show _ ≤ 48 * mdp M; omega) hc.1 hc.2 hd (kk p e s m args below meth c D ct A ad0 ad H locs la C hA h0 h1 hz hP hD hS hL)
theorem g_mmin {ix : Nat} {x y : Int32} (hd : decode (mby M) pc = .ok (.invokestatic ix, 3)) (hw1 : Cond.methodLink (mnm M).cls ix Lib.Math.min.name ∈ big) (hw2 : Cond.static Lib.Math.min.name ∈ big) (hw3 : Cond.initialized "java/lang/Math" ∈ big) (hw4 : Cond.code Lib.Math.min.name Lib.Math.min.code 2 (some .int) ∈ big) (hdp : 1 ≤ mdp M) (hst : (st.map fun v => v.category).sum ≤ 8) (hc : z.2.1 ≤ mkc M ∧ z.2.2 ≤ mks M) (hn : pc + 3 = n)
    (kk : G l M z Q n ls (.int (if y < x then y else x) :: st) w) : G l M z Q pc ls (.int y :: .int x :: st) w := by
  subst hn
  intro p e s m args below meth c D ct A ad0 ad H locs la C hA h0 h1 hz hP hD hS hL
  have e1 : (st.map (rv ad)).map (fun v => v.category) = st.map (fun v => v.category) := by rw [List.map_map]; exact List.map_congr_left (fun v _ => rv_cat ad v)
  exact va_mmin C.1 C.2.1 (C.2.2.2.1.trans hL.1.symm) C.2.2.2.2.1 (C.2.2.2.2.2.1 _ hw1) (C.2.2.2.2.2.1 _ hw2) (C.2.2.2.2.2.1 _ hw3) (C.2.2.2.2.2.1 _ hw4) hdp (by rw [e1]; show _ ≤ 48 * mdp M; omega) hc.1 hc.2 hd (kk p e s m args below meth c D ct A ad0 ad H locs la C hA h0 h1 hz hP hD hS hL)
theorem g_mabs {ix : Nat} {x : Int32} (hd : decode (mby M) pc = .ok (.invokestatic ix, 3)) (hw1 : Cond.methodLink (mnm M).cls ix Lib.Math.abs.name ∈ big) (hw2 : Cond.static Lib.Math.abs.name ∈ big) (hw3 : Cond.initialized "java/lang/Math" ∈ big) (hw4 : Cond.code Lib.Math.abs.name Lib.Math.abs.code 1 (some .int) ∈ big) (hdp : 1 ≤ mdp M) (hst : (st.map fun v => v.category).sum ≤ 8) (hc : z.2.1 ≤ mkc M ∧ z.2.2 ≤ mks M) (hn : pc + 3 = n)
    (kk : G l M z Q n ls (.int (if 0 ≤ x then x else 0 - x) :: st) w) : G l M z Q pc ls (.int x :: st) w := by
  subst hn
  intro p e s m args below meth c D ct A ad0 ad H locs la C hA h0 h1 hz hP hD hS hL
  have e1 : (st.map (rv ad)).map (fun v => v.category) = st.map (fun v => v.category) := by rw [List.map_map]; exact List.map_congr_left (fun v _ => rv_cat ad v)
  exact va_mabs C.1 C.2.1 (C.2.2.2.1.trans hL.1.symm) C.2.2.2.2.1 (C.2.2.2.2.2.1 _ hw1) (C.2.2.2.2.2.1 _ hw2) (C.2.2.2.2.2.1 _ hw3) (C.2.2.2.2.2.1 _ hw4) hdp (by rw [e1]; show _ ≤ 48 * mdp M; omega) hc.1 hc.2 hd (kk p e s m args below meth c D ct A ad0 ad H locs la C hA h0 h1 hz hP hD hS hL)
theorem g_copy {ix a b N0 N1 sp dp k : Nat} {f g : Nat → Int32} (hd : decode (mby M) pc = .ok (.invokestatic ix, 3)) (hw1 : Cond.methodLink (mnm M).cls ix arraycopyName ∈ big) (hw2 : Cond.native arraycopyName ∈ big) (hw3 : Cond.static arraycopyName ∈ big) (hw4 : Cond.initialized "java/lang/System" ∈ big) (hdp : 1 ≤ mdp M) (hst : (st.map fun v => v.category).sum ≤ 8)
    (ha : w[a]? = some (.inl (0, N0, .inl f))) (hb : w[b]? = some (.inl (0, N1, .inl g))) (h4 : sp + k ≤ N0) (h5 : dp + k ≤ N1) (h6 : N0 < 2147483648) (h7 : N1 < 2147483648) (hn : pc + 3 = n)
    (kk : G l M z Q n ls st (w.set b (.inl (0, N1, .inl (va_cpy f g sp dp k))))) : G l M z Q pc ls (.int (nI k) :: .int (nI dp) :: .ref b :: .int (nI sp) :: .ref a :: st) w := by
  subst hn
  intro p e s m args below meth c D ct A ad0 ad H locs la C hA h0 h1 hz hP hD hS hL
  have e1 : (st.map (rv ad)).map (fun v => v.category) = st.map (fun v => v.category) := by rw [List.map_map]; exact List.map_congr_left (fun v _ => rv_cat ad v)
  have c1 : (nI sp).toNatClampNeg = sp := nI_clamp (by omega)
  have c2 : (nI dp).toNatClampNeg = dp := nI_clamp (by omega)
  have c3 : (nI k).toNatClampNeg = k := nI_clamp (by omega)
  have hfw : nativeFrameWords "java/lang/System" "arraycopy" 5 ≤ 29 := by decide
  have hlo : ((st.map (rv ad)).map fun v => v.category).sum + (nativeFrameWords "java/lang/System" "arraycopy" 5 + 11) ≤ (rmd (mdp M) (mkc M) (mks M)).locals := by
    rw [e1]
    show _ ≤ 48 * mdp M
    omega
  refine va_copyi (ty := .int) (sp := nI sp) (dp := nI dp) (n := nI k) C.1 C.2.1 (C.2.2.2.1.trans hL.1.symm) C.2.2.2.2.1 (C.2.2.2.2.2.1 _ hw1) (C.2.2.2.2.2.1 _ hw2) (C.2.2.2.2.2.1 _ hw3) (C.2.2.2.2.2.1 _ hw4) C.2.2.2.2.2.2.2.2.1 hP hD hS a b 0 0 (wa_at ha) (wa_at hb) rfl rfl rfl (nI_pos (by omega)) (nI_pos (by omega)) (nI_pos (by omega)) (by rw [c1, c3]; exact h4) (by rw [c2, c3]; exact h5) (fun i _ => rfl) hdp hlo hd (fun H1 locs1 hP1 hD1 hS1 => ?_)
  rw [c1, c2, c3] at hP1 hD1
  have e2 := wa_set ct ad w b (.inl (0, N1, .inl (va_cpy f g sp dp k)))
  exact kk p e s m args below meth c D ct A ad0 ad H1 locs1 la C hA h0 h1 (by simpa using hz) (e2 ▸ hP1) (e2 ▸ hD1) hS1 hL
theorem g_objInit {ix a : Nat} (hd : decode (mby M) pc = .ok (.invokespecial ix, 3)) (hw1 : Cond.methodLink (mnm M).cls ix Lib.objectInit ∈ big) (hw2 : Cond.instanceMethod Lib.objectInit ∈ big) (hw3 : Cond.code Lib.objectInit ⟨#[0xb1]⟩ 1 none ∈ big) (hdp : 1 ≤ mdp M) (hst : (st.map fun v => v.category).sum ≤ 8) (hn : pc + 3 = n) (kk : G l M z Q n ls st w) : G l M z Q pc ls (.ref a :: st) w := by
  subst hn
  intro p e s m args below meth c D ct A ad0 ad H locs la C hA h0 h1 hz hP hD hS hL
  have e1 : (st.map (rv ad)).map (fun v => v.category) = st.map (fun v => v.category) := by rw [List.map_map]; exact List.map_congr_left (fun v _ => rv_cat ad v)
  refine W.objInit C.1 C.2.1 C.2.2.2.2.1 (C.2.2.2.2.2.1 _ hw1) (C.2.2.2.2.2.1 _ hw2) (C.2.2.2.2.2.1 _ hw3) rfl (hL.1.trans C.2.2.2.1.symm) rfl hd hdp ?_ ?_
  · show 2 * 0 + ((st.map (rv ad)).map fun v => v.category).sum + 12 ≤ 48 * mdp M
    rw [e1]; omega
  · exact W.eq (g2 := F0 m (pc + 3) la (st.map (rv ad))) rfl (kk p e s m args below meth c D ct A ad0 ad H locs la C hA h0 h1 hz hP hD hS hL)
end RH

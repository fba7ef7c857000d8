/-! 53.make: objects and rows are made -/
def clR (n : Nat) (v : Value) : Bool := match v with
  | .ref i => decide (i < n)
  | _ => true
def clE (n : Nat) (x : va_E) : Prop := match x with
  | .inl (_, _, .inr (.inr (.inr (.inr f)))) => ∀ j r, f j = some r → r < n
  | .inl (_, _, .inr (.inr (.inr (.inl _)))) => True
  | .inl (_, _, .inr (.inr (.inl _))) => True
  | .inl (_, _, .inr (.inl _)) => True
  | .inl (_, _, .inl _) => True
  | .inr (_, fs) => fs.all (clR n) = true
def clW (n : Nat) : List va_E → Prop
  | [] => True
  | x :: w => clE n x ∧ clW n w
def clL (n : Nat) (ls : List (Option Value)) : Bool := ls.all (fun o => match o with
  | some v => clR n v
  | none => true)
theorem clW_mem {n : Nat} : ∀ {w : List va_E}, clW n w → ∀ x ∈ w, clE n x
  | [], _, x, h => by cases h
  | y :: w, hc, x, h => by
    rcases List.mem_cons.mp h with rfl | h
    · exact hc.1
    · exact clW_mem hc.2 x h
theorem rv_cl {n : Nat} {ad ad2 : Nat → Nat} (e : ∀ i, i < n → ad2 i = ad i) {v : Value} (h : clR n v = true) : rv ad2 v = rv ad v := by
  cases v with
  | ref i => exact congrArg Value.ref (e i (of_decide_eq_true h))
  | _ => rfl
theorem rcl_cl {n : Nat} {ct ad ad2 : Nat → Nat} (e : ∀ i, i < n → ad2 i = ad i) {x : va_E} (h : clE n x) : rcl ct ad2 x = rcl ct ad x := by
  rcases x with ⟨t, N, f | f | f | f | f⟩ | ⟨c, fs⟩
  · rfl
  · rfl
  · rfl
  · rfl
  · show (Sum.inl (ct t, N, .inr (.inr (.inr (.inr (fun j => (f j).map ad2))))) : va_E) = Sum.inl (ct t, N, .inr (.inr (.inr (.inr (fun j => (f j).map ad)))))
    refine congrArg (fun h : Nat → Option Nat => (Sum.inl (ct t, N, .inr (.inr (.inr (.inr h)))) : va_E)) ?_
    funext j
    cases hj : f j with
    | none => rfl
    | some r => exact congrArg some (e r (h j r hj))
  · show (Sum.inr (c, fs.map (rv ad2)) : va_E) = Sum.inr (c, fs.map (rv ad))
    exact congrArg (fun h : List Value => (Sum.inr (c, h) : va_E)) (List.map_congr_left (fun v hv => rv_cl e (List.all_eq_true.mp h v hv)))
theorem wa_cl {n : Nat} {ct ad ad2 : Nat → Nat} (e : ∀ i, i < n → ad2 i = ad i) {w : List va_E} (hl : w.length ≤ n) (h : clW n w) : wa ct ad2 w = wa ct ad w := by
  apply List.ext_getElem?
  intro i
  rw [wa_get, wa_get]
  cases hx : w[i]? with
  | none => rfl
  | some x =>
    have hi : i < n := by have := (List.getElem?_eq_some_iff.mp hx).1; omega
    show some (ad2 i, rcl ct ad2 x) = some (ad i, rcl ct ad x)
    rw [e i hi, rcl_cl e (clW_mem h x (List.mem_of_getElem? hx))]
theorem wa_app (ct ad : Nat → Nat) (w : List va_E) (x : va_E) : wa ct ad (w ++ [x]) = wa ct ad w ++ [(ad w.length, rcl ct ad x)] := by
  unfold wa
  rw [List.mapIdx_append]
  simp
def ext1 (ad : Nat → Nat) (n q : Nat) : Nat → Nat := fun i => if i = n then q else ad i
theorem ext1_lt {ad : Nat → Nat} {n q i : Nat} (h : i < n) : ext1 ad n q i = ad i := if_neg (by omega)
theorem ext1_at (ad : Nat → Nat) (n q : Nat) : ext1 ad n q n = q := if_pos rfl
theorem LR.ext {n : Nat} {ad ad2 : Nat → Nat} (e : ∀ i, i < n → ad2 i = ad i) {nL : Nat} {ls : List (Option Value)} {la : Array Slot} (hc : clL n ls = true) (h : LR ad nL ls la) : LR ad2 nL ls la := ⟨h.1, h.2.1, fun i v hi => by
  have h1 := List.all_eq_true.mp hc _ (List.mem_of_getElem? hi)
  rw [rv_cl e h1]
  exact h.2.2 i v hi⟩
theorem st_ext {n : Nat} {ad ad2 : Nat → Nat} (e : ∀ i, i < n → ad2 i = ad i) {st : List Value} (hc : st.all (clR n) = true) : st.map (rv ad2) = st.map (rv ad) := List.map_congr_left (fun v hv => rv_cl e (List.all_eq_true.mp hc v hv))
section RN
variable {l : Launch} {M : MC} {z : Nat × Nat × Nat} {Q : Option Value → List va_E → Prop} {pc n : Nat} {ls : List (Option Value)} {st : List Value} {w : List va_E}
theorem g_new {ix ci N k : Nat} {C : String} {T : u_T} {ty : Nat → FieldType} {fs : List Value} (hk : w.length = k) (hd : decode (mby M) pc = .ok (.new ix, 3)) (hin : ∀ w ∈ u_ws C T N, w ∈ big) (hty : ∀ k, k < N → parseFieldDescriptor (T k).2.2.1 = some (ty k)) (hcl : Cond.classLink (mnm M).cls ix C ∈ big) (hinst : Cond.instantiable C N ∈ big) (hini : Cond.initialized C ∈ big) (hc : vwCl[ci]? = some (C, T, N)) (hfs : ∀ j, j < N → defaultValue (ty j) = vp_V fs j) (hf0 : fs.all (clR 0) = true)
    (hcw : clW k w) (hcs : st.all (clR k) = true) (hcls : clL k ls = true) (hroom : z.2.1 + 1 ≤ mkc M ∧ z.2.2 + N ≤ mks M) (hn : pc + 3 = n)
    (kk : G l M (z.1, z.2.1 + 1, z.2.2 + N) Q n ls (.ref k :: st) (w ++ [.inr (ci, fs)])) : G l M z Q pc ls st w := by
  subst hn
  subst hk
  intro p e s m args below meth c D ct A ad0 ad H locs la C0 hA h0 h1 hz hP hD hS hL
  refine va_new (own := (mnm M).cls) (ci := ci) (C := C) (T := T) (N := N) (fs := fs) C0.1 C0.2.1 C0.2.2.2.2.2.1 hin ty hty C0.2.2.2.2.1 (C0.2.2.2.2.2.1 _ hcl) (C0.2.2.2.2.2.1 _ hinst) (C0.2.2.2.2.2.1 _ hini) C0.2.2.2.2.2.2.2.2.1 hP hD hS hA hc hfs hroom.1 hroom.2 hd (fun q H1 hP1 hD1 hS1 => ?_)
  have e := fun i (hi : i < w.length) => ext1_lt (ad := ad) (q := q) hi
  have ef : fs.map (rv (ext1 ad w.length q)) = fs := by
    have : fs.map (rv (ext1 ad w.length q)) = fs.map id := List.map_congr_left (fun v hv => by
      have h1 := List.all_eq_true.mp hf0 v hv
      cases v with
      | ref i => exact absurd (of_decide_eq_true (show decide (i < 0) = true from h1)) (Nat.not_lt_zero _)
      | _ => rfl)
    rw [this, List.map_id]
  have e9 : wa ct (ext1 ad w.length q) (w ++ [.inr (ci, fs)]) = wa ct ad w ++ [(q, .inr (ci, fs))] := by
    rw [wa_app, wa_cl e (Nat.le_refl _) hcw, ext1_at]
    show _ ++ [(q, (Sum.inr (ci, fs.map (rv (ext1 ad w.length q))) : va_E))] = _
    rw [ef]
  have key := kk p ‹Env› s m args below meth c D ct A ad0 (ext1 ad w.length q) H1 locs la C0 hA (fun i hi => (e i (by omega)).trans (h0 i hi)) (fun h => absurd h (Nat.succ_ne_zero _)) (by rw [List.length_append]; show z.1 ≤ w.length + 1; omega) (e9 ▸ hP1) (e9 ▸ hD1) hS1 (hL.ext e hcls)
  have e8 : (Value.ref w.length :: st).map (rv (ext1 ad w.length q)) = .ref q :: st.map (rv ad) := by
    rw [List.map_cons, st_ext e hcs]
    show Value.ref (ext1 ad w.length q w.length) :: _ = _
    rw [ext1_at]
  rw [e8] at key
  exact key
theorem g_newi {N k : Nat} (hk : w.length = k) (hd : decode (mby M) pc = .ok (.newarray .int, 2)) (hac : Cond.arrayClass .int ∈ big) (hN : N < 100000) (hcw : clW k w) (hcs : st.all (clR k) = true) (hcls : clL k ls = true) (hroom : z.2.1 + 1 ≤ mkc M ∧ z.2.2 + N ≤ mks M) (hn : pc + 2 = n)
    (kk : G l M (z.1, z.2.1 + 1, z.2.2 + N) Q n ls (.ref k :: st) (w ++ [.inl (0, N, .inl (fun _ => nI 0))])) : G l M z Q pc ls (.int (nI N) :: st) w := by
  subst hn
  subst hk
  intro p e s m args below meth c D ct A ad0 ad H locs la C0 hA h0 h1 hz hP hD hS hL
  refine va_newa (atype := .int) (ty := .int) (a0 := (N, .inl (fun _ => nI 0))) (N' := N) C0.1 C0.2.1 (C0.2.2.2.2.2.1 _ hac) rfl C0.2.2.2.2.2.2.2.2.1 hP hD hS hA (fun cA => rfl) (nI_pos (by omega)) (nI_clamp (by omega)) (by show N * 4 ≤ _; omega) hroom.1 hroom.2 hd (fun q cA H1 hK1 hP1 hD1 hS1 => ?_)
  have ec : cA = ct 0 := by
    have a1 := va_nm_int (hK1.2 3 _ rfl).2
    have a2 := va_nm_int (C0.2.2.2.2.2.2.2.2.1.2 0 _ rfl).2
    rw [a1] at a2
    exact Option.some.inj a2
  subst ec
  have e := fun i (hi : i < w.length) => ext1_lt (ad := ad) (q := q) hi
  have e9 : wa ct (ext1 ad w.length q) (w ++ [.inl (0, N, .inl (fun _ => nI 0))]) = wa ct ad w ++ [(q, .inl (ct 0, (N, .inl (fun _ => nI 0))))] := by
    rw [wa_app, wa_cl e (Nat.le_refl _) hcw, ext1_at]
    rfl
  have key := kk p ‹Env› s m args below meth c D ct A ad0 (ext1 ad w.length q) H1 locs la C0 hA (fun i hi => (e i (by omega)).trans (h0 i hi)) (fun h => absurd h (Nat.succ_ne_zero _)) (by rw [List.length_append]; show z.1 ≤ w.length + 1; omega) (e9 ▸ hP1) (e9 ▸ hD1) hS1 (hL.ext e hcls)
  have e8 : (Value.ref w.length :: st).map (rv (ext1 ad w.length q)) = .ref q :: st.map (rv ad) := by
    rw [List.map_cons, st_ext e hcs]
    show Value.ref (ext1 ad w.length q w.length) :: _ = _
    rw [ext1_at]
  rw [e8] at key
  exact key
theorem g_newc {N k : Nat} (hk : w.length = k) (hd : decode (mby M) pc = .ok (.newarray .char, 2)) (hac : Cond.arrayClass .char ∈ big) (hN : N < 100000) (hcw : clW k w) (hcs : st.all (clR k) = true) (hcls : clL k ls = true) (hroom : z.2.1 + 1 ≤ mkc M ∧ z.2.2 + N ≤ mks M) (hn : pc + 2 = n)
    (kk : G l M (z.1, z.2.1 + 1, z.2.2 + N) Q n ls (.ref k :: st) (w ++ [.inl (1, N, .inl (fun _ => nI 0))])) : G l M z Q pc ls (.int (nI N) :: st) w := by
  subst hn
  subst hk
  intro p e s m args below meth c D ct A ad0 ad H locs la C0 hA h0 h1 hz hP hD hS hL
  refine va_newa (atype := .char) (ty := .char) (a0 := (N, .inl (fun _ => nI 0))) (N' := N) C0.1 C0.2.1 (C0.2.2.2.2.2.1 _ hac) rfl C0.2.2.2.2.2.2.2.2.1 hP hD hS hA (fun cA => rfl) (nI_pos (by omega)) (nI_clamp (by omega)) (by show N * 2 ≤ _; omega) hroom.1 hroom.2 hd (fun q cA H1 hK1 hP1 hD1 hS1 => ?_)
  have ec : cA = ct 1 := by
    have a1 := va_nm_char (hK1.2 3 _ rfl).2
    have a2 := va_nm_char (C0.2.2.2.2.2.2.2.2.1.2 1 _ rfl).2
    rw [a1] at a2
    exact Option.some.inj a2
  subst ec
  have e := fun i (hi : i < w.length) => ext1_lt (ad := ad) (q := q) hi
  have e9 : wa ct (ext1 ad w.length q) (w ++ [.inl (1, N, .inl (fun _ => nI 0))]) = wa ct ad w ++ [(q, .inl (ct 1, (N, .inl (fun _ => nI 0))))] := by
    rw [wa_app, wa_cl e (Nat.le_refl _) hcw, ext1_at]
    rfl
  have key := kk p ‹Env› s m args below meth c D ct A ad0 (ext1 ad w.length q) H1 locs la C0 hA (fun i hi => (e i (by omega)).trans (h0 i hi)) (fun h => absurd h (Nat.succ_ne_zero _)) (by rw [List.length_append]; show z.1 ≤ w.length + 1; omega) (e9 ▸ hP1) (e9 ▸ hD1) hS1 (hL.ext e hcls)
  have e8 : (Value.ref w.length :: st).map (rv (ext1 ad w.length q)) = .ref q :: st.map (rv ad) := by
    rw [List.map_cons, st_ext e hcs]
    show Value.ref (ext1 ad w.length q w.length) :: _ = _
    rw [ext1_at]
  rw [e8] at key
  exact key
theorem g_newq {ix N k : Nat} (hk : w.length = k) (hd : decode (mby M) pc = .ok (.anewarray ix, 3)) (hcl : Cond.classLink (mnm M).cls ix "ButtressWall$State" ∈ big) (hN : N < 100000) (hcw : clW k w) (hcs : st.all (clR k) = true) (hcls : clL k ls = true) (hroom : z.2.1 + 1 ≤ mkc M ∧ z.2.2 + N ≤ mks M) (hn : pc + 3 = n)
    (kk : G l M (z.1, z.2.1 + 1, z.2.2 + N) Q n ls (.ref k :: st) (w ++ [.inl (2, N, .inr (.inr (.inr (.inr (fun _ => none)))))])) : G l M z Q pc ls (.int (nI N) :: st) w := by
  subst hn
  subst hk
  intro p e s m args below meth c D ct A ad0 ad H locs la C0 hA h0 h1 hz hP hD hS hL
  refine va_newq (own := (mnm M).cls) (C := "ButtressWall$State") (N' := N) C0.1 C0.2.1 C0.2.2.2.2.1 (C0.2.2.2.2.2.1 _ hcl) C0.2.2.2.2.2.2.2.2.2.2 C0.2.2.2.2.2.2.2.2.1 hP hD hS hA (nI_pos (by omega)) (nI_clamp (by omega)) (by omega) hroom.1 hroom.2 hd (fun q cA H1 hK1 hP1 hD1 hS1 => ?_)
  have ec : cA = ct 2 := by
    have a1 := va_nmO (hK1.2 3 _ rfl).2 rfl
    have a2 := va_nmO (C0.2.2.2.2.2.2.2.2.1.2 2 _ rfl).2 rfl
    rw [a1] at a2
    exact Option.some.inj a2
  subst ec
  have e := fun i (hi : i < w.length) => ext1_lt (ad := ad) (q := q) hi
  have e9 : wa ct (ext1 ad w.length q) (w ++ [.inl (2, N, .inr (.inr (.inr (.inr (fun _ => none)))))]) = wa ct ad w ++ [(q, .inl (ct 2, N, .inr (.inr (.inr (.inr (fun _ => none))))))] := by
    rw [wa_app, wa_cl e (Nat.le_refl _) hcw, ext1_at]
    rfl
  have key := kk p ‹Env› s m args below meth c D ct A ad0 (ext1 ad w.length q) H1 locs la C0 hA (fun i hi => (e i (by omega)).trans (h0 i hi)) (fun h => absurd h (Nat.succ_ne_zero _)) (by rw [List.length_append]; show z.1 ≤ w.length + 1; omega) (e9 ▸ hP1) (e9 ▸ hD1) hS1 (hL.ext e hcls)
  have e8 : (Value.ref w.length :: st).map (rv (ext1 ad w.length q)) = .ref q :: st.map (rv ad) := by
    rw [List.map_cons, st_ext e hcs]
    show Value.ref (ext1 ad w.length q w.length) :: _ = _
    rw [ext1_at]
  rw [e8] at key
  exact key
end RN
/-! a constructor that makes cells -/
section RK
variable {p : Program} {l : Launch} {e : Env} {R : Room} {s : State} {m : MethodId} {args : Array Value} {below : List Frame} {meth : Method} {c : Code} {H : Heap} {locs : List Loc} {kc ks kc0 ks0 pc : Nat} {Qs : State → Prop} {la : Array Slot} {st0 rest : List Value} {D : va_G} {ct ad : Nat → Nat} {A : Nat → Prop} {a : Array Value} {Q1 : Option Value → List va_E → Prop}
theorem run_backK {cw : List va_E} (hr : va_Run p l e R s m args below meth c H locs kc ks kc0 ks0 (F0 m pc la st0) rest (Qm D ct (va_A (wa ct ad cw) H.size) ad cw.length kc0 Q1 a) (va_A (wa ct ad cw) H.size)) (hS : va_S A s.heap H locs) (hF : ∀ q, va_A (wa ct ad cw) H.size q → A q)
    (kk : ∀ (r : Option Value) (cw2 : List va_E) (ad2 : Nat → Nat) (H1 : Heap) (locs1 : List Loc), Q1 r cw2 → (∀ i, i < cw.length → ad2 i = ad i) → va_P D vwCl (wa ct ad2 cw2) H1 → va_D (va_A (wa ct ad cw) H.size) (wa ct ad2 cw2) → (∀ q : Nat, q < H.size → ¬ va_A (wa ct ad cw) H.size q → H1[q]? = H[q]?) → va_S A s.heap H1 locs1 → W p l e R s m args below meth c H1 locs1 (kc + kc0) (ks + ks0) Qs (F0 m (pc + 3) la ((r.map (rv ad2)).toList ++ rest))) :
    W p l e R s m args below meth c H locs kc ks Qs (F0 m pc la st0) := by
  intro T hT X
  obtain ⟨v, st₀, t, T2, L, h0, X2, hL, e1, e2, ⟨⟨r, cw2, ad2, hv, hq, had, -, hP1, hD1⟩, hz, hk⟩, st⟩ := hr T hT X
  cases hv
  rw [h0] at hz hk
  obtain ⟨t2, a1, b1⟩ := kk r cw2 ad2 T2.heap (locs ++ L) hq had (by rw [e1]; exact hP1) hD1 (fun q h1 h2 => by rw [e1]; exact hk q h1 h2)
    ⟨Nat.le_trans hS.1 (by rw [e1]; exact hz), fun q h1 h2 => by rw [e1, hk q (Nat.lt_of_lt_of_le h1 hS.1) (fun z => h2 (hF q z))]; exact hS.2.1 q h1 h2, fun q hq => by
      rcases List.mem_append.mp hq with h | h
      · exact hS.2.2 q h
      · exact hF _ (hL q h)⟩ T2 rfl X2
  exact ⟨t2, st t2 a1, b1⟩
end RK
/-- the caller's world, when the callee's cell a has become y0 and the cells news are new -/
theorem wa_grow {D : va_G} {ct ad ad2 : Nat → Nat} {A : Nat → Prop} {w news : List va_E} {x0 y0 : va_E} {a : Nat} {ps : List Nat} {H H1 : Heap} (hwa : w[a]? = some x0) (hcw : clW w.length w) (hcn : clW (1 + news.length) (y0 :: news)) (hps : ∀ j, j < 1 + news.length → sg ps j = if j = 0 then a else w.length + (j - 1))
    (hP : va_P D vwCl (wa ct ad w) H) (hD : va_D A (wa ct ad w)) (h0 : ad2 0 = ad a) (hP1 : va_P D vwCl (wa ct ad2 (y0 :: news)) H1) (hD1 : va_D (fun q => q = ad a ∨ H.size ≤ q) (wa ct ad2 (y0 :: news))) (hk : ∀ q : Nat, q < H.size → ¬ q = ad a → H1[q]? = H[q]?) (hF : ∀ q, H.size ≤ q → A q) :
    va_P D vwCl (wa ct (fun i => if i < w.length then ad i else ad2 (i - w.length + 1)) (w.set a (ren ps y0) ++ news.map (ren ps))) H1 ∧ va_D A (wa ct (fun i => if i < w.length then ad i else ad2 (i - w.length + 1)) (w.set a (ren ps y0) ++ news.map (ren ps))) := by
  generalize hadn : (fun i => if i < w.length then ad i else ad2 (i - w.length + 1)) = adn
  have hal : a < w.length := (List.getElem?_eq_some_iff.mp hwa).1
  have en : ∀ i, i < w.length → adn i = ad i := fun i hi => by rw [← hadn]; exact if_pos hi
  have eg : ∀ j, adn (w.length + j) = ad2 (j + 1) := fun j => by
    rw [← hadn]
    show (if w.length + j < w.length then _ else ad2 (w.length + j - w.length + 1)) = _
    rw [if_neg (by omega), show w.length + j - w.length = j by omega]
  have es : ∀ j, j < 1 + news.length → adn (sg ps j) = ad2 j := fun j hj => by
    rw [hps j hj]
    by_cases e : j = 0
    · subst e
      rw [if_pos rfl, en a hal, h0]
    · rw [if_neg e, eg, show j - 1 + 1 = j by omega]
  have er : ∀ y, y ∈ y0 :: news → rcl ct adn (ren ps y) = rcl ct ad2 y := fun y hy => by
    rw [rcl_ren]
    exact rcl_cl (n := 1 + news.length) es (clW_mem hcn y hy)
  have hcase : ∀ (i : Nat) (q : Nat × va_E), (wa ct adn (w.set a (ren ps y0) ++ news.map (ren ps)))[i]? = some q → (i < w.length ∧ ¬ i = a ∧ (wa ct ad w)[i]? = some q) ∨ (i = a ∧ q = (ad2 0, rcl ct ad2 y0)) ∨ (w.length ≤ i ∧ (wa ct ad2 (y0 :: news))[i - w.length + 1]? = some q) := by
    intro i q hq
    rw [wa_get] at hq
    obtain ⟨x, hx, rfl⟩ := Option.map_eq_some_iff.mp hq
    by_cases hi : i < w.length
    · rw [List.getElem?_append_left (by rw [List.length_set]; exact hi)] at hx
      by_cases e : i = a
      · subst e
        rw [List.getElem?_set_self hi] at hx
        cases hx
        refine Or.inr (Or.inl ⟨rfl, ?_⟩)
        rw [er y0 List.mem_cons_self, en i hi, h0]
      · rw [List.getElem?_set_ne (fun q => e q.symm)] at hx
        refine Or.inl ⟨hi, e, ?_⟩
        rw [wa_get, hx, en i hi]
        exact congrArg (fun z => some (ad i, z)) (rcl_cl (n := w.length) en (clW_mem hcw x (List.mem_of_getElem? hx))).symm
    · rw [List.getElem?_append_right (by rw [List.length_set]; omega), List.length_set, List.getElem?_map] at hx
      obtain ⟨y, hy, rfl⟩ := Option.map_eq_some_iff.mp hx
      refine Or.inr (Or.inr ⟨by omega, ?_⟩)
      rw [wa_get, List.getElem?_cons_succ, hy, er y (List.mem_cons_of_mem _ (List.mem_of_getElem? hy))]
      have : adn i = ad2 (i - w.length + 1) := by
        have := eg (i - w.length)
        rwa [show w.length + (i - w.length) = i by omega] at this
      rw [this]
      rfl
  have y00 : (wa ct ad2 (y0 :: news))[0]? = some (ad2 0, rcl ct ad2 y0) := wa_at (i := 0) rfl
  have big_ : ∀ (j : Nat) (q : Nat × va_E), (wa ct ad2 (y0 :: news))[j + 1]? = some q → H.size ≤ q.1 := fun j q hq => by
    rcases hD1.2 _ q hq with h | h
    · exact absurd (hD1.1 (j + 1) 0 q _ hq y00 (h.trans h0.symm)) (Nat.succ_ne_zero _)
    · exact h
  refine ⟨fun i q hq => ?_, fun i j q r hq hr e => ?_, fun i q hq => ?_⟩
  · rcases hcase i q hq with ⟨h1, h2, h3⟩ | ⟨h1, h2⟩ | ⟨h1, h2⟩
    · have h4 := hP i q h3
      refine h4.kept (hk _ h4.lt (fun h => h2 ?_))
      exact hD.1 i a q _ h3 (wa_at hwa) h
    · rw [h2]; exact hP1 0 _ y00
    · exact hP1 _ q h2
  · have old : ∀ (i : Nat) (q : Nat × va_E), (wa ct ad w)[i]? = some q → q.1 < H.size := fun i q h => (hP i q h).lt
    have aold : ad a < H.size := old a _ (wa_at hwa)
    rcases hcase i q hq with ⟨h1, h2, h3⟩ | ⟨h1, h2⟩ | ⟨h1, h2⟩ <;> rcases hcase j r hr with ⟨g1, g2, g3⟩ | ⟨g1, g2⟩ | ⟨g1, g2⟩
    · exact hD.1 i j q r h3 g3 e
    · have : i = a := hD.1 i a q _ h3 (wa_at hwa) (by rw [e, g2]; exact h0)
      rw [this, g1]
    · have := old i q h3
      have := big_ _ r g2
      omega
    · have : j = a := hD.1 j a r _ g3 (wa_at hwa) (by rw [← e, h2]; exact h0)
      rw [this, h1]
    · rw [h1, g1]
    · have h5 := big_ _ r g2
      rw [← e, h2] at h5
      have h5 : H.size ≤ ad2 0 := h5
      omega
    · have := old j r g3
      have := big_ _ q h2
      omega
    · have h5 := big_ _ q h2
      rw [e, g2] at h5
      have h5 : H.size ≤ ad2 0 := h5
      omega
    · have := hD1.1 _ _ q r h2 g2 e
      omega
  · rcases hcase i q hq with ⟨h1, h2, h3⟩ | ⟨h1, h2⟩ | ⟨h1, h2⟩
    · exact hD.2 i q h3
    · rw [h2]
      show A (ad2 0)
      rw [h0]
      exact hD.2 a _ (wa_at hwa)
    · exact hF _ (big_ _ q h2)
section RQ
variable {l : Launch} {M M1 : MC} {z : Nat × Nat × Nat} {Q : Option Value → List va_E → Prop} {pc n ix a k : Nat} {ls : List (Option Value)} {rest : List Value} {w news : List va_E} {x0 y0 : va_E} {ps : List Nat}
theorem g_callIN {nn : Nat} (hk : w.length = k) (hnn : news.length = nn) (hcall : CIN (mnm M).cls ix M1 0) (hcon : Con l M1 [.ref 0] [x0] (fun r u => r = none ∧ u = y0 :: news)) (hd : decode (mby M) pc = .ok (.invokespecial ix, 3)) (hwa : w[a]? = some x0) (hx0 : clE 0 x0) (hcn : clW (1 + nn) (y0 :: news)) (hps : ∀ j, j < 1 + nn → sg ps j = if j = 0 then a else k + (j - 1))
    (hcw : clW k w) (hcs : rest.all (clR k) = true) (hcls : clL k ls = true) (hdp : mdp M1 + 1 ≤ mdp M ∧ mlo M1 ≤ 29 ∧ 0 < mkc M1 ∧ z.2.1 + mkc M1 ≤ mkc M ∧ z.2.2 + mks M1 ≤ mks M) (hrs : (rest.map fun v => v.category).sum ≤ 8) (hn : pc + 3 = n)
    (kk : G l M (z.1, z.2.1 + mkc M1, z.2.2 + mks M1) Q n ls rest (w.set a (ren ps y0) ++ news.map (ren ps))) : G l M z Q pc ls (.ref a :: rest) w := by
  subst hn
  subst hk
  subst hnn
  obtain ⟨⟨hini, hcode, hy⟩, hlk, him, hnm, hrt⟩ := hcall
  obtain ⟨d1, d2, d3, d4, d5⟩ := hdp
  intro p e s m args below meth c D ct A ad0 ad H locs la C hA h0 h1 hz hP hD hS hL
  have hts := C.2.2.2.2.2.1
  have hcut : [a].map (fun i => (wa ct ad w)[i]?) = (wa ct (fun _ => ad a) [x0]).map some := by
    show [(wa ct ad w)[a]?] = [some (ad a, rcl ct (fun _ => ad a) x0)]
    rw [wa_at hwa, rcl_cl (n := 0) (ad := ad) (ad2 := fun _ => ad a) (fun i hi => absurd hi (Nat.not_lt_zero _)) hx0]
  have hPc := hP.sub (ws' := wa ct (fun _ => ad a) [x0]) [a] (fm_of _ _ _ hcut)
  have hDc := hD.sub [a] rfl hcut
  have hF := va_free (wc := wa ct (fun _ => ad a) [x0]) hD hS hA [a] hcut
  have hM := hcon D ct (fun _ => ad a) H.size
  rw [hrt] at hM hcode
  refine run_backK (cw := [x0]) (ad := fun _ => ad a) (rest := rest.map (rv ad)) (va_runIN (host := RX8) (b := ad a) (As := []) ⟨C.1, C.2.1, C.2.2.2.1, C.2.2.2.2.1, hts⟩ hM
    ⟨va_cnB 0 hts (good_big hcode) rfl rfl rfl (C.2.2.2.2.2.2.2.2.2.1 _ hlk) (hts _ hini) hy ⟨d1, by show 8 + (mlo M1 + 11) + 48 * mdp M1 ≤ 48 * mdp M; omega⟩, hnm, hts _ him⟩
    ⟨Pm_blind, fun U hU hW => ⟨rfl, by rw [hU], by rw [hU]; exact hPc, KB.moved hW C.2.2.2.2.2.2.2.2, hDc.weaken (fun _ _ _ _ => trivial)⟩⟩
    rfl rfl hL.1 rfl (by show 2 * 0 + _ ≤ 8; rw [cat_map]; omega) hd ⟨d4, d5⟩) hS hF (fun r cw2 ad2 H1 locs1 hq had hP1 hD1 hk1 hS1 => ?_)
  obtain ⟨rfl, rfl⟩ := hq
  have h2 : ad2 0 = ad a := had 0 (Nat.zero_lt_succ _)
  have hvA : ∀ q, va_A (wa ct (fun _ => ad a) [x0]) H.size q ↔ (q = ad a ∨ H.size ≤ q) := fun q => by
    constructor
    · rintro (⟨k, e1, h⟩ | h)
      · rw [wa_get] at h
        obtain ⟨x, hx, h⟩ := Option.map_eq_some_iff.mp h
        exact Or.inl (congrArg Prod.fst h).symm
      · exact Or.inr h
    · rintro (rfl | h)
      · exact Or.inl ⟨0, _, rfl⟩
      · exact Or.inr h
  obtain ⟨hP2, hD2⟩ := wa_grow (ps := ps) hwa hcw hcn hps hP hD h2 hP1 (hD1.weaken (fun _ q _ h => (hvA _).mp h)) (fun q g1 g2 => hk1 q g1 (fun x => by
    rcases (hvA q).mp x with y | y
    · exact g2 y
    · omega)) (fun q hq => hF q ((hvA q).mpr (Or.inr hq)))
  have en : ∀ i, i < w.length → (fun i => if i < w.length then ad i else ad2 (i - w.length + 1)) i = ad i := fun i hi => if_pos hi
  have key := kk p e s m args below meth c D ct A ad0 _ H1 locs1 la C hA (fun i hi => (en i (by omega)).trans (h0 i hi)) (fun h => absurd h (by show ¬ z.2.1 + mkc M1 = 0; omega)) (by rw [List.length_append, List.length_set]; show z.1 ≤ _; omega) hP2 hD2 hS1 (hL.ext en hcls)
  rw [st_ext en hcs] at key
  exact key
end RQ
theorem sref_up (b k : Nat) : va_up (sref b k) k (some (b + 4 * k)) = sref b (k + 1) := by
  funext j
  unfold va_up sref
  by_cases e : j = k
  · subst e
    rw [if_pos rfl, if_pos (Nat.lt_succ_self _)]
  · rw [if_neg e]
    by_cases h : j < k
    · rw [if_pos h, if_pos (by omega)]
    · rw [if_neg h, if_neg (by omega)]
theorem sref_0 (b : Nat) : (fun _ => none) = sref b 0 := by
  funext j
  unfold sref
  rw [if_neg (Nat.not_lt_zero _)]
theorem sref_cl {b k n : Nat} (h : b + 4 * k ≤ n + 3) : ∀ j r, sref b k j = some r → r < n := by
  intro j r hr
  unfold sref at hr
  by_cases e : j < k
  · rw [if_pos e] at hr
    cases hr
    omega
  · rw [if_neg e] at hr
    cases hr
theorem none_cl {n : Nat} : ∀ (j r : Nat), (fun _ : Nat => (none : Option Nat)) j = some r → r < n := fun _ _ h => by cases h

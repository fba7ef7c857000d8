/-! 04.core: worlds by number. A world is a list of cells; a reference in it is a place in that list; 'ad' says where each place lies in the heap. G is the machine at a frame, seen so; Con is a method's contract, seen so. -/
def rv (ad : Nat → Nat) (v : Value) : Value := match v with
  | .ref i => .ref (ad i)
  | .int x => .int x
  | .long x => .long x
  | .float x => .float x
  | .double x => .double x
  | .null => .null
  | .retAddr x => .retAddr x
def rct (ad : Nat → Nat) (f : (Nat → Int32) ⊕ (Nat → Int64) ⊕ (Nat → UInt32) ⊕ (Nat → UInt64) ⊕ (Nat → Option Nat)) : (Nat → Int32) ⊕ (Nat → Int64) ⊕ (Nat → UInt32) ⊕ (Nat → UInt64) ⊕ (Nat → Option Nat) := match f with
  | .inl g => .inl g
  | .inr (.inl g) => .inr (.inl g)
  | .inr (.inr (.inl g)) => .inr (.inr (.inl g))
  | .inr (.inr (.inr (.inl g))) => .inr (.inr (.inr (.inl g)))
  | .inr (.inr (.inr (.inr g))) => .inr (.inr (.inr (.inr (fun j => (g j).map ad))))
def rcl (ct ad : Nat → Nat) (x : va_E) : va_E := match x with
  | .inl (t, n, f) => .inl (ct t, n, rct ad f)
  | .inr (c, fs) => .inr (c, fs.map (rv ad))
def wa (ct ad : Nat → Nat) (w : List va_E) : va_W := w.mapIdx (fun i x => (ad i, rcl ct ad x))
theorem wa_get (ct ad : Nat → Nat) (w : List va_E) (i : Nat) : (wa ct ad w)[i]? = (w[i]?).map (fun x => (ad i, rcl ct ad x)) := by simp [wa]
theorem wa_at {ct ad : Nat → Nat} {w : List va_E} {i : Nat} {x : va_E} (h : w[i]? = some x) : (wa ct ad w)[i]? = some (ad i, rcl ct ad x) := by rw [wa_get, h]; rfl
theorem wa_len (ct ad : Nat → Nat) (w : List va_E) : (wa ct ad w).length = w.length := by simp [wa]
theorem wa_set (ct ad : Nat → Nat) (w : List va_E) (i : Nat) (x : va_E) : (wa ct ad w).set i (ad i, rcl ct ad x) = wa ct ad (w.set i x) := by
  apply List.ext_getElem?
  intro j
  rw [wa_get, List.getElem?_set, List.getElem?_set, wa_get, wa_len]
  by_cases h : i = j
  · subst h
    by_cases h2 : i < w.length
    · simp [h2]
    · simp [h2]
  · simp [h]
theorem rv_cat (ad : Nat → Nat) (v : Value) : (rv ad v).category = v.category := by cases v <;> rfl
/-- the locals -/
def LR (ad : Nat → Nat) (nL : Nat) (ls : List (Option Value)) (la : Array Slot) : Prop := la.size = nL ∧ lv_wf la ∧ ∀ (i : Nat) (v : Value), ls[i]? = some (some v) → la[i]? = some (.val (rv ad v))
def lpr (ad : Nat → Nat) (ls : List (Option Value)) : List (Nat × Value) := (List.range ls.length).filterMap (fun i => match ls[i]? with
  | some (some v) => some (i, rv ad v)
  | _ => none)
theorem lpr_mem {ad : Nat → Nat} {ls : List (Option Value)} {i : Nat} {v : Value} (h : ls[i]? = some (some v)) : (i, rv ad v) ∈ lpr ad ls := by
  refine List.mem_filterMap.mpr ⟨i, List.mem_range.mpr (List.getElem?_eq_some_iff.mp h).1, ?_⟩
  rw [h]
theorem LR.has {ad : Nat → Nat} {nL : Nat} {ls : List (Option Value)} {la : Array Slot} (h : LR ad nL ls la) : lv_has la nL (lpr ad ls) := by
  refine ⟨h.1, h.2.1, fun q hq => ?_⟩
  obtain ⟨i, -, hi⟩ := List.mem_filterMap.mp hq
  split at hi
  · next v hv =>
    cases hi
    exact h.2.2 i v hv
  · cases hi
/-- no value of two places stands just below place i -/
def nl2 (ls : List (Option Value)) (i : Nat) : Bool := match i with
  | 0 => true
  | j + 1 => match ls[j]? with
    | some (some (.long _)) => false
    | some (some (.double _)) => false
    | _ => true
theorem nl2_ne {ls : List (Option Value)} {i j : Nat} {v : Value} (h : nl2 ls i = true) (hj : ls[j]? = some (some v)) (hji : j + 1 = i) : ¬ v.category = 2 := by
  subst hji
  simp only [nl2, hj] at h
  cases v <;> simp_all [Value.category]
theorem LR.store1 {ad : Nat → Nat} {nL : Nat} {ls : List (Option Value)} {la : Array Slot} {i : Nat} {v : Value} (hn : nl2 ls i = true)
    (h : lv_has la nL ((i, rv ad v) :: (lpr ad ls).filter (fun q => !(q.1 == i) && !(q.1 + 1 == i && q.2.category == 2)))) : LR ad nL (ls.set i (some v)) la := by
  refine ⟨h.1, h.2.1, fun j u hj => ?_⟩
  by_cases hij : i = j
  · subst hij
    by_cases hl : i < ls.length
    · rw [List.getElem?_set_self hl] at hj
      cases hj
      exact h.2.2 (i, rv ad v) List.mem_cons_self
    · rw [List.getElem?_eq_none (by simp; omega)] at hj
      cases hj
  · rw [List.getElem?_set_ne hij] at hj
    refine h.2.2 (j, rv ad u) (List.mem_cons_of_mem _ (List.mem_filter.mpr ⟨lpr_mem hj, ?_⟩))
    have h2 : ¬ (j + 1 = i ∧ u.category = 2) := fun q => nl2_ne hn hj q.1 q.2
    have h3 : ¬ j = i := fun q => hij q.symm
    simp only [rv_cat, Bool.and_eq_true, Bool.not_eq_true', beq_eq_false_iff_ne, ne_eq, Bool.and_eq_false_iff]
    refine ⟨h3, ?_⟩
    by_cases q : j + 1 = i
    · exact Or.inr (fun z => h2 ⟨q, z⟩)
    · exact Or.inl q
theorem LR.store2 {ad : Nat → Nat} {nL : Nat} {ls : List (Option Value)} {la : Array Slot} {i : Nat} {v : Value} (hn : nl2 ls i = true)
    (h : lv_has la nL ((i, rv ad v) :: (lpr ad ls).filter (fun q => !(q.1 == i) && (!(q.1 == i + 1) && !(q.1 + 1 == i && q.2.category == 2))))) : LR ad nL ((ls.set i (some v)).set (i + 1) none) la := by
  refine ⟨h.1, h.2.1, fun j u hj => ?_⟩
  by_cases hj1 : i + 1 = j
  · subst hj1
    by_cases hl : i + 1 < ls.length
    · rw [List.getElem?_set_self (by simpa using hl)] at hj
      cases hj
    · rw [List.getElem?_eq_none (by simp; omega)] at hj
      cases hj
  rw [List.getElem?_set_ne hj1] at hj
  by_cases hij : i = j
  · subst hij
    by_cases hl : i < ls.length
    · rw [List.getElem?_set_self hl] at hj
      cases hj
      exact h.2.2 (i, rv ad v) List.mem_cons_self
    · rw [List.getElem?_eq_none (by simp; omega)] at hj
      cases hj
  · rw [List.getElem?_set_ne hij] at hj
    refine h.2.2 (j, rv ad u) (List.mem_cons_of_mem _ (List.mem_filter.mpr ⟨lpr_mem hj, ?_⟩))
    have h2 : ¬ (j + 1 = i ∧ u.category = 2) := fun q => nl2_ne hn hj q.1 q.2
    have h3 : ¬ j = i := fun q => hij q.symm
    have h4 : ¬ j = i + 1 := fun q => hj1 q.symm
    simp only [rv_cat, Bool.and_eq_true, Bool.not_eq_true', beq_eq_false_iff_ne, ne_eq, Bool.and_eq_false_iff]
    refine ⟨h3, h4, ?_⟩
    by_cases q : j + 1 = i
    · exact Or.inr (fun z => h2 ⟨q, z⟩)
    · exact Or.inl q
/-! what a method is: its name, bytes, locals, answer; how deep it calls; cells and slots that it makes -/
abbrev MC : Type := MethodName × ByteArray × Nat × Option FieldType × Nat × Nat × Nat
abbrev mnm (M : MC) : MethodName := M.1
abbrev mby (M : MC) : ByteArray := M.2.1
abbrev mlo (M : MC) : Nat := M.2.2.1
abbrev mrt (M : MC) : Option FieldType := M.2.2.2.1
abbrev mdp (M : MC) : Nat := M.2.2.2.2.1
abbrev mkc (M : MC) : Nat := M.2.2.2.2.2.1
abbrev mks (M : MC) : Nat := M.2.2.2.2.2.2
def rmd (d c k : Nat) : Room := { frames := d, cells := c, slots := k, locals := 48 * d }
abbrev tys3 (ct : Nat → Nat) : List (ClassId × FieldType) := [(ct 0, .int), (ct 1, .char), (ct 2, .object "ButtressWall$State")]
/-- the private members of nest mates that are called -/
def nestW : List (String × Nat × MethodName × String) := [(RX8, 9, yX4_init, RX8), (RX8, 18, yX1_init, RX8), (RX8, 25, yX0_init, RX8), (RX8, 32, yX6_init, RX8), (RX6, 11, yX3_init, RX8), (RX6, 20, yX0_init, RX8), (RX2, 13, yX0_init, RX8), (RX2, 24, yX3_init, RX8), (RX8, 46, yX3_init, RX8), (RX5, 17, yX3_init, RX8), (RX8, 64, yX7_init, RX8), (RX7, 65, yX8_hasBit, RX8), (RX0, 115, yX8_hasBit, RX8), (RX3, 75, yX8_hasBit, RX8), (RX2, 62, yX8_isPart, RX8), (RX2, 69, yX8_hasBit, RX8)]
def KB (D : va_G) (ct : Nat → Nat) (U : State) : Prop := va_K D vwCl (tys3 ct) U ∧ (∀ q ∈ nestW, va_Nw (.methodLinkNest q.1 q.2.1 q.2.2.1 q.2.2.2) U) ∧ va_AO "ButtressWall$State" U
theorem KB.moved {D : va_G} {ct : Nat → Nat} {u U : State} (hW : u.WarmedH U.vm) (h : KB D ct u) : KB D ct U := ⟨va_K.moved hW.alike h.1, fun q hq => va_Nw.warmM hW (h.2.1 q hq), va_AO.moved hW.alike h.2.2⟩
theorem KB.calling {D : va_G} {ct : Nat → Nat} {U : State} {g : JFrame} {mk : MethodId} {a : Array Value} (h : KB D ct U) : KB D ct (U.calling g mk a) := ⟨va_K.moved (u := U) (U := U.calling g mk a) (Vm.Alike.refl U.vm) h.1, fun q hq => va_Nw.same rfl (u := U) (U := U.calling g mk a) rfl (h.2.1 q hq), va_AO.moved (u := U) (U := U.calling g mk a) (Vm.Alike.refl U.vm) h.2.2⟩
def Qm (D : va_G) (ct : Nat → Nat) (A : Nat → Prop) (ad0 : Nat → Nat) (n0 kc : Nat) (Q : Option Value → List va_E → Prop) : Array Value → State → Outcome → State → Prop := fun _ st oc t =>
  (∃ (r : Option Value) (w' : List va_E) (ad' : Nat → Nat), oc = .returned (r.map (rv ad')) ∧ Q r w' ∧ (∀ i, i < n0 → ad' i = ad0 i) ∧ (kc = 0 → ad' = ad0) ∧ va_P D vwCl (wa ct ad' w') t.heap ∧ va_D A (wa ct ad' w')) ∧ va_F A st t
def Pm (D : va_G) (ct ad : Nat → Nat) (sz : Nat) (av : List Value) (w : List va_E) : Array Value → State → Prop := va_Pc (av.map (rv ad)) (fun U => U.heap.size = sz ∧ va_P D vwCl (wa ct ad w) U.heap ∧ KB D ct U ∧ va_D (fun _ => True) (wa ct ad w))
def Con (l : Launch) (M : MC) (av : List Value) (w : List va_E) (Q : Option Value → List va_E → Prop) : Prop :=
  ∀ (D : va_G) (ct ad : Nat → Nat) (sz : Nat), Met l (mnm M) (.code (mnm M) (mby M) (mlo M) (mrt M) :: big) (rmd (mdp M) (mkc M) (mks M)) (Pm D ct ad sz av w) (Qm D ct (va_A (wa ct ad w) sz) ad w.length (mkc M) Q) (mkc M) (mks M) (va_A (wa ct ad w) sz)
def Cx (M : MC) (p : Program) (s : State) (m : MethodId) (args : Array Value) (meth : Method) (c : Code) (D : va_G) (ct : Nat → Nat) : Prop :=
  p.tables.exec = Jvm.exec ∧ c.code = mby M ∧ meth.sig.returnType = mrt M ∧ c.maxLocals = mlo M ∧ s.vm.findClass (mnm M).cls = some m.cls ∧ (∀ w ∈ big, w.before args s = true) ∧ meth.locks = false ∧ meth.name = (mnm M).name ∧ KB D ct s
def G (l : Launch) (M : MC) (z : Nat × Nat × Nat) (Q : Option Value → List va_E → Prop) (pc : Nat) (ls : List (Option Value)) (st : List Value) (w : List va_E) : Prop :=
  ∀ (p : Program) (e : Env) (s : State) (m : MethodId) (args : Array Value) (below : List Frame) (meth : Method) (c : Code) (D : va_G) (ct : Nat → Nat) (A : Nat → Prop) (ad0 ad : Nat → Nat) (H : Heap) (locs : List Loc) (la : Array Slot),
    Cx M p s m args meth c D ct → (∀ q, s.heap.size ≤ q → A q) → (∀ i, i < z.1 → ad i = ad0 i) → (z.2.1 = 0 → ad = ad0) → z.1 ≤ w.length → va_P D vwCl (wa ct ad w) H → va_D A (wa ct ad w) → va_S A s.heap H locs → LR ad (mlo M) ls la →
    W p l e (rmd (mdp M) (mkc M) (mks M)) s m args below meth c H locs z.2.1 z.2.2 (MQ below (Qm D ct A ad0 z.1 (mkc M) Q) args s (mkc M) (mks M) A) (F0 m pc la (st.map (rv ad)))
theorem lv_args_mem : ∀ (vs : List Value) (k : Nat), (∀ v ∈ vs, v.category = 1) → ∀ (i : Nat) (v : Value), vs[i]? = some v → (k + i, v) ∈ lv_args k vs
  | [], _, _, _, _, h => by simp at h
  | u :: vs, k, hc, 0, v, h => by
    have : u = v := by simpa using h
    subst this
    simp [lv_args]
  | u :: vs, k, hc, i + 1, v, h => by
    have h1 : vs[i]? = some v := by simpa using h
    have h2 := lv_args_mem vs (k + 1) (fun x hx => hc x (List.mem_cons_of_mem _ hx)) i v h1
    have hu : ¬ u.category = 2 := by rw [hc u List.mem_cons_self]; decide
    simp only [lv_args, hu, if_false]
    refine List.mem_cons_of_mem _ ?_
    rw [show k + (i + 1) = k + 1 + i by omega]
    exact h2
theorem lg_sl_len : ∀ (vs : List Value), (∀ v ∈ vs, v.category = 1) → (lg_sl vs).length = vs.length
  | [], _ => rfl
  | u :: vs, hc => by
    have h2 := lg_sl_len vs (fun x hx => hc x (List.mem_cons_of_mem _ hx))
    have hu : ¬ u.category = 2 := by rw [hc u List.mem_cons_self]; decide
    simp only [lg_sl, List.flatMap_cons, hu, if_false, List.length_append, List.length_cons, List.length_nil]
    simp only [lg_sl] at h2
    rw [h2]
    omega
theorem con_of {l : Launch} {M : MC} {av : List Value} {w : List va_E} {Q : Option Value → List va_E → Prop} (hp : plainName (mnm M).cls = true) (hcat : av.all (fun v => v.category == 1) = true) (hlen : av.length ≤ mlo M)
    (h : G l M (w.length, 0, 0) Q 0 (av.map some ++ List.replicate (mlo M - av.length) none) [] w) : Con l M av w Q := by
  intro D ct ad sz
  refine Met.ofW (cc := mby M) (maxL := mlo M) (ret := mrt M) hp rfl ?_
  intro p e s m args below meth c s₁ B hml hv
  obtain ⟨rfl, hsz, hP, hK, hD0⟩ := hv
  subst hsz
  have hts := atoms_spec (ws := .code (mnm M) (mby M) (mlo M) (mrt M) :: big) B.pre
  have hc1 : ∀ v ∈ av.map (rv ad), v.category = 1 := by
    intro v hv
    obtain ⟨u, hu, rfl⟩ := List.mem_map.mp hv
    rw [rv_cat]
    exact eq_of_beq (List.all_eq_true.mp hcat u hu)
  have hl := lv_entry (av.map (rv ad)) (n := mlo M) (by rw [lg_sl_len _ hc1, List.length_map]; exact hlen)
  rw [lg_entry_eq]
  refine h p e s m _ below meth c D ct _ ad ad s.heap [] _ ⟨B.exec, B.bytes, B.returns, hml, findClass_of_methodNamed B.named, fun w hw => hts w (List.mem_cons_of_mem _ hw), B.notSynchronized, (name_of_methodNamed B.named B.method).1, hK⟩ (fun q h => Or.inr h) (fun _ _ => rfl) (fun _ => rfl) (Nat.le_refl _) hP hD0.self va_S.rf ⟨hl.1, hl.2.1, fun i v hi => ?_⟩
  have hi2 : av[i]? = some v := by
    by_cases hil : i < av.length
    · rw [List.getElem?_append_left (by simpa using hil), List.getElem?_map] at hi
      cases hx : av[i]? with
      | none => rw [hx] at hi; cases hi
      | some u => rw [hx] at hi; cases hi; rfl
    · rw [List.getElem?_append_right (by simpa using hil)] at hi
      have := List.mem_of_getElem? hi
      rw [List.mem_replicate] at this
      cases this.2
  have := lv_args_mem (av.map (rv ad)) 0 hc1 i (rv ad v) (by rw [List.getElem?_map, hi2]; rfl)
  rw [Nat.zero_add] at this
  exact hl.2.2 _ this

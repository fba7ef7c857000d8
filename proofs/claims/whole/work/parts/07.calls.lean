/-! 07.calls: a call by contract -/
/-- of which cell 'ps' of the caller's world the callee's cell j is -/
def sg (ps : List Nat) (j : Nat) : Nat := ps.getD j 0
def ren (ps : List Nat) (x : va_E) : va_E := rcl id (sg ps) x
def putL (w : List va_E) (ps : List Nat) (cw : List va_E) : List va_E := (ps.zip cw).foldl (fun w q => w.set q.1 (ren ps q.2)) w
theorem rv_rv (ad : Nat → Nat) (ps : List Nat) (v : Value) : rv ad (rv (sg ps) v) = rv (fun j => ad (sg ps j)) v := by cases v <;> rfl
theorem rcl_ren (ct ad : Nat → Nat) (ps : List Nat) (x : va_E) : rcl ct ad (ren ps x) = rcl ct (fun j => ad (sg ps j)) x := by
  rcases x with ⟨t, n, f | f | f | f | f⟩ | ⟨c, fs⟩
  · rfl
  · rfl
  · rfl
  · rfl
  · show (Sum.inl (ct t, n, .inr (.inr (.inr (.inr (fun j => ((f j).map (sg ps)).map ad))))) : va_E) = Sum.inl (ct t, n, .inr (.inr (.inr (.inr (fun j => (f j).map (fun j => ad (sg ps j)))))))
    refine congrArg (fun h : Nat → Option Nat => (Sum.inl (ct t, n, .inr (.inr (.inr (.inr h)))) : va_E)) ?_
    funext j
    cases f j <;> rfl
  · show (Sum.inr (c, (fs.map (rv (sg ps))).map (rv ad)) : va_E) = Sum.inr (c, fs.map (rv (fun j => ad (sg ps j))))
    rw [List.map_map]
    refine congrArg (fun h : List Value => (Sum.inr (c, h) : va_E)) (List.map_congr_left (fun v _ => rv_rv ad ps v))
theorem foldl_set_len (f : va_E → va_E) : ∀ (L : List (Nat × va_E)) (w : List va_E), (L.foldl (fun w q => w.set q.1 (f q.2)) w).length = w.length
  | [], _ => rfl
  | q :: L, w => by
    rw [List.foldl_cons, foldl_set_len f L]
    simp
theorem foldl_set_out (f : va_E → va_E) (k : Nat) : ∀ (L : List (Nat × va_E)) (w : List va_E), (∀ q ∈ L, q.1 ≠ k) → (L.foldl (fun w q => w.set q.1 (f q.2)) w)[k]? = w[k]?
  | [], _, _ => rfl
  | q :: L, w, h => by
    rw [List.foldl_cons, foldl_set_out f k L _ (fun x hx => h x (List.mem_cons_of_mem _ hx)), List.getElem?_set_ne (h q List.mem_cons_self)]
theorem foldl_set_in (f : va_E → va_E) (k : Nat) (y : va_E) : ∀ (L : List (Nat × va_E)) (w : List va_E), (L.map (fun q => q.1)).Nodup → (k, y) ∈ L → k < w.length → (L.foldl (fun w q => w.set q.1 (f q.2)) w)[k]? = some (f y)
  | [], _, _, h, _ => by cases h
  | q :: L, w, hn, h, hk => by
    rw [List.foldl_cons]
    rw [List.map_cons, List.nodup_cons] at hn
    rcases List.mem_cons.mp h with h1 | h1
    · subst h1
      rw [foldl_set_out f k L _ (fun x hx q => hn.1 (List.mem_map.mpr ⟨x, hx, q⟩)), List.getElem?_set_self hk]
    · exact foldl_set_in f k y L _ hn.2 h1 (by simpa using hk)
theorem nd_nodup : ∀ (ps : List Nat), va_nd ps = true → ps.Nodup
  | [], _ => List.nodup_nil
  | a :: ps, h => by
    simp only [va_nd, Bool.and_eq_true, decide_eq_true_eq] at h
    exact List.nodup_cons.mpr ⟨h.1, nd_nodup ps h.2⟩
theorem va_D_addr {A : Nat → Prop} {ct ad : Nat → Nat} {w w2 : List va_E} (hl : w2.length = w.length) (h : va_D A (wa ct ad w)) : va_D A (wa ct ad w2) := by
  have key : ∀ (k : Nat) (q : Nat × va_E), (wa ct ad w2)[k]? = some q → ∃ q0, (wa ct ad w)[k]? = some q0 ∧ q0.1 = q.1 := by
    intro k q hk
    have hkl : k < w.length := by
      have := (List.getElem?_eq_some_iff.mp hk).1
      rw [wa_len] at this
      omega
    rw [wa_get] at hk
    obtain ⟨x, -, rfl⟩ := Option.map_eq_some_iff.mp hk
    exact ⟨_, wa_at (List.getElem?_eq_getElem hkl), rfl⟩
  refine ⟨fun i j p q hp hq e => ?_, fun k q hk => ?_⟩
  · obtain ⟨p0, e1, e2⟩ := key i p hp
    obtain ⟨q0, e3, e4⟩ := key j q hq
    exact h.1 i j p0 q0 e1 e3 (e2.trans (e.trans e4.symm))
  · obtain ⟨q0, e1, e2⟩ := key k q hk
    rw [← e2]
    exact h.2 k q0 e1
section RC
variable {p : Program} {l : Launch} {e : Env} {R : Room} {s : State} {m : MethodId} {args : Array Value} {below : List Frame} {meth : Method} {c : Code} {H : Heap} {locs : List Loc} {kc ks pc : Nat} {Qs : State → Prop} {la : Array Slot} {st0 rest : List Value} {D : va_G} {ct ad : Nat → Nat} {A : Nat → Prop} {a : Array Value} {Q' : Option Value → List va_E → Prop}
/-- behind a call that makes nothing: what came back, in the callee's own numbering -/
theorem run_back {cw : List va_E} (hr : va_Run p l e R s m args below meth c H locs kc ks 0 0 (F0 m pc la st0) rest (Qm D ct (va_A (wa ct ad cw) H.size) ad cw.length 0 Q' a) (va_A (wa ct ad cw) H.size)) (hS : va_S A s.heap H locs) (hF : ∀ q, va_A (wa ct ad cw) H.size q → A q)
    (kk : ∀ (r : Option Value) (cw' : List va_E) (H1 : Heap) (locs1 : List Loc), Q' r cw' → va_P D vwCl (wa ct ad cw') H1 → va_D (va_A (wa ct ad cw) H.size) (wa ct ad cw') → (∀ q : Nat, q < H.size → ¬ va_A (wa ct ad cw) H.size q → H1[q]? = H[q]?) → va_S A s.heap H1 locs1 → W p l e R s m args below meth c H1 locs1 kc ks Qs (F0 m (pc + 3) la ((r.map (rv ad)).toList ++ rest))) :
    W p l e R s m args below meth c H locs kc ks Qs (F0 m pc la st0) := by
  intro T hT X
  obtain ⟨v, st₀, t, T', L, h0, X', hL, e1, e2, ⟨⟨r, cw', ad', hv, hq, -, had, hP1, hD1⟩, hz, hk⟩, st⟩ := hr T hT X
  have had := had rfl
  subst had
  cases hv
  rw [h0] at hz hk
  obtain ⟨t2, a1, b1⟩ := kk r cw' T'.heap (locs ++ L) hq (by rw [e1]; exact hP1) hD1 (fun q h1 h2 => by rw [e1]; exact hk q h1 h2)
    ⟨Nat.le_trans hS.1 (by rw [e1]; exact hz), fun q h1 h2 => by rw [e1, hk q (Nat.lt_of_lt_of_le h1 hS.1) (fun z => h2 (hF q z))]; exact hS.2.1 q h1 h2, fun q hq => by
      rcases List.mem_append.mp hq with h | h
      · exact hS.2.2 q h
      · exact hF _ (hL q h)⟩ T' rfl X'
  exact ⟨t2, st t2 a1, b1⟩
end RC
/-! the callee's cells out of the caller's -/
theorem wa_cut {ct ad : Nat → Nat} {w cw : List va_E} {ps : List Nat} (hw : ps.map (fun i => w[i]?) = cw.map (fun x => some (ren ps x))) : ps.map (fun i => (wa ct ad w)[i]?) = (wa ct (fun j => ad (sg ps j)) cw).map some := by
  apply List.ext_getElem?
  intro j
  have hj := congrArg (fun L : List (Option va_E) => L[j]?) hw
  simp only [List.getElem?_map] at hj
  rw [List.getElem?_map, List.getElem?_map, wa_get]
  cases hp : ps[j]? with
  | none =>
    rw [hp] at hj
    cases hc : cw[j]? with
    | none => rfl
    | some x => rw [hc] at hj; cases hj
  | some i =>
    rw [hp] at hj
    cases hc : cw[j]? with
    | none => rw [hc] at hj; cases hj
    | some x =>
      rw [hc] at hj
      have h1 : w[i]? = some (ren ps x) := by simpa using hj
      have h2 : sg ps j = i := by simp [sg, List.getD, hp]
      show some ((wa ct ad w)[i]?) = some (some (ad (sg ps j), rcl ct (fun j => ad (sg ps j)) x))
      rw [wa_at h1, rcl_ren, h2]
theorem wa_join {D : va_G} {ct ad : Nat → Nat} {A : Nat → Prop} {w cw cw' : List va_E} {ps : List Nat} {H H1 : Heap} (hw : ps.map (fun i => w[i]?) = cw.map (fun x => some (ren ps x))) (hnd : va_nd ps = true) (hl : cw'.length = cw.length)
    (hP : va_P D vwCl (wa ct ad w) H) (hD : va_D A (wa ct ad w)) (hP1 : va_P D vwCl (wa ct (fun j => ad (sg ps j)) cw') H1) (hk : ∀ q : Nat, q < H.size → ¬ va_A (wa ct (fun j => ad (sg ps j)) cw) H.size q → H1[q]? = H[q]?) :
    va_P D vwCl (wa ct ad (putL w ps cw')) H1 ∧ va_D A (wa ct ad (putL w ps cw')) := by
  have hlen : ps.length = cw'.length := by
    have := congrArg List.length hw
    simp only [List.length_map] at this
    omega
  have hcut := wa_cut (ct := ct) (ad := ad) hw
  refine ⟨fun k q hkq => ?_, va_D_addr (foldl_set_len _ _ _) hD⟩
  rw [wa_get] at hkq
  obtain ⟨x, hx, rfl⟩ := Option.map_eq_some_iff.mp hkq
  have hkw : k < w.length := by
    have := (List.getElem?_eq_some_iff.mp hx).1
    rw [putL, foldl_set_len] at this
    exact this
  by_cases hin : k ∈ ps
  · obtain ⟨j, hj⟩ := List.getElem?_of_mem hin
    have hjl : j < cw'.length := by rw [← hlen]; exact (List.getElem?_eq_some_iff.mp hj).1
    have hy : cw'[j]? = some cw'[j] := List.getElem?_eq_getElem hjl
    have hmem : (k, cw'[j]) ∈ ps.zip cw' := by
      refine List.mem_of_getElem? (i := j) ?_
      rw [List.getElem?_zip_eq_some]
      exact ⟨hj, hy⟩
    have hnod : ((ps.zip cw').map (fun q => q.1)).Nodup := by
      rw [List.map_fst_zip (by omega)]
      exact nd_nodup ps hnd
    have h1 := foldl_set_in (ren ps) k cw'[j] (ps.zip cw') w hnod hmem hkw
    rw [putL, h1] at hx
    cases hx
    have h2 : sg ps j = k := by simp [sg, List.getD, hj]
    have h3 := hP1 j _ (wa_at (ct := ct) (ad := fun j => ad (sg ps j)) hy)
    rw [← rcl_ren] at h3
    rw [show ad (sg ps j) = ad k by rw [h2]] at h3
    exact h3
  · have h1 := foldl_set_out (ren ps) k (ps.zip cw') w (fun q hq e => hin (by rw [← e]; exact (List.of_mem_zip hq).1))
    rw [putL, h1] at hx
    have h2 := hP k _ (wa_at (ct := ct) (ad := ad) hx)
    refine h2.kept (hk _ h2.lt (fun h => ?_))
    rcases h with ⟨j, e1, h⟩ | h
    · have h4 : (ps.map (fun i => (wa ct ad w)[i]?))[j]? = some (some (ad k, e1)) := by rw [hcut, List.getElem?_map, h]; rfl
      rw [List.getElem?_map] at h4
      obtain ⟨i, hi, hi2⟩ := Option.map_eq_some_iff.mp h4
      have := hD.1 k i _ _ (wa_at hx) hi2 rfl
      exact hin (this ▸ List.mem_of_getElem? hi)
    · have := h2.lt
      exact absurd h (by omega)

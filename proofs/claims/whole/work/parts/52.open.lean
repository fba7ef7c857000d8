/-! 52.open: a contract on some cells is one on any world that has these cells -/
theorem con_weaken {l : Launch} {y : MethodName} {ws : List Cond} {rm : Room} {P1 P2 : Array Value → State → Prop} {Q1 Q2 : Array Value → State → Outcome → State → Prop} {mc ms : Nat} {f1 f2 : Addr → Prop} (h : Met l y ws rm P1 Q1 mc ms f1) (hP : ∀ a s, P2 a s → P1 a s) (hQ : ∀ a s o t, P2 a s → Q1 a s o t → Q2 a s o t) (hf : ∀ a s, P2 a s → ∀ q, f1 q → f2 q) : Met l y ws rm P2 Q2 mc ms f2 := by
  intro p e h1 h2 h3 s m args below h4 h5 h6 h7
  obtain ⟨n, o, a1, a2, a3, a4, L, a5, a6⟩ := h p e h1 h2 h3 s m args below h4 h5 (hP _ _ h6) h7
  exact ⟨n, o, a1, a2, a3, hQ _ _ _ _ h6 a4, L, a5, fun q hq => hf _ _ h6 _ (a6 q hq)⟩
theorem con_open {l : Launch} {M : MC} {av : List Value} {cw w : List va_E} {ps : List Nat} {Q1 : Option Value → List va_E → Prop} (hcon : Con l M av cw Q1) (hk0 : mkc M = 0) (hw : (ps.take cw.length).map (fun i => w[i]?) = cw.map (fun x => some (ren ps x))) (hnd : va_nd (ps.take cw.length) = true) (hlen : ∀ r u, Q1 r u → u.length = cw.length) :
    Con l M (av.map (rv (sg ps))) w (fun r u => ∃ r1 u1, Q1 r1 u1 ∧ r = r1.map (rv (sg ps)) ∧ u = putM w ps u1) := by
  intro D ct ad sz
  have hcut := wa_cut2 (ct := ct) (ad := ad) hw
  refine con_weaken (hcon D ct (fun j => ad (sg ps j)) sz) ?_ ?_ ?_
  · rintro a s ⟨rfl, hsz, hP, hK, hD⟩
    refine ⟨?_, hsz, hP.sub (ps.take cw.length) (fm_of _ _ _ hcut), hK, hD.sub (ps.take cw.length) hnd hcut⟩
    rw [List.map_map]
    exact congrArg List.toArray (List.map_congr_left (fun v _ => rv_rv ad ps v))
  · rintro a s o t ⟨rfl, hsz, hP, hK, hD⟩ ⟨⟨r, u, ad2, e1, hq, -, e2, hP1, hD1⟩, hF⟩
    have e2 := e2 hk0
    subst e2
    subst hsz
    have hl := hlen r u hq
    obtain ⟨hP2, hD2⟩ := wa_join2 (ad := ad) hw hnd hl hP hD hP1 (fun q h1 h2 => hF.2 q h1 h2)
    refine ⟨⟨r.map (rv (sg ps)), putM w ps u, ad, ?_, ⟨r, u, hq, rfl, rfl⟩, fun _ _ => rfl, fun _ => rfl, hP2, hD2.weaken (fun k q hk _ => ?_)⟩, hF.1, fun q h1 h2 => hF.2 q h1 (fun h => h2 ?_)⟩
    · rw [e1]
      cases r with
      | none => rfl
      | some v => exact congrArg (fun z => Outcome.returned (some z)) (rv_rv ad ps v).symm
    · have hkl : k < w.length := by
        have := (List.getElem?_eq_some_iff.mp hk).1
        rw [wa_len, putM, foldl_set_len] at this
        exact this
      refine Or.inl ⟨k, rcl ct ad w[k], ?_⟩
      rw [wa_get] at hk ⊢
      rw [List.getElem?_eq_getElem hkl]
      obtain ⟨x, hx, rfl⟩ := Option.map_eq_some_iff.mp hk
      rfl
    · rcases h with ⟨k, e, h⟩ | h
      · have h4 : ((ps.take cw.length).map (fun i => (wa ct ad w)[i]?))[k]? = some (some (q, e)) := by rw [hcut, List.getElem?_map, h]; rfl
        rw [List.getElem?_map] at h4
        obtain ⟨i, hi, hi2⟩ := Option.map_eq_some_iff.mp h4
        exact Or.inl ⟨i, e, hi2⟩
      · exact Or.inr h
  · rintro a s ⟨rfl, hsz, hP, hK, hD⟩ q h
    rcases h with ⟨k, e, h⟩ | h
    · have h4 : ((ps.take cw.length).map (fun i => (wa ct ad w)[i]?))[k]? = some (some (q, e)) := by rw [hcut, List.getElem?_map, h]; rfl
      rw [List.getElem?_map] at h4
      obtain ⟨i, hi, hi2⟩ := Option.map_eq_some_iff.mp h4
      exact Or.inl ⟨i, e, hi2⟩
    · exact Or.inr h
theorem con_post {l : Launch} {M : MC} {av : List Value} {w : List va_E} {Q1 Q2 : Option Value → List va_E → Prop} (h : Con l M av w Q1) (hQ : ∀ r u, Q1 r u → Q2 r u) : Con l M av w Q2 := by
  intro D ct ad sz
  refine con_weaken (h D ct ad sz) (fun _ _ x => x) ?_ (fun _ _ _ _ x => x)
  rintro a s o t - ⟨⟨r, u, ad2, e1, hq, e3⟩, hF⟩
  exact ⟨⟨r, u, ad2, e1, hQ r u hq, e3⟩, hF⟩
/-! what stands where, behind a call -/
theorem put_len (w : List va_E) (ps : List Nat) (u : List va_E) : (putM w ps u).length = w.length := foldl_set_len _ _ _
theorem put_out {w u : List va_E} {ps : List Nat} {n k : Nat} (hn : u.length = n) (h : (ps.take n).contains k = false) : (putM w ps u)[k]? = w[k]? := by
  unfold putM
  refine foldl_set_out (ren ps) k _ w (fun q hq e => ?_)
  have h1 := (List.of_mem_zip hq).1
  rw [hn, e] at h1
  rw [List.contains_iff_mem.mpr h1] at h
  cases h
theorem put_in {w u : List va_E} {ps : List Nat} {n j k : Nat} {y : va_E} (hn : u.length = n) (hp : (ps.take n)[j]? = some k) (hd : va_nd (ps.take n) = true) (hy : u[j]? = some y) (hk : k < w.length) : (putM w ps u)[k]? = some (ren ps y) := by
  subst hn
  unfold putM
  have hmem : (k, y) ∈ (ps.take u.length).zip u := by
    refine List.mem_of_getElem? (i := j) ?_
    rw [List.getElem?_zip_eq_some]
    exact ⟨hp, hy⟩
  have hle : (ps.take u.length).length ≤ u.length := by rw [List.length_take]; exact Nat.min_le_left _ _
  have hnod : (((ps.take u.length).zip u).map (fun q => q.1)).Nodup := by
    rw [List.map_fst_zip hle]
    exact nd_nodup _ hd
  exact foldl_set_in (ren ps) k y _ w hnod hmem hk
/-! blocks of cells -/
def stF (w : List va_E) (k : Nat) (S : ST) : Prop := w[k]? = some (so S k) ∧ w[k + 1]? = some (a6 (sbo S)) ∧ w[k + 2]? = some (a6 (sti S)) ∧ w[k + 3]? = some (a8 (sun S))
def wlF (w : List va_E) (k : Nat) (V : WT) (dn : Int32) (fb : Nat → Int32) : Prop := w[k]? = some (wo V dn k) ∧ w[k + 1]? = some (a8 (vth V)) ∧ w[k + 2]? = some (a8 (vpa V)) ∧ w[k + 3]? = some (a6 (vki V)) ∧ w[k + 4]? = some (a6 (vsg V)) ∧ w[k + 5]? = some (a6 fb) ∧ w[k + 6]? = some (a6 (vkn V))
def coF (w : List va_E) (k : Nat) (ra lo pr : Nat → Int32) : Prop := w[k]? = some (co k) ∧ w[k + 1]? = some (a8 ra) ∧ w[k + 2]? = some (a8 lo) ∧ w[k + 3]? = some (a8 pr)
section PB
variable {w u : List va_E} {ps : List Nat} {n k : Nat}
theorem out_n {P : Nat → Bool} (m : Nat) (h : (List.range m).all (fun i => !P (k + i)) = true) {i : Nat} (hi : i < m) : P (k + i) = false := by
  have := List.all_eq_true.mp h i (List.mem_range.mpr hi)
  rwa [Bool.not_eq_true'] at this
theorem st_out {S : ST} (hn : u.length = n) (h : (List.range 4).all (fun i => !(ps.take n).contains (k + i)) = true) (hs : stF w k S) : stF (putM w ps u) k S := by
  have g := fun i hi => put_out (w := w) hn (out_n (P := fun x => (ps.take n).contains x) 4 h (i := i) hi)
  exact ⟨(g 0 (by decide)).trans hs.1, (g 1 (by decide)).trans hs.2.1, (g 2 (by decide)).trans hs.2.2.1, (g 3 (by decide)).trans hs.2.2.2⟩
theorem wl_out {V : WT} {dn : Int32} {fb : Nat → Int32} (hn : u.length = n) (h : (List.range 7).all (fun i => !(ps.take n).contains (k + i)) = true) (hs : wlF w k V dn fb) : wlF (putM w ps u) k V dn fb := by
  have g := fun i hi => put_out (w := w) hn (out_n (P := fun x => (ps.take n).contains x) 7 h (i := i) hi)
  exact ⟨(g 0 (by decide)).trans hs.1, (g 1 (by decide)).trans hs.2.1, (g 2 (by decide)).trans hs.2.2.1, (g 3 (by decide)).trans hs.2.2.2.1, (g 4 (by decide)).trans hs.2.2.2.2.1, (g 5 (by decide)).trans hs.2.2.2.2.2.1, (g 6 (by decide)).trans hs.2.2.2.2.2.2⟩
theorem co_out {ra lo pr : Nat → Int32} (hn : u.length = n) (h : (List.range 4).all (fun i => !(ps.take n).contains (k + i)) = true) (hs : coF w k ra lo pr) : coF (putM w ps u) k ra lo pr := by
  have g := fun i hi => put_out (w := w) hn (out_n (P := fun x => (ps.take n).contains x) 4 h (i := i) hi)
  exact ⟨(g 0 (by decide)).trans hs.1, (g 1 (by decide)).trans hs.2.1, (g 2 (by decide)).trans hs.2.2.1, (g 3 (by decide)).trans hs.2.2.2⟩
end PB

/-! 25.calls2: calls on some cells of the world, other cells being named by them alone: ps: first the callee's own cells, then those that its cells only name -/
def putM (w : List va_E) (ps : List Nat) (cw : List va_E) : List va_E := ((ps.take cw.length).zip cw).foldl (fun w q => w.set q.1 (ren ps q.2)) w
theorem fm_of {α β : Type} (f : α → Option β) (qs : List α) (L : List β) (h : qs.map f = L.map some) : qs.filterMap f = L := by
  have := congrArg (fun X : List (Option β) => X.filterMap id) h
  simpa [List.filterMap_map] using this
theorem take_at {ps : List Nat} {n j i : Nat} (h : (ps.take n)[j]? = some i) : ps[j]? = some i := by
  rw [List.getElem?_take] at h
  split at h
  · exact h
  · cases h
theorem wa_cut2 {ct ad : Nat → Nat} {w cw : List va_E} {ps : List Nat} (hw : (ps.take cw.length).map (fun i => w[i]?) = cw.map (fun x => some (ren ps x))) : (ps.take cw.length).map (fun i => (wa ct ad w)[i]?) = (wa ct (fun j => ad (sg ps j)) cw).map some := by
  apply List.ext_getElem?
  intro j
  have hj := congrArg (fun L : List (Option va_E) => L[j]?) hw
  simp only [List.getElem?_map] at hj
  rw [List.getElem?_map, List.getElem?_map, wa_get]
  cases hp : (ps.take cw.length)[j]? with
  | none =>
    rw [hp] at hj
    cases hc : cw[j]? with
    | none => rfl
    | some x => rw [hc] at hj; cases hj
  | some i =>
    rw [hp] at hj
    cases hc : cw[j]? with
    | none => rw [hc] at hj; cases hj
    | some x =>
      rw [hc] at hj
      have h1 : w[i]? = some (ren ps x) := by simpa using hj
      have h2 : sg ps j = i := by simp [sg, List.getD, take_at hp]
      show some ((wa ct ad w)[i]?) = some (some (ad (sg ps j), rcl ct (fun j => ad (sg ps j)) x))
      rw [wa_at h1, rcl_ren, h2]
theorem wa_join2 {D : va_G} {ct ad : Nat → Nat} {A : Nat → Prop} {w cw cw' : List va_E} {ps : List Nat} {H H1 : Heap} (hw : (ps.take cw.length).map (fun i => w[i]?) = cw.map (fun x => some (ren ps x))) (hnd : va_nd (ps.take cw.length) = true) (hl : cw'.length = cw.length)
    (hP : va_P D vwCl (wa ct ad w) H) (hD : va_D A (wa ct ad w)) (hP1 : va_P D vwCl (wa ct (fun j => ad (sg ps j)) cw') H1) (hk : ∀ q : Nat, q < H.size → ¬ va_A (wa ct (fun j => ad (sg ps j)) cw) H.size q → H1[q]? = H[q]?) :
    va_P D vwCl (wa ct ad (putM w ps cw')) H1 ∧ va_D A (wa ct ad (putM w ps cw')) := by
  have hlen : (ps.take cw.length).length = cw'.length := by
    have := congrArg List.length hw
    simp only [List.length_map] at this
    omega
  have hcut := wa_cut2 (ct := ct) (ad := ad) hw
  unfold putM
  rw [hl]
  refine ⟨fun k q hkq => ?_, va_D_addr (foldl_set_len _ _ _) hD⟩
  rw [wa_get] at hkq
  obtain ⟨x, hx, rfl⟩ := Option.map_eq_some_iff.mp hkq
  have hkw : k < w.length := by
    have := (List.getElem?_eq_some_iff.mp hx).1
    rw [foldl_set_len] at this
    exact this
  by_cases hin : k ∈ ps.take cw.length
  · obtain ⟨j, hj⟩ := List.getElem?_of_mem hin
    have hjl : j < cw'.length := by rw [← hlen]; exact (List.getElem?_eq_some_iff.mp hj).1
    have hy : cw'[j]? = some cw'[j] := List.getElem?_eq_getElem hjl
    have hmem : (k, cw'[j]) ∈ (ps.take cw.length).zip cw' := by
      refine List.mem_of_getElem? (i := j) ?_
      rw [List.getElem?_zip_eq_some]
      exact ⟨hj, hy⟩
    have hnod : (((ps.take cw.length).zip cw').map (fun q => q.1)).Nodup := by
      rw [List.map_fst_zip (by omega)]
      exact nd_nodup _ hnd
    have h1 := foldl_set_in (ren ps) k cw'[j] ((ps.take cw.length).zip cw') w hnod hmem hkw
    rw [h1] at hx
    cases hx
    have h2 : sg ps j = k := by simp [sg, List.getD, take_at hj]
    have h3 := hP1 j _ (wa_at (ct := ct) (ad := fun j => ad (sg ps j)) hy)
    rw [← rcl_ren] at h3
    rw [show ad (sg ps j) = ad k by rw [h2]] at h3
    exact h3
  · have h1 := foldl_set_out (ren ps) k ((ps.take cw.length).zip cw') w (fun q hq e => hin (by rw [← e]; exact (List.of_mem_zip hq).1))
    rw [h1] at hx
    have h2 := hP k _ (wa_at (ct := ct) (ad := ad) hx)
    refine h2.kept (hk _ h2.lt (fun h => ?_))
    rcases h with ⟨j, e1, h⟩ | h
    · have h4 : ((ps.take cw.length).map (fun i => (wa ct ad w)[i]?))[j]? = some (some (ad k, e1)) := by rw [hcut, List.getElem?_map, h]; rfl
      rw [List.getElem?_map] at h4
      obtain ⟨i, hi, hi2⟩ := Option.map_eq_some_iff.mp h4
      have := hD.1 k i _ _ (wa_at hx) hi2 rfl
      exact hin (this ▸ List.mem_of_getElem? hi)
    · have := h2.lt
      exact absurd h (by omega)
section RJ
variable {l : Launch} {M M' : MC} {z : Nat × Nat × Nat} {Q Q' : Option Value → List va_E → Prop} {pc n ix nA : Nat} {ls : List (Option Value)} {st rest : List Value} {w cw cw' w' : List va_E} {ps : List Nat} {cav : List Value}
theorem g_cutV {b0 ci : Nat} {fs : List Value} (hcall : CV (mnm M).cls ix M' nA) (hcon : Con l M' (.ref b0 :: cav) cw Q') (hd : decode (mby M) pc = .ok (.invokevirtual ix, 3)) (hst : st = (cav.map (rv (sg ps))).reverse ++ .ref (sg ps b0) :: rest) (hw : (ps.take cw.length).map (fun i => w[i]?) = cw.map (fun x => some (ren ps x))) (hnd : va_nd (ps.take cw.length) = true)
    (hdp : mdp M' + 1 ≤ mdp M ∧ mlo M' ≤ 29 ∧ mkc M' = 0 ∧ mks M' = 0 ∧ z.2.1 ≤ mkc M ∧ z.2.2 ≤ mks M) (hrc : cw[b0]? = some (.inr (ci, fs))) (hci : (vwCl[ci]?).map (fun r => r.1) = some (mnm M').cls) (hna : cav.length = nA) (hrs : (rest.map fun v => v.category).sum ≤ 8) (hn : pc + 3 = n)
    (kk : ∀ (r : Option Value) (cw' : List va_E), Q' r cw' → cw'.length = cw.length ∧ G l M z Q n ls ((r.map (rv (sg ps))).toList ++ rest) (putM w ps cw')) : G l M z Q pc ls st w := by
  subst hn
  subst hst
  obtain ⟨⟨hini, hcode, hy⟩, hlk, him, hsel⟩ := hcall
  obtain ⟨d1, d2, d3, d4, d5, d6⟩ := hdp
  intro p e s m args below meth c D ct A ad0 ad H locs la C hA h0 h1 hz hP hD hS hL
  have hts := C.2.2.2.2.2.1
  have hcut := wa_cut2 (ct := ct) (ad := ad) hw
  have hPc := hP.sub (ws' := wa ct (fun j => ad (sg ps j)) cw) (ps.take cw.length) (fm_of _ _ _ hcut)
  have hDc := hD.sub (ps.take cw.length) hnd hcut
  have hF := va_free (wc := wa ct (fun j => ad (sg ps j)) cw) hD hS hA (ps.take cw.length) hcut
  obtain ⟨q0, hq0⟩ : ∃ q0, vwCl[ci]? = some q0 := by
    cases hx : vwCl[ci]? with
    | none => rw [hx] at hci; cases hci
    | some q => exact ⟨q, rfl⟩
  have hq1 : q0.1 = (mnm M').cls := by rw [hq0] at hci; exact Option.some.inj hci
  have hM := hcon D ct (fun j => ad (sg ps j)) H.size
  rw [d3, d4] at hM
  refine run_back (cw := cw) (rest := rest.map (rv ad)) (va_runV (C := (mnm M').cls) (b := ad (sg ps b0)) (As := cav.map (rv (fun j => ad (sg ps j)))) ⟨C.1, C.2.1, C.2.2.2.1, C.2.2.2.2.1, hts⟩ hM
    ⟨callB_of nA hts (good_big hcode) rfl rfl rfl (hts _ hini) (hts _ hlk) hy ⟨d1, by show 8 + (mlo M' + 11) + 48 * mdp M' ≤ 48 * mdp M; omega⟩, hts _ him, hts _ hsel⟩
    ⟨Pm_blind, by rw [← hq1]; exact va_recv C.2.2.2.2.2.2.2.2.1 hPc hq0 (wa_at hrc), fun U hU hW => ⟨rfl, by rw [hU], by rw [hU]; exact hPc, KB.moved hW C.2.2.2.2.2.2.2.2, hDc.weaken (fun _ _ _ _ => trivial)⟩⟩
    rfl (by rw [List.length_map]; exact hna) hL.1 (by show List.map (rv ad) _ = _; rw [List.map_append, stk_map]; rfl) (by show 2 * 0 + _ ≤ 8; rw [cat_map]; omega) hd ⟨d5, d6⟩) hS hF (fun r cw' H1 locs1 hq hP1 hD1 hk1 hS1 => ?_)
  obtain ⟨hlen, hG⟩ := kk r cw' hq
  obtain ⟨hP2, hD2⟩ := wa_join2 hw hnd hlen hP hD hP1 hk1
  rw [ret_map]
  exact hG p e s m args below meth c D ct A ad0 ad H1 locs1 la C hA h0 h1 (by rw [putM, foldl_set_len]; exact hz) hP2 hD2 hS1 hL
theorem g_cutS (hcall : CS (mnm M).cls ix M' nA) (hcon : Con l M' cav cw Q') (hd : decode (mby M) pc = .ok (.invokestatic ix, 3)) (hst : st = (cav.map (rv (sg ps))).reverse ++ rest) (hw : (ps.take cw.length).map (fun i => w[i]?) = cw.map (fun x => some (ren ps x))) (hnd : va_nd (ps.take cw.length) = true)
    (hdp : mdp M' + 1 ≤ mdp M ∧ mlo M' ≤ 29 ∧ mkc M' = 0 ∧ mks M' = 0 ∧ z.2.1 ≤ mkc M ∧ z.2.2 ≤ mks M) (hna : cav.length = nA) (hrs : (rest.map fun v => v.category).sum ≤ 8) (hn : pc + 3 = n)
    (kk : ∀ (r : Option Value) (cw' : List va_E), Q' r cw' → cw'.length = cw.length ∧ G l M z Q n ls ((r.map (rv (sg ps))).toList ++ rest) (putM w ps cw')) : G l M z Q pc ls st w := by
  subst hn
  subst hst
  obtain ⟨⟨hini, hcode, hy⟩, hlk, hstt⟩ := hcall
  obtain ⟨d1, d2, d3, d4, d5, d6⟩ := hdp
  intro p e s m args below meth c D ct A ad0 ad H locs la C hA h0 h1 hz hP hD hS hL
  have hts := C.2.2.2.2.2.1
  have hcut := wa_cut2 (ct := ct) (ad := ad) hw
  have hPc := hP.sub (ws' := wa ct (fun j => ad (sg ps j)) cw) (ps.take cw.length) (fm_of _ _ _ hcut)
  have hDc := hD.sub (ps.take cw.length) hnd hcut
  have hF := va_free (wc := wa ct (fun j => ad (sg ps j)) cw) hD hS hA (ps.take cw.length) hcut
  have hM := hcon D ct (fun j => ad (sg ps j)) H.size
  rw [d3, d4] at hM
  refine run_back (cw := cw) (rest := rest.map (rv ad)) (va_runS (As := cav.map (rv (fun j => ad (sg ps j)))) ⟨C.1, C.2.1, C.2.2.2.1, C.2.2.2.2.1, hts⟩ hM
    ⟨callB_of nA hts (good_big hcode) rfl rfl rfl (hts _ hini) (hts _ hlk) hy ⟨d1, by show 8 + (mlo M' + 11) + 48 * mdp M' ≤ 48 * mdp M; omega⟩, hts _ hstt⟩
    ⟨Pm_blind, fun U hU hW => ⟨rfl, by rw [hU], by rw [hU]; exact hPc, KB.moved hW C.2.2.2.2.2.2.2.2, hDc.weaken (fun _ _ _ _ => trivial)⟩⟩
    rfl (by rw [List.length_map]; exact hna) hL.1 (by show List.map (rv ad) _ = _; rw [List.map_append, stk_map]) (by show 2 * 0 + _ ≤ 8; rw [cat_map]; omega) hd ⟨d5, d6⟩) hS hF (fun r cw' H1 locs1 hq hP1 hD1 hk1 hS1 => ?_)
  obtain ⟨hlen, hG⟩ := kk r cw' hq
  obtain ⟨hP2, hD2⟩ := wa_join2 hw hnd hlen hP hD hP1 hk1
  rw [ret_map]
  exact hG p e s m args below meth c D ct A ad0 ad H1 locs1 la C hA h0 h1 (by rw [putM, foldl_set_len]; exact hz) hP2 hD2 hS1 hL
theorem g_cutVi {b0 ci : Nat} {fs : List Value} {v : Int32} (hcall : CV (mnm M).cls ix M' nA) (hcon : Fn l M' (.ref b0 :: cav) cw (some (.int v)) cw') (hd : decode (mby M) pc = .ok (.invokevirtual ix, 3)) (hst : st = (cav.map (rv (sg ps))).reverse ++ .ref (sg ps b0) :: rest) (hw : (ps.take cw.length).map (fun i => w[i]?) = cw.map (fun x => some (ren ps x))) (hnd : va_nd (ps.take cw.length) = true)
    (hdp : mdp M' + 1 ≤ mdp M ∧ mlo M' ≤ 29 ∧ mkc M' = 0 ∧ mks M' = 0 ∧ z.2.1 ≤ mkc M ∧ z.2.2 ≤ mks M) (hrc : cw[b0]? = some (.inr (ci, fs))) (hci : (vwCl[ci]?).map (fun r => r.1) = some (mnm M').cls) (hna : cav.length = nA) (hrs : (rest.map fun v => v.category).sum ≤ 8) (hlen : cw'.length = cw.length) (hn : pc + 3 = n) (hput : putM w ps cw' = w')
    (kk : G l M z Q n ls (.int v :: rest) w') : G l M z Q pc ls st w := by
  refine g_cutV hcall hcon hd hst hw hnd hdp hrc hci hna hrs hn (fun r u hq => ?_)
  obtain ⟨rfl, rfl⟩ := hq
  subst hput
  exact ⟨hlen, kk⟩
theorem g_cutVv {b0 ci : Nat} {fs : List Value} (hcall : CV (mnm M).cls ix M' nA) (hcon : Fn l M' (.ref b0 :: cav) cw none cw') (hd : decode (mby M) pc = .ok (.invokevirtual ix, 3)) (hst : st = (cav.map (rv (sg ps))).reverse ++ .ref (sg ps b0) :: rest) (hw : (ps.take cw.length).map (fun i => w[i]?) = cw.map (fun x => some (ren ps x))) (hnd : va_nd (ps.take cw.length) = true)
    (hdp : mdp M' + 1 ≤ mdp M ∧ mlo M' ≤ 29 ∧ mkc M' = 0 ∧ mks M' = 0 ∧ z.2.1 ≤ mkc M ∧ z.2.2 ≤ mks M) (hrc : cw[b0]? = some (.inr (ci, fs))) (hci : (vwCl[ci]?).map (fun r => r.1) = some (mnm M').cls) (hna : cav.length = nA) (hrs : (rest.map fun v => v.category).sum ≤ 8) (hlen : cw'.length = cw.length) (hn : pc + 3 = n) (hput : putM w ps cw' = w')
    (kk : G l M z Q n ls rest w') : G l M z Q pc ls st w := by
  refine g_cutV hcall hcon hd hst hw hnd hdp hrc hci hna hrs hn (fun r u hq => ?_)
  obtain ⟨rfl, rfl⟩ := hq
  subst hput
  exact ⟨hlen, kk⟩
theorem g_cutPi {v : Int32} (hcall : CS (mnm M).cls ix M' nA) (hcon : Fn l M' cav cw (some (.int v)) cw') (hd : decode (mby M) pc = .ok (.invokestatic ix, 3)) (hst : st = (cav.map (rv (sg ps))).reverse ++ rest) (hw : (ps.take cw.length).map (fun i => w[i]?) = cw.map (fun x => some (ren ps x))) (hnd : va_nd (ps.take cw.length) = true)
    (hdp : mdp M' + 1 ≤ mdp M ∧ mlo M' ≤ 29 ∧ mkc M' = 0 ∧ mks M' = 0 ∧ z.2.1 ≤ mkc M ∧ z.2.2 ≤ mks M) (hna : cav.length = nA) (hrs : (rest.map fun v => v.category).sum ≤ 8) (hlen : cw'.length = cw.length) (hn : pc + 3 = n) (hput : putM w ps cw' = w')
    (kk : G l M z Q n ls (.int v :: rest) w') : G l M z Q pc ls st w := by
  refine g_cutS hcall hcon hd hst hw hnd hdp hna hrs hn (fun r u hq => ?_)
  obtain ⟨rfl, rfl⟩ := hq
  subst hput
  exact ⟨hlen, kk⟩
theorem g_cutPv (hcall : CS (mnm M).cls ix M' nA) (hcon : Fn l M' cav cw none cw') (hd : decode (mby M) pc = .ok (.invokestatic ix, 3)) (hst : st = (cav.map (rv (sg ps))).reverse ++ rest) (hw : (ps.take cw.length).map (fun i => w[i]?) = cw.map (fun x => some (ren ps x))) (hnd : va_nd (ps.take cw.length) = true)
    (hdp : mdp M' + 1 ≤ mdp M ∧ mlo M' ≤ 29 ∧ mkc M' = 0 ∧ mks M' = 0 ∧ z.2.1 ≤ mkc M ∧ z.2.2 ≤ mks M) (hna : cav.length = nA) (hrs : (rest.map fun v => v.category).sum ≤ 8) (hlen : cw'.length = cw.length) (hn : pc + 3 = n) (hput : putM w ps cw' = w')
    (kk : G l M z Q n ls rest w') : G l M z Q pc ls st w := by
  refine g_cutS hcall hcon hd hst hw hnd hdp hna hrs hn (fun r u hq => ?_)
  obtain ⟨rfl, rfl⟩ := hq
  subst hput
  exact ⟨hlen, kk⟩
end RJ

/-! 08.invoke: the kinds of call -/
def CB (M' : MC) (nA : Nat) : Prop := Cond.initialized (mnm M').cls ∈ big ∧ Cond.code (mnm M') (mby M') (mlo M') (mrt M') ∈ big ∧ ((mnm M').cls ≠ "java/lang/invoke/MethodHandle" ∧ (mnm M').cls ≠ "java/lang/invoke/VarHandle" ∧ (parseMethodDescriptor (mnm M').desc).map (fun d => d.parameters.length) = some nA)
def CV (own : String) (ix : Nat) (M' : MC) (nA : Nat) : Prop := CB M' nA ∧ Cond.methodLink own ix (mnm M') ∈ big ∧ Cond.instanceMethod (mnm M') ∈ big ∧ Cond.selects (mnm M').cls (mnm M') (mnm M') ∈ big
def CS (own : String) (ix : Nat) (M' : MC) (nA : Nat) : Prop := CB M' nA ∧ Cond.methodLink own ix (mnm M') ∈ big ∧ Cond.static (mnm M') ∈ big
def CSN (own : String) (ix : Nat) (M' : MC) (nA : Nat) : Prop := CB M' nA ∧ (own, ix, mnm M', RX8) ∈ nestW ∧ Cond.static (mnm M') ∈ big
def CIN (own : String) (ix : Nat) (M' : MC) (nA : Nat) : Prop := CB M' nA ∧ (own, ix, mnm M', RX8) ∈ nestW ∧ Cond.instanceMethod (mnm M') ∈ big ∧ (mnm M').name = "<init>" ∧ mrt M' = none
def CI (own : String) (ix : Nat) (M' : MC) (nA : Nat) : Prop := CB M' nA ∧ Cond.methodLink own ix (mnm M') ∈ big ∧ Cond.instanceMethod (mnm M') ∈ big ∧ (mnm M').name = "<init>" ∧ mrt M' = none
theorem good_big {y : MethodName} {b : ByteArray} {k : Nat} {r : Option FieldType} (h : Cond.code y b k r ∈ big) : GoodIn big (.code y b k r :: big) := fun w hw => by
  rcases List.mem_cons.mp hw with rfl | h1
  · exact ⟨h, big_good h⟩
  · exact ⟨h1, big_good h1⟩
theorem Pm_blind {D : va_G} {ct ad : Nat → Nat} {sz : Nat} {av : List Value} {w : List va_E} : FrameBlind (Pm D ct ad sz av w) := fun a U g mk q => ⟨q.1, q.2.1, q.2.2.1, q.2.2.2.1.calling, q.2.2.2.2⟩
theorem cat_map (ad : Nat → Nat) (st : List Value) : (st.map (rv ad)).map (fun v => v.category) = st.map (fun v => v.category) := by rw [List.map_map]; exact List.map_congr_left (fun v _ => rv_cat ad v)
theorem stk_map (ad : Nat → Nat) (ps : List Nat) (cav : List Value) : ((cav.map (rv (sg ps))).reverse).map (rv ad) = (cav.map (rv (fun j => ad (sg ps j)))).reverse := by
  rw [List.map_reverse, List.map_map]
  exact congrArg List.reverse (List.map_congr_left (fun v _ => rv_rv ad ps v))
theorem ret_map (ad : Nat → Nat) (ps : List Nat) (r : Option Value) (rest : List Value) : (r.map (rv (fun j => ad (sg ps j)))).toList ++ rest.map (rv ad) = ((r.map (rv (sg ps))).toList ++ rest).map (rv ad) := by
  cases r with
  | none => rfl
  | some v =>
    show rv _ v :: rest.map (rv ad) = rv ad (rv (sg ps) v) :: rest.map (rv ad)
    rw [rv_rv]
section RI
variable {l : Launch} {M M' : MC} {z : Nat × Nat × Nat} {Q Q' : Option Value → List va_E → Prop} {pc n ix nA : Nat} {ls : List (Option Value)} {st rest : List Value} {w cw : List va_E} {ps : List Nat} {cav : List Value}
/-- an instance method, on cells 'ps' of the world -/
theorem g_callV {b0 ci : Nat} {fs : List Value} (hcall : CV (mnm M).cls ix M' nA) (hcon : Con l M' (.ref b0 :: cav) cw Q') (hd : decode (mby M) pc = .ok (.invokevirtual ix, 3)) (hst : st = (cav.map (rv (sg ps))).reverse ++ .ref (sg ps b0) :: rest) (hw : ps.map (fun i => w[i]?) = cw.map (fun x => some (ren ps x))) (hnd : va_nd ps = true)
    (hdp : mdp M' + 1 ≤ mdp M ∧ mlo M' ≤ 29 ∧ mkc M' = 0 ∧ mks M' = 0 ∧ z.2.1 ≤ mkc M ∧ z.2.2 ≤ mks M) (hrc : cw[b0]? = some (.inr (ci, fs))) (hci : (vwCl[ci]?).map (fun r => r.1) = some (mnm M').cls) (hna : cav.length = nA) (hrs : (rest.map fun v => v.category).sum ≤ 8) (hn : pc + 3 = n)
    (kk : ∀ (r : Option Value) (cw' : List va_E), Q' r cw' → cw'.length = cw.length ∧ G l M z Q n ls ((r.map (rv (sg ps))).toList ++ rest) (putL w ps cw')) : G l M z Q pc ls st w := by
  subst hn
  subst hst
  obtain ⟨⟨hini, hcode, hy⟩, hlk, him, hsel⟩ := hcall
  obtain ⟨d1, d2, d3, d4, d5, d6⟩ := hdp
  intro p e s m args below meth c D ct A ad0 ad H locs la C hA h0 h1 hz hP hD hS hL
  have hts := C.2.2.2.2.2.1
  have hcut := wa_cut (ct := ct) (ad := ad) hw
  have hPc := hP.sub (ws' := wa ct (fun j => ad (sg ps j)) cw) ps (by
    have := congrArg (fun L : List (Option (Nat × va_E)) => L.filterMap id) hcut
    simpa [List.filterMap_map] using this)
  have hDc := hD.sub ps hnd hcut
  have hF := va_free (wc := wa ct (fun j => ad (sg ps j)) cw) hD hS hA ps hcut
  obtain ⟨q0, hq0⟩ : ∃ q0, vwCl[ci]? = some q0 := by
    cases hx : vwCl[ci]? with
    | none => rw [hx] at hci; cases hci
    | some q => exact ⟨q, rfl⟩
  have hq1 : q0.1 = (mnm M').cls := by rw [hq0] at hci; exact Option.some.inj hci
  have hM := hcon D ct (fun j => ad (sg ps j)) H.size
  rw [d3, d4] at hM
  refine run_back (cw := cw) (rest := rest.map (rv ad)) (va_runV (C := (mnm M').cls) (b := ad (sg ps b0)) (As := cav.map (rv (fun j => ad (sg ps j)))) ⟨C.1, C.2.1, C.2.2.2.1, C.2.2.2.2.1, hts⟩ hM
    ⟨callB_of nA hts (good_big hcode) rfl rfl rfl (hts _ hini) (hts _ hlk) hy ⟨d1, by show 8 + (mlo M' + 11) + 48 * mdp M' ≤ 48 * mdp M; omega⟩, hts _ him, hts _ hsel⟩
    ⟨Pm_blind, by rw [← hq1]; exact va_recv C.2.2.2.2.2.2.2.2.1 hPc hq0 (wa_at hrc), fun U hU hW => ⟨rfl, by rw [hU], by rw [hU]; exact hPc, KB.moved hW C.2.2.2.2.2.2.2.2, hDc.weaken (fun _ _ _ _ => trivial)⟩⟩
    rfl (by rw [List.length_map]; exact hna) hL.1 (by show List.map (rv ad) _ = _; rw [List.map_append, stk_map]; rfl) (by show 2 * 0 + _ ≤ 8; rw [cat_map]; omega) hd ⟨d5, d6⟩) hS hF (fun r cw' H1 locs1 hq hP1 hD1 hk1 hS1 => ?_)
  obtain ⟨hlen, hG⟩ := kk r cw' hq
  obtain ⟨hP2, hD2⟩ := wa_join hw hnd hlen hP hD hP1 hk1
  rw [ret_map]
  exact hG p e s m args below meth c D ct A ad0 ad H1 locs1 la C hA h0 h1 (by rw [putL, foldl_set_len]; exact hz) hP2 hD2 hS1 hL
theorem g_callS (hcall : CS (mnm M).cls ix M' nA) (hcon : Con l M' cav cw Q') (hd : decode (mby M) pc = .ok (.invokestatic ix, 3)) (hst : st = (cav.map (rv (sg ps))).reverse ++ rest) (hw : ps.map (fun i => w[i]?) = cw.map (fun x => some (ren ps x))) (hnd : va_nd ps = true)
    (hdp : mdp M' + 1 ≤ mdp M ∧ mlo M' ≤ 29 ∧ mkc M' = 0 ∧ mks M' = 0 ∧ z.2.1 ≤ mkc M ∧ z.2.2 ≤ mks M) (hna : cav.length = nA) (hrs : (rest.map fun v => v.category).sum ≤ 8) (hn : pc + 3 = n)
    (kk : ∀ (r : Option Value) (cw' : List va_E), Q' r cw' → cw'.length = cw.length ∧ G l M z Q n ls ((r.map (rv (sg ps))).toList ++ rest) (putL w ps cw')) : G l M z Q pc ls st w := by
  subst hn
  subst hst
  obtain ⟨⟨hini, hcode, hy⟩, hlk, hstt⟩ := hcall
  obtain ⟨d1, d2, d3, d4, d5, d6⟩ := hdp
  intro p e s m args below meth c D ct A ad0 ad H locs la C hA h0 h1 hz hP hD hS hL
  have hts := C.2.2.2.2.2.1
  have hcut := wa_cut (ct := ct) (ad := ad) hw
  have hPc := hP.sub (ws' := wa ct (fun j => ad (sg ps j)) cw) ps (by
    have := congrArg (fun L : List (Option (Nat × va_E)) => L.filterMap id) hcut
    simpa [List.filterMap_map] using this)
  have hDc := hD.sub ps hnd hcut
  have hF := va_free (wc := wa ct (fun j => ad (sg ps j)) cw) hD hS hA ps hcut
  have hM := hcon D ct (fun j => ad (sg ps j)) H.size
  rw [d3, d4] at hM
  refine run_back (cw := cw) (rest := rest.map (rv ad)) (va_runS (As := cav.map (rv (fun j => ad (sg ps j)))) ⟨C.1, C.2.1, C.2.2.2.1, C.2.2.2.2.1, hts⟩ hM
    ⟨callB_of nA hts (good_big hcode) rfl rfl rfl (hts _ hini) (hts _ hlk) hy ⟨d1, by show 8 + (mlo M' + 11) + 48 * mdp M' ≤ 48 * mdp M; omega⟩, hts _ hstt⟩
    ⟨Pm_blind, fun U hU hW => ⟨rfl, by rw [hU], by rw [hU]; exact hPc, KB.moved hW C.2.2.2.2.2.2.2.2, hDc.weaken (fun _ _ _ _ => trivial)⟩⟩
    rfl (by rw [List.length_map]; exact hna) hL.1 (by show List.map (rv ad) _ = _; rw [List.map_append, stk_map]) (by show 2 * 0 + _ ≤ 8; rw [cat_map]; omega) hd ⟨d5, d6⟩) hS hF (fun r cw' H1 locs1 hq hP1 hD1 hk1 hS1 => ?_)
  obtain ⟨hlen, hG⟩ := kk r cw' hq
  obtain ⟨hP2, hD2⟩ := wa_join hw hnd hlen hP hD hP1 hk1
  rw [ret_map]
  exact hG p e s m args below meth c D ct A ad0 ad H1 locs1 la C hA h0 h1 (by rw [putL, foldl_set_len]; exact hz) hP2 hD2 hS1 hL
theorem g_callSN (hcall : CSN (mnm M).cls ix M' nA) (hcon : Con l M' cav cw Q') (hd : decode (mby M) pc = .ok (.invokestatic ix, 3)) (hst : st = (cav.map (rv (sg ps))).reverse ++ rest) (hw : ps.map (fun i => w[i]?) = cw.map (fun x => some (ren ps x))) (hnd : va_nd ps = true)
    (hdp : mdp M' + 1 ≤ mdp M ∧ mlo M' ≤ 29 ∧ mkc M' = 0 ∧ mks M' = 0 ∧ z.2.1 ≤ mkc M ∧ z.2.2 ≤ mks M) (hna : cav.length = nA) (hrs : (rest.map fun v => v.category).sum ≤ 8) (hn : pc + 3 = n)
    (kk : ∀ (r : Option Value) (cw' : List va_E), Q' r cw' → cw'.length = cw.length ∧ G l M z Q n ls ((r.map (rv (sg ps))).toList ++ rest) (putL w ps cw')) : G l M z Q pc ls st w := by
  subst hn
  subst hst
  obtain ⟨⟨hini, hcode, hy⟩, hlk, hstt⟩ := hcall
  obtain ⟨d1, d2, d3, d4, d5, d6⟩ := hdp
  intro p e s m args below meth c D ct A ad0 ad H locs la C hA h0 h1 hz hP hD hS hL
  have hts := C.2.2.2.2.2.1
  have hcut := wa_cut (ct := ct) (ad := ad) hw
  have hPc := hP.sub (ws' := wa ct (fun j => ad (sg ps j)) cw) ps (by
    have := congrArg (fun L : List (Option (Nat × va_E)) => L.filterMap id) hcut
    simpa [List.filterMap_map] using this)
  have hDc := hD.sub ps hnd hcut
  have hF := va_free (wc := wa ct (fun j => ad (sg ps j)) cw) hD hS hA ps hcut
  have hM := hcon D ct (fun j => ad (sg ps j)) H.size
  rw [d3, d4] at hM
  refine run_back (cw := cw) (rest := rest.map (rv ad)) (va_runSN (host := RX8) (As := cav.map (rv (fun j => ad (sg ps j)))) ⟨C.1, C.2.1, C.2.2.2.1, C.2.2.2.2.1, hts⟩ hM
    ⟨va_cnB nA hts (good_big hcode) rfl rfl rfl (C.2.2.2.2.2.2.2.2.2.1 _ hlk) (hts _ hini) hy ⟨d1, by show 8 + (mlo M' + 11) + 48 * mdp M' ≤ 48 * mdp M; omega⟩, hts _ hstt, trivial⟩
    ⟨Pm_blind, fun U hU hW => ⟨rfl, by rw [hU], by rw [hU]; exact hPc, KB.moved hW C.2.2.2.2.2.2.2.2, hDc.weaken (fun _ _ _ _ => trivial)⟩⟩
    rfl (by rw [List.length_map]; exact hna) hL.1 (by show List.map (rv ad) _ = _; rw [List.map_append, stk_map]) (by show 2 * 0 + _ ≤ 8; rw [cat_map]; omega) hd ⟨d5, d6⟩) hS hF (fun r cw' H1 locs1 hq hP1 hD1 hk1 hS1 => ?_)
  obtain ⟨hlen, hG⟩ := kk r cw' hq
  obtain ⟨hP2, hD2⟩ := wa_join hw hnd hlen hP hD hP1 hk1
  rw [ret_map]
  exact hG p e s m args below meth c D ct A ad0 ad H1 locs1 la C hA h0 h1 (by rw [putL, foldl_set_len]; exact hz) hP2 hD2 hS1 hL
/-- an instance method on the very same world -/
theorem g_callW {b0 ci : Nat} {fs : List Value} (hcall : CV (mnm M).cls ix M' nA) (hcon : Con l M' (.ref b0 :: cav) w Q') (hd : decode (mby M) pc = .ok (.invokevirtual ix, 3)) (hst : st = cav.reverse ++ .ref b0 :: rest)
    (hdp : mdp M' + 1 ≤ mdp M ∧ mlo M' ≤ 29 ∧ mkc M' = 0 ∧ mks M' = 0 ∧ z.2.1 ≤ mkc M ∧ z.2.2 ≤ mks M) (hrc : w[b0]? = some (.inr (ci, fs))) (hci : (vwCl[ci]?).map (fun r => r.1) = some (mnm M').cls) (hna : cav.length = nA) (hrs : (rest.map fun v => v.category).sum ≤ 8) (hn : pc + 3 = n)
    (kk : ∀ (r : Option Value) (w' : List va_E), Q' r w' → w'.length = w.length ∧ G l M z Q n ls (r.toList ++ rest) w') : G l M z Q pc ls st w := by
  subst hn
  subst hst
  obtain ⟨⟨hini, hcode, hy⟩, hlk, him, hsel⟩ := hcall
  obtain ⟨d1, d2, d3, d4, d5, d6⟩ := hdp
  intro p e s m args below meth c D ct A ad0 ad H locs la C hA h0 h1 hz hP hD hS hL
  have hts := C.2.2.2.2.2.1
  have hF : ∀ q, va_A (wa ct ad w) H.size q → A q := fun q h => by
    rcases h with ⟨k, e1, h⟩ | h
    · exact hD.2 k _ h
    · exact hA q (Nat.le_trans hS.1 h)
  obtain ⟨q0, hq0⟩ : ∃ q0, vwCl[ci]? = some q0 := by
    cases hx : vwCl[ci]? with
    | none => rw [hx] at hci; cases hci
    | some q => exact ⟨q, rfl⟩
  have hq1 : q0.1 = (mnm M').cls := by rw [hq0] at hci; exact Option.some.inj hci
  have hM := hcon D ct ad H.size
  rw [d3, d4] at hM
  refine run_back (cw := w) (rest := rest.map (rv ad)) (va_runV (C := (mnm M').cls) (b := ad b0) (As := cav.map (rv ad)) ⟨C.1, C.2.1, C.2.2.2.1, C.2.2.2.2.1, hts⟩ hM
    ⟨callB_of nA hts (good_big hcode) rfl rfl rfl (hts _ hini) (hts _ hlk) hy ⟨d1, by show 8 + (mlo M' + 11) + 48 * mdp M' ≤ 48 * mdp M; omega⟩, hts _ him, hts _ hsel⟩
    ⟨Pm_blind, by rw [← hq1]; exact va_recv C.2.2.2.2.2.2.2.2.1 hP hq0 (wa_at hrc), fun U hU hW => ⟨rfl, by rw [hU], by rw [hU]; exact hP, KB.moved hW C.2.2.2.2.2.2.2.2, hD.weaken (fun _ _ _ _ => trivial)⟩⟩
    rfl (by rw [List.length_map]; exact hna) hL.1 (by show List.map (rv ad) _ = _; rw [List.map_append, List.map_reverse]; rfl) (by show 2 * 0 + _ ≤ 8; rw [cat_map]; omega) hd ⟨d5, d6⟩) hS hF (fun r w' H1 locs1 hq hP1 hD1 hk1 hS1 => ?_)
  obtain ⟨hlen, hG⟩ := kk r w' hq
  have e9 : (r.map (rv ad)).toList ++ rest.map (rv ad) = (r.toList ++ rest).map (rv ad) := by cases r <;> rfl
  rw [e9]
  exact hG p e s m args below meth c D ct A ad0 ad H1 locs1 la C hA h0 h1 (by rw [hlen]; exact hz) hP1 (va_D_addr hlen hD) hS1 hL
end RI
/-- a contract that names answer and world -/
abbrev Fn (l : Launch) (M : MC) (av : List Value) (w : List va_E) (v : Option Value) (w' : List va_E) : Prop := Con l M av w (fun r u => r = v ∧ u = w')

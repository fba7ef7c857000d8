/-! 64.steps: a call of both, method by method -/
theorem fS_new {V : WT} {S : ST} (h : fk V S 60 ≤ 60) : ∃ j, j < 32 ∧ hb (sfa (fS V S 60) &&& (sfa S ^^^ (-1))) (nI j) = true ∧ ∀ i, i < j → hb (sfa (fS V S 60) &&& (sfa S ^^^ (-1))) (nI i) = false :=
  least_bit (new_bit (fun j hj hx => flR_sup V (sfa S) hj 61 S hx) (flR_stop V (sfa S) 61 S (Nat.lt_succ_of_le h)))
theorem it_bo (V : WT) : ∀ (n : Nat) (S : ST), sbo (itP V n S) = sbo S
  | 0, _ => rfl
  | n + 1, S => by rw [itP, it_bo V n]; rfl
theorem ro_first (V : WT) (S : ST) (n : Nat) : ∃ c0, c0 ≤ codes S n ∧ (c0 < codes S n → isR V S c0 n = true) ∧ ∀ i, i < c0 → isR V S i n = false := by
  obtain ⟨k, hk, hmin⟩ := pk_least (fun k => k = codes S n ∨ (k < codes S n ∧ isR V S k n = true)) ⟨codes S n, Or.inl rfl⟩
  refine ⟨k, ?_, fun h => ?_, fun i hi => ?_⟩
  · rcases hk with h | h
    · omega
    · omega
  · rcases hk with h1 | h1
    · omega
    · exact h1.2
  · cases hx : isR V S i n with
    | false => rfl
    | true => exact absurd (Or.inr ⟨by rcases hk with h | h <;> omega, hx⟩) (hmin i hi)
theorem fn_ans {l : Launch} {M : MC} {av : List Value} {w w2 : List va_E} {v v2 : Option Value} (h : Fn l M av w v w2) (e : v = v2) : Fn l M av w v2 w2 := e ▸ h
set_option maxRecDepth 20000 in
theorem sp_bay (l : Launch) {H : Nat} (hH : H ≤ 100000) {w : List va_E} (h : CoI H w) (x y : Int32) : Sby l M_X8_bay M_X9_bay [.int x, .int y] H w := by
  obtain ⟨ke, la, sp, n, tf, S, tn, sz, P, K, V, dn, fb, e, to, s, hI, hm, hC⟩ := h
  have hC0 := hC
  obtain ⟨⟨hV, hX, hY, hb0, th, pa, ki, sg, kn, E, hkn, rfl⟩, ⟨hA, bo, hbo, B, rfl⟩, ⟨ta, hTC, hTX⟩, ⟨hp1, hp2, hp3, hp4, hp5⟩, ⟨hk1, hk2, hk3, hk4⟩, hE⟩ := hC0
  have hA0 := hA
  obtain ⟨⟨a, haH, hS⟩, hU, hPp, hR⟩ := hA0
  have ha2 : a + 100 < 2 ^ 31 := by omega
  have hZ : okZ (sBo S bo) := okZ_bo hS.1 hbo
  have h8 := hV.1
  have h6 := hV.2.1
  cases c1 : isB (vnb V) x with
  | false => exact stp_q hm hC rfl rfl (oc_xs hI rfl rfl (fun fell T ra lo pr rb lb pb U un ub hT => t_X8_bay_bad1 l fell T hT ra lo pr rb lb pb (nI ke) S V hV dn fb U un ub a ha2 hS x y c1)) (t_X9_bay_bad1 l e (wV V th pa ki sg kn) (sBo S bo) hV x y c1)
  | true =>
    cases c2 : inB y (nI 0) (nI 6) with
    | false => exact stp_q hm hC rfl rfl (oc_xs hI rfl rfl (fun fell T ra lo pr rb lb pb U un ub hT => t_X8_bay_bad2 l fell T hT ra lo pr rb lb pb (nI ke) S V hV dn fb U un ub a ha2 hS x y c1 c2)) (t_X9_bay_bad2 l e (wV V th pa ki sg kn) (sBo S bo) hV x y c1 c2)
    | true =>
      obtain ⟨b, hb_, rfl⟩ := isB_t (nb := vnb V) (by omega) c1
      exact stp_q hm hC rfl rfl (oc_xs hI rfl rfl (fun fell T ra lo pr rb lb pb U un ub hT => t_X8_bay_ok l fell T hT ra lo pr rb lb pb (nI ke) S V hV dn fb U un ub a ha2 hS b hb_ y c2)) (fn_ans (t_X9_bay_ok l e (wV V th pa ki sg kn) (sBo S bo) hV b hb_ y c2) (by rw [c_byA hV E B hb_ y]))
set_option maxRecDepth 20000 in
theorem sp_buttress (l : Launch) {H : Nat} (hH : H ≤ 100000) {w : List va_E} (h : CoI H w) (x y : Int32) : Sby l M_X8_buttress M_X9_buttress [.int x, .int y] H w := by
  obtain ⟨ke, la, sp, n, tf, S, tn, sz, P, K, V, dn, fb, e, to, s, hI, hm, hC⟩ := h
  have hC0 := hC
  obtain ⟨⟨hV, hX, hY, hb0, th, pa, ki, sg, kn, E, hkn, rfl⟩, ⟨hA, bo, hbo, B, rfl⟩, ⟨ta, hTC, hTX⟩, ⟨hp1, hp2, hp3, hp4, hp5⟩, ⟨hk1, hk2, hk3, hk4⟩, hE⟩ := hC0
  have hA0 := hA
  obtain ⟨⟨a, haH, hS⟩, hU, hPp, hR⟩ := hA0
  have ha2 : a + 100 < 2 ^ 31 := by omega
  have hZ : okZ (sBo S bo) := okZ_bo hS.1 hbo
  have h8 := hV.1
  have h6 := hV.2.1
  cases c1 : isB (vnf V) x with
  | false => exact stp_q hm hC rfl rfl (oc_xs hI rfl rfl (fun fell T ra lo pr rb lb pb U un ub hT => t_X8_buttress_bad l fell T hT ra lo pr rb lb pb (nI ke) S V hV dn fb U un ub a ha2 hS y x c1)) (t_X9_buttress_bad l e (wV V th pa ki sg kn) (sBo S bo) hV y x c1)
  | true =>
    obtain ⟨f, hf, rfl⟩ := isB_t (nb := vnf V) (by omega) c1
    exact stp_q hm hC rfl rfl (oc_xs hI rfl rfl (fun fell T ra lo pr rb lb pb U un ub hT => t_X8_buttress_ok l fell T hT ra lo pr rb lb pb (nI ke) S V hV dn fb U un ub a ha2 hS f hf y)) (fn_ans (t_X9_buttress_ok l e (wV V th pa ki sg kn) (sBo S bo) hV f hf y) (by rw [c_buA E B hf y]))
set_option maxRecDepth 20000 in
theorem sp_carts (l : Launch) {H : Nat} (hH : H ≤ 100000) {w : List va_E} (h : CoI H w) (x : Int32) : Sby l M_X8_carts M_X9_carts [.int x] H w := by
  obtain ⟨ke, la, sp, n, tf, S, tn, sz, P, K, V, dn, fb, e, to, s, hI, hm, hC⟩ := h
  have hC0 := hC
  obtain ⟨⟨hV, hX, hY, hb0, th, pa, ki, sg, kn, E, hkn, rfl⟩, ⟨hA, bo, hbo, B, rfl⟩, ⟨ta, hTC, hTX⟩, ⟨hp1, hp2, hp3, hp4, hp5⟩, ⟨hk1, hk2, hk3, hk4⟩, hE⟩ := hC0
  have hA0 := hA
  obtain ⟨⟨a, haH, hS⟩, hU, hPp, hR⟩ := hA0
  have ha2 : a + 100 < 2 ^ 31 := by omega
  have hZ : okZ (sBo S bo) := okZ_bo hS.1 hbo
  have h8 := hV.1
  have h6 := hV.2.1
  cases c1 : inB x (nI 0) (nI 99) with
  | false => exact stp_q hm hC rfl rfl (oc_xs hI rfl rfl (fun fell T ra lo pr rb lb pb U un ub hT => t_X8_carts_bad l fell T hT ra lo pr rb lb pb (nI ke) S V hV dn fb U un ub a ha2 hS x c1)) (t_X9_carts_bad l e (wV V th pa ki sg kn) (sBo S bo) hV x c1)
  | true =>
    obtain ⟨k, _, hk, rfl⟩ := inB_ex (by omega) (by omega) c1
    exact stp_q hm hC rfl rfl (oc_xs hI rfl rfl (fun fell T ra lo pr rb lb pb U un ub hT => t_X8_carts_ok l fell T hT ra lo pr rb lb pb (nI ke) S V hV dn fb U un ub a ha2 hS k hk c1)) (t_X9_carts_ok l e (wV V th pa ki sg kn) (sBo S bo) hV (nI k) c1)
set_option maxRecDepth 20000 in
theorem sp_stands (l : Launch) {H : Nat} (hH : H ≤ 100000) {w : List va_E} (h : CoI H w) (x : Int32) : Sby l M_X8_stands M_X9_stands [.int x] H w := by
  obtain ⟨ke, la, sp, n, tf, S, tn, sz, P, K, V, dn, fb, e, to, s, hI, hm, hC⟩ := h
  have hC0 := hC
  obtain ⟨⟨hV, hX, hY, hb0, th, pa, ki, sg, kn, E, hkn, rfl⟩, ⟨hA, bo, hbo, B, rfl⟩, ⟨ta, hTC, hTX⟩, ⟨hp1, hp2, hp3, hp4, hp5⟩, ⟨hk1, hk2, hk3, hk4⟩, hE⟩ := hC0
  have hA0 := hA
  obtain ⟨⟨a, haH, hS⟩, hU, hPp, hR⟩ := hA0
  have ha2 : a + 100 < 2 ^ 31 := by omega
  have hZ : okZ (sBo S bo) := okZ_bo hS.1 hbo
  have h8 := hV.1
  have h6 := hV.2.1
  cases c1 : inB x (nI 0) (nI 1) with
  | false => exact stp_q hm hC rfl rfl (oc_xs hI rfl rfl (fun fell T ra lo pr rb lb pb U un ub hT => t_X8_stands_bad l fell T hT ra lo pr rb lb pb (nI ke) S V hV dn fb U un ub a ha2 hS x c1)) (t_X9_stands_bad l e (wV V th pa ki sg kn) (sBo S bo) hV x c1)
  | true =>
    have ek : fk (wV V th pa ki sg kn) (sBo S bo) 60 = fk V S 60 := c_fk hV E B 60
    have eS : fS (wV V th pa ki sg kn) (sBo S bo) 60 = sBo (fS V S 60) bo := c_fS hV E B 60
    by_cases c2 : fk V S 60 ≤ 60
    · obtain ⟨k, _, hk, rfl⟩ := inB_ex (by omega) (by omega) c1
      rcases (show k = 0 ∨ k = 1 by omega) with rfl | rfl
      · exact stp_a hm hC rfl rfl (oc_xs hI rfl rfl (fun fell T ra lo pr rb lb pb U un ub hT => t_X8_stands_0 l fell T hT ra lo pr rb lb pb (nI ke) S V hV dn fb U un ub a ha2 hS c2)) (fn_ans (t_X9_stands_0 l e (wV V th pa ki sg kn) (sBo S bo) hV hZ hE.1 (by rw [ek]; exact c2)) (by rw [ek]))
      · obtain ⟨j, hj, g1, g2⟩ := fS_new c2
        exact stp_a hm hC rfl rfl (oc_xs hI rfl rfl (fun fell T ra lo pr rb lb pb U un ub hT => t_X8_stands_1 l fell T hT ra lo pr rb lb pb (nI ke) S V hV dn fb U un ub a ha2 hS c2 j hj g1 g2)) (t_X9_stands_1 l e (wV V th pa ki sg kn) (sBo S bo) hV hZ hE.1 (by rw [ek]; exact c2) j hj (by rw [eS]; exact g1) (by rw [eS]; exact g2))
    · exact stp_a hm hC rfl rfl (oc_xs hI rfl rfl (fun fell T ra lo pr rb lb pb U un ub hT => t_X8_stands_none l fell T hT ra lo pr rb lb pb (nI ke) S V hV dn fb U un ub a ha2 hS x c1 (by omega))) (t_X9_stands_none l e (wV V th pa ki sg kn) (sBo S bo) hV hZ hE.1 x c1 (by rw [ek]; omega))
set_option maxRecDepth 20000 in
theorem sp_needed (l : Launch) {H : Nat} (hH : H ≤ 100000) {w : List va_E} (h : CoI H w) : Sby l M_X8_needed M_X9_needed [] H w := by
  obtain ⟨ke, la, sp, n, tf, S, tn, sz, P, K, V, dn, fb, e, to, s, hI, hm, hC⟩ := h
  have hC0 := hC
  obtain ⟨⟨hV, hX, hY, hb0, th, pa, ki, sg, kn, E, hkn, rfl⟩, ⟨hA, bo, hbo, B, rfl⟩, ⟨ta, hTC, hTX⟩, ⟨hp1, hp2, hp3, hp4, hp5⟩, ⟨hk1, hk2, hk3, hk4⟩, hE⟩ := hC0
  have hA0 := hA
  obtain ⟨⟨a, haH, hS⟩, hU, hPp, hR⟩ := hA0
  have ha2 : a + 100 < 2 ^ 31 := by omega
  have hZ : okZ (sBo S bo) := okZ_bo hS.1 hbo
  have h8 := hV.1
  have h6 := hV.2.1
  exact stp_a hm hC rfl rfl (oc_xs hI rfl rfl (fun fell T ra lo pr rb lb pb U un ub hT => t_X8_needed l fell T hT ra lo pr rb lb pb (nI ke) S V hV dn fb U un ub a ha2 hS )) (fn_ans (t_X9_needed l e (wV V th pa ki sg kn) (sBo S bo) hV hZ hE.1) (by rw [c_ndN hV E B]))
set_option maxRecDepth 20000 in
theorem sp_cuts (l : Launch) {H : Nat} (hH : H ≤ 100000) {w : List va_E} (h : CoI H w) : Sby l M_X8_cuts M_X9_cuts [] H w := by
  obtain ⟨ke, la, sp, n, tf, S, tn, sz, P, K, V, dn, fb, e, to, s, hI, hm, hC⟩ := h
  have hC0 := hC
  obtain ⟨⟨hV, hX, hY, hb0, th, pa, ki, sg, kn, E, hkn, rfl⟩, ⟨hA, bo, hbo, B, rfl⟩, ⟨ta, hTC, hTX⟩, ⟨hp1, hp2, hp3, hp4, hp5⟩, ⟨hk1, hk2, hk3, hk4⟩, hE⟩ := hC0
  have hA0 := hA
  obtain ⟨⟨a, haH, hS⟩, hU, hPp, hR⟩ := hA0
  have ha2 : a + 100 < 2 ^ 31 := by omega
  have hZ : okZ (sBo S bo) := okZ_bo hS.1 hbo
  have h8 := hV.1
  have h6 := hV.2.1
  exact stp_a hm hC rfl rfl (oc_xs hI rfl rfl (fun fell T ra lo pr rb lb pb U un ub hT => t_X8_cuts l fell T hT ra lo pr rb lb pb (nI ke) S V hV dn fb U un ub a ha2 hS )) (fn_ans (t_X9_cuts l e (wV V th pa ki sg kn) (sBo S bo) hV hZ hE.1) (by rw [c_cuN hV E B]))
set_option maxRecDepth 20000 in
theorem sp_place (l : Launch) {H : Nat} (hH : H ≤ 100000) {w : List va_E} (h : CoI H w) (x : Int32) : Sby l M_X8_place M_X9_place [.int x] H w := by
  obtain ⟨ke, la, sp, n, tf, S, tn, sz, P, K, V, dn, fb, e, to, s, hI, hm, hC⟩ := h
  have hC0 := hC
  obtain ⟨⟨hV, hX, hY, hb0, th, pa, ki, sg, kn, E, hkn, rfl⟩, ⟨hA, bo, hbo, B, rfl⟩, ⟨ta, hTC, hTX⟩, ⟨hp1, hp2, hp3, hp4, hp5⟩, ⟨hk1, hk2, hk3, hk4⟩, hE⟩ := hC0
  have hA0 := hA
  obtain ⟨⟨a, haH, hS⟩, hU, hPp, hR⟩ := hA0
  have ha2 : a + 100 < 2 ^ 31 := by omega
  have hZ : okZ (sBo S bo) := okZ_bo hS.1 hbo
  have h8 := hV.1
  have h6 := hV.2.1
  cases c1 : isB (vnf V) x with
  | false => exact stp_q hm hC rfl rfl (oc_xs hI rfl rfl (fun fell T ra lo pr rb lb pb U un ub hT => t_X8_place_bad l fell T hT ra lo pr rb lb pb (nI ke) S V hV dn fb U un ub a ha2 hS x c1)) (t_X9_place_bad l e (wV V th pa ki sg kn) (sBo S bo) hV x c1)
  | true =>
    obtain ⟨f, hf, rfl⟩ := isB_t (nb := vnf V) (by omega) c1
    cases c2 : hb (sup S) (nI f) with
    | true => exact stp_q hm hC rfl rfl (oc_xs hI rfl rfl (fun fell T ra lo pr rb lb pb U un ub hT => t_X8_place_no l fell T hT ra lo pr rb lb pb (nI ke) S V hV dn fb U un ub a ha2 hS f hf c2)) (t_X9_place_no l e (wV V th pa ki sg kn) (sBo S bo) hV f hf c2)
    | false => exact stp_a hm hC rfl rfl (oc_xs hI rfl rfl (fun fell T ra lo pr rb lb pb U un ub hT => t_X8_place_ok l fell T hT ra lo pr rb lb pb (nI ke) S V hV dn fb U un ub a ha2 hS f hf c2)) (fn_ans (t_X9_place_ok l e (wV V th pa ki sg kn) (sBo S bo) hV hZ hE.1 f hf c2) (by rw [c_plN hV E B]))
set_option maxRecDepth 20000 in
theorem sp_strong (l : Launch) {H : Nat} (hH : H ≤ 100000) {w : List va_E} (h : CoI H w) (x : Int32) : Sby l M_X8_strong M_X9_strong [.int x] H w := by
  obtain ⟨ke, la, sp, n, tf, S, tn, sz, P, K, V, dn, fb, e, to, s, hI, hm, hC⟩ := h
  have hC0 := hC
  obtain ⟨⟨hV, hX, hY, hb0, th, pa, ki, sg, kn, E, hkn, rfl⟩, ⟨hA, bo, hbo, B, rfl⟩, ⟨ta, hTC, hTX⟩, ⟨hp1, hp2, hp3, hp4, hp5⟩, ⟨hk1, hk2, hk3, hk4⟩, hE⟩ := hC0
  have hA0 := hA
  obtain ⟨⟨a, haH, hS⟩, hU, hPp, hR⟩ := hA0
  have ha2 : a + 100 < 2 ^ 31 := by omega
  have hZ : okZ (sBo S bo) := okZ_bo hS.1 hbo
  have h8 := hV.1
  have h6 := hV.2.1
  cases c1 : isB (vnf V) x with
  | false => exact stp_q hm hC rfl rfl (oc_xa hI rfl rfl (fun fell T ra lo pr rb lb pb U un ub hT hYU => t_X8_strong_bad l fell T hT ra lo pr rb lb pb (nI ke) S V hV dn fb U un ub a ha2 hS hYU hY x c1)) (t_X9_strong_bad l e (wV V th pa ki sg kn) (sBo S bo) hV x c1)
  | true =>
    obtain ⟨f, hf, rfl⟩ := isB_t (nb := vnf V) (by omega) c1
    obtain ⟨r, hr1, hr2, hr3, hr4⟩ := sgK_ex hV hX (okQ_of hR) f
    exact stp_a hm hC rfl rfl (oc_xa hI rfl rfl (fun fell T ra lo pr rb lb pb U un ub hT hYU => t_X8_strong_ok l fell T hT ra lo pr rb lb pb (nI ke) S V hV dn fb U un ub a ha2 hS hYU hY f hf r hr1 hr3 hr4)) (t_X9_strong_ok l e (wV V th pa ki sg kn) (sBo S bo) hV hZ hE.1 f hf r hr1 (by rw [c_sgK hV E B, c_sgK hV E B]; exact hr2) (fun i h1 h2 => by rw [c_sgK hV E B, c_sgK hV E B]; exact hr3 i h1 h2) (by rw [c_sgK hV E B]; exact sgK_pos V S f 99))
set_option maxRecDepth 20000 in
theorem sp_who (l : Launch) {H : Nat} (hH : H ≤ 100000) {w : List va_E} (h : CoI H w) (x y : Int32) : Sby l M_X8_who M_X9_who [.int x, .int y] H w := by
  obtain ⟨ke, la, sp, n, tf, S, tn, sz, P, K, V, dn, fb, e, to, s, hI, hm, hC⟩ := h
  have hC0 := hC
  obtain ⟨⟨hV, hX, hY, hb0, th, pa, ki, sg, kn, E, hkn, rfl⟩, ⟨hA, bo, hbo, B, rfl⟩, ⟨ta, hTC, hTX⟩, ⟨hp1, hp2, hp3, hp4, hp5⟩, ⟨hk1, hk2, hk3, hk4⟩, hE⟩ := hC0
  have hA0 := hA
  obtain ⟨⟨a, haH, hS⟩, hU, hPp, hR⟩ := hA0
  have ha2 : a + 100 < 2 ^ 31 := by omega
  have hZ : okZ (sBo S bo) := okZ_bo hS.1 hbo
  have h8 := hV.1
  have h6 := hV.2.1
  cases c1 : inB x (nI 0) (nI (2 ^ vnb V) - nI 1) with
  | false => exact stp_q hm hC rfl rfl (oc_xs hI rfl rfl (fun fell T ra lo pr rb lb pb U un ub hT => t_X8_who_bad1 l fell T hT ra lo pr rb lb pb (nI ke) S V hV dn fb U un ub a ha2 hS x y c1)) (t_X9_who_bad1 l e (wV V th pa ki sg kn) (sBo S bo) hV x y c1)
  | true =>
    cases c2 : inB y (nI 0) (nI 1) with
    | false => exact stp_q hm hC rfl rfl (oc_xs hI rfl rfl (fun fell T ra lo pr rb lb pb U un ub hT => t_X8_who_bad2 l fell T hT ra lo pr rb lb pb (nI ke) S V hV dn fb U un ub a ha2 hS x y c1 c2)) (t_X9_who_bad2 l e (wV V th pa ki sg kn) (sBo S bo) hV x y c1 c2)
    | true =>
      obtain ⟨k, _, hk, rfl⟩ := inB_ex (by omega) (by omega) c2
      exact stp_q hm hC rfl rfl (oc_xs hI rfl rfl (fun fell T ra lo pr rb lb pb U un ub hT => t_X8_who_ok l fell T hT ra lo pr rb lb pb (nI ke) S V hV dn fb U un ub a ha2 hS x c1 k (by omega))) (fn_ans (t_X9_who_ok l e (wV V th pa ki sg kn) (sBo S bo) hV x c1 k (by omega)) (by rw [c_whN hV E B]))
set_option maxRecDepth 20000 in
theorem sp_knees (l : Launch) {H : Nat} (hH : H ≤ 100000) {w : List va_E} (h : CoI H w) (x y : Int32) : Sby l M_X8_knees M_X9_knees [.int x, .int y] H w := by
  obtain ⟨ke, la, sp, n, tf, S, tn, sz, P, K, V, dn, fb, e, to, s, hI, hm, hC⟩ := h
  have hC0 := hC
  obtain ⟨⟨hV, hX, hY, hb0, th, pa, ki, sg, kn, E, hkn, rfl⟩, ⟨hA, bo, hbo, B, rfl⟩, ⟨ta, hTC, hTX⟩, ⟨hp1, hp2, hp3, hp4, hp5⟩, ⟨hk1, hk2, hk3, hk4⟩, hE⟩ := hC0
  have hA0 := hA
  obtain ⟨⟨a, haH, hS⟩, hU, hPp, hR⟩ := hA0
  have ha2 : a + 100 < 2 ^ 31 := by omega
  have hZ : okZ (sBo S bo) := okZ_bo hS.1 hbo
  have h8 := hV.1
  have h6 := hV.2.1
  cases c1 : isB (vnf V) x with
  | false => exact stp_q hm hC rfl rfl (oc_xa hI rfl rfl (fun fell T ra lo pr rb lb pb U un ub hT hYU => t_X8_knees_bad1 l fell T hT ra lo pr rb lb pb (nI ke) S V hV dn fb U un ub a ha2 hS hYU hY x y c1)) (t_X9_knees_bad1 l e (wV V th pa ki sg kn) (sBo S bo) hV x y c1)
  | true =>
    cases c2 : inB y (nI 1) (nI 40) with
    | false => exact stp_q hm hC rfl rfl (oc_xa hI rfl rfl (fun fell T ra lo pr rb lb pb U un ub hT hYU => t_X8_knees_bad2 l fell T hT ra lo pr rb lb pb (nI ke) S V hV dn fb U un ub a ha2 hS hYU hY x y c1 c2)) (t_X9_knees_bad2 l e (wV V th pa ki sg kn) (sBo S bo) hV x y c1 c2)
    | true =>
      obtain ⟨f, hf, rfl⟩ := isB_t (nb := vnf V) (by omega) c1
      cases c3 : hb (sup S) (nI f) with
      | false => exact stp_q hm hC rfl rfl (oc_xa hI rfl rfl (fun fell T ra lo pr rb lb pb U un ub hT hYU => t_X8_knees_no l fell T hT ra lo pr rb lb pb (nI ke) S V hV dn fb U un ub a ha2 hS hYU hY f hf y c2 c3)) (t_X9_knees_no l e (wV V th pa ki sg kn) (sBo S bo) hV f hf y c2 c3)
      | true =>
        obtain ⟨k, _, hk, rfl⟩ := inB_ex (by omega) (by omega) c2
        exact stp_a hm hC rfl rfl (oc_xa hI rfl rfl (fun fell T ra lo pr rb lb pb U un ub hT hYU => t_X8_knees_ok l fell T hT ra lo pr rb lb pb (nI ke) S V hV dn fb U un ub a ha2 hS hYU hY f hf k hk c2 c3)) (fn_ans (t_X9_knees_ok l e (wV V th pa ki sg kn) (sBo S bo) hV hZ hE.1 f hf k hk c2 c3) (by rw [c_knN hV E B hf]))
set_option maxRecDepth 20000 in
theorem sp_shirkers (l : Launch) {H : Nat} (hH : H ≤ 100000) {w : List va_E} (h : CoI H w) (x y : Int32) : Sby l M_X8_shirkers M_X9_shirkers [.int x, .int y] H w := by
  obtain ⟨ke, la, sp, n, tf, S, tn, sz, P, K, V, dn, fb, e, to, s, hI, hm, hC⟩ := h
  have hC0 := hC
  obtain ⟨⟨hV, hX, hY, hb0, th, pa, ki, sg, kn, E, hkn, rfl⟩, ⟨hA, bo, hbo, B, rfl⟩, ⟨ta, hTC, hTX⟩, ⟨hp1, hp2, hp3, hp4, hp5⟩, ⟨hk1, hk2, hk3, hk4⟩, hE⟩ := hC0
  have hA0 := hA
  obtain ⟨⟨a, haH, hS⟩, hU, hPp, hR⟩ := hA0
  have ha2 : a + 100 < 2 ^ 31 := by omega
  have hZ : okZ (sBo S bo) := okZ_bo hS.1 hbo
  have h8 := hV.1
  have h6 := hV.2.1
  cases c1 : inB x (nI 0) (nI 10) with
  | false => exact stp_q hm hC rfl rfl (oc_xs hI rfl rfl (fun fell T ra lo pr rb lb pb U un ub hT => t_X8_shirkers_bad1 l fell T hT ra lo pr rb lb pb (nI ke) S V hV dn fb U un ub a ha2 hS x y c1)) (t_X9_shirkers_bad1 l e (wV V th pa ki sg kn) (sBo S bo) hV x y c1)
  | true =>
    cases c2 : inB y (nI 0) (nI 1) with
    | false => exact stp_q hm hC rfl rfl (oc_xs hI rfl rfl (fun fell T ra lo pr rb lb pb U un ub hT => t_X8_shirkers_bad2 l fell T hT ra lo pr rb lb pb (nI ke) S V hV dn fb U un ub a ha2 hS x y c1 c2)) (t_X9_shirkers_bad2 l e (wV V th pa ki sg kn) (sBo S bo) hV x y c1 c2)
    | true =>
      obtain ⟨i, _, hi, rfl⟩ := inB_ex (by omega) (by omega) c1
      obtain ⟨k, _, hk, rfl⟩ := inB_ex (by omega) (by omega) c2
      exact stp_a hm hC rfl rfl (oc_xs hI rfl rfl (fun fell T ra lo pr rb lb pb U un ub hT => t_X8_shirkers_ok l fell T hT ra lo pr rb lb pb (nI ke) S V hV dn fb U un ub a ha2 hS hU hPp i hi c1 k (by omega))) (fn_ans (t_X9_shirkers_ok l e (wV V th pa ki sg kn) (sBo S bo) hV hZ hE.1 i hi c1 k (by omega)) (by rw [c_abM hV E B]; rfl))
set_option maxRecDepth 20000 in
theorem sp_night (l : Launch) {H : Nat} (hH : H ≤ 100000) {w : List va_E} (h : CoI H w) (x y z : Int32) : Sby l M_X8_night M_X9_night [.int x, .int y, .int z] H w := by
  obtain ⟨ke, la, sp, n, tf, S, tn, sz, P, K, V, dn, fb, e, to, s, hI, hm, hC⟩ := h
  have hC0 := hC
  obtain ⟨⟨hV, hX, hY, hb0, th, pa, ki, sg, kn, E, hkn, rfl⟩, ⟨hA, bo, hbo, B, rfl⟩, ⟨ta, hTC, hTX⟩, ⟨hp1, hp2, hp3, hp4, hp5⟩, ⟨hk1, hk2, hk3, hk4⟩, hE⟩ := hC0
  have hA0 := hA
  obtain ⟨⟨a, haH, hS⟩, hU, hPp, hR⟩ := hA0
  have ha2 : a + 100 < 2 ^ 31 := by omega
  have hZ : okZ (sBo S bo) := okZ_bo hS.1 hbo
  have h8 := hV.1
  have h6 := hV.2.1
  cases c1 : inB x (nI 0) (nI 9999) with
  | false => exact stp_q hm hC rfl rfl (oc_xs hI rfl rfl (fun fell T ra lo pr rb lb pb U un ub hT => t_X8_night_bad1 l fell T hT ra lo pr rb lb pb (nI ke) S V hV dn fb U un ub a ha2 hS x y z c1)) (t_X9_night_bad1 l e (wV V th pa ki sg kn) (sBo S bo) hV x y z c1)
  | true =>
    cases c2 : inB y (nI 1) (nI 60) with
    | false => exact stp_q hm hC rfl rfl (oc_xs hI rfl rfl (fun fell T ra lo pr rb lb pb U un ub hT => t_X8_night_bad2 l fell T hT ra lo pr rb lb pb (nI ke) S V hV dn fb U un ub a ha2 hS x y z c1 c2)) (t_X9_night_bad2 l e (wV V th pa ki sg kn) (sBo S bo) hV x y z c1 c2)
    | true =>
      cases c3 : inB z (nI 0) (nI 1) with
      | false => exact stp_q hm hC rfl rfl (oc_xs hI rfl rfl (fun fell T ra lo pr rb lb pb U un ub hT => t_X8_night_bad3 l fell T hT ra lo pr rb lb pb (nI ke) S V hV dn fb U un ub a ha2 hS x y z c1 c2 c3)) (t_X9_night_bad3 l e (wV V th pa ki sg kn) (sBo S bo) hV x y z c1 c2 c3)
      | true =>
        obtain ⟨zz, _, hzz, rfl⟩ := inB_ex (by omega) (by omega) c1
        obtain ⟨m, _, hm60, rfl⟩ := inB_ex (by omega) (by omega) c2
        obtain ⟨k, _, hk, rfl⟩ := inB_ex (by omega) (by omega) c3
        obtain ⟨b2, e2, _⟩ := c_ni hV E B zz m
        exact stp_a hm hC rfl rfl (oc_xs hI rfl rfl (fun fell T ra lo pr rb lb pb U un ub hT => t_X8_night_ok l fell T hT ra lo pr rb lb pb (nI ke) S V hV dn fb U un ub a ha2 hS (by omega) hU hb0 zz hzz m hm60 k (by omega) c1 c2)) (fn_ans (t_X9_night_ok l e (wV V th pa ki sg kn) (sBo S bo) hV hZ hE.1 hb0 zz hzz m hm60 k (by omega) c1 c2) (by rw [e2]))
set_option maxRecDepth 20000 in
theorem sp_roster (l : Launch) {H : Nat} (hH : H ≤ 100000) {w : List va_E} (h : CoI H w) (x y : Int32) : Sby l M_X8_rosterD M_X9_roster [.int x, .int y] H w := by
  obtain ⟨ke, la, sp, n, tf, S, tn, sz, P, K, V, dn, fb, e, to, s, hI, hm, hC⟩ := h
  have hC0 := hC
  obtain ⟨⟨hV, hX, hY, hb0, th, pa, ki, sg, kn, E, hkn, rfl⟩, ⟨hA, bo, hbo, B, rfl⟩, ⟨ta, hTC, hTX⟩, ⟨hp1, hp2, hp3, hp4, hp5⟩, ⟨hk1, hk2, hk3, hk4⟩, hE⟩ := hC0
  have hA0 := hA
  obtain ⟨⟨a, haH, hS⟩, hU, hPp, hR⟩ := hA0
  have ha2 : a + 100 < 2 ^ 31 := by omega
  have hZ : okZ (sBo S bo) := okZ_bo hS.1 hbo
  have h8 := hV.1
  have h6 := hV.2.1
  obtain ⟨left, hl, hup⟩ := sup64 hV hPp
  cases c1 : inB x (nI 1) (nI 5) with
  | false => exact stp_q hm hC rfl rfl (oc_xr (av := [.ref 41, .int _, .int _]) hI rfl rfl (fun m fk A ra lo pr hm5 hfk hAZ => t_X8_roster_bad1 l (nI ke) V hV dn fb m fk 0 (by omega) A hAZ ra lo pr S a (by omega) hS left hl hup hm5 hfk x y c1)) (t_X9_roster_bad1 l e (wV V th pa ki sg kn) (sBo S bo) hV x y c1)
  | true =>
    by_cases c2 : y = (-1)
    · obtain ⟨k, hk1_, hk5, rfl⟩ := inB_ex (by omega) (by omega) c1
      obtain ⟨c0, r0, r1, r2⟩ := ro_first V S k
      have main := ro_main hV hX (okQ_of hR) hPp hl hup hk1_ hk5 r0 r1 r2
      subst c2
      refine stp_a hm hC rfl rfl (oc_xr (av := [.ref 41, .int _, .int _]) hI rfl rfl (fun m fk A ra lo pr hm5 hfk hAZ => t_X8_roster_any l (nI ke) V hV dn fb m fk k hk5 A hAZ ra lo pr S a (by omega) hS left hl hup hm5 hfk c1)) (fn_ans (t_X9_roster_ok l e (wV V th pa ki sg kn) (sBo S bo) hV hZ hE.1 k ⟨hk1_, hk5⟩ c1 (-1) (Or.inl rfl) c0 r0 (fun h => (c_isR hV E B c0 k).trans (r1 h)) (fun i hi => (c_isR hV E B i k).trans (r2 i hi))) ?_)
      have er : roA (sBo S bo) k c0 (-1) = if c0 = codes S k then (-4) else nI 1 := by
        show (if c0 = codes S k then (-4) else if ((-1) : Int32) = (-1) then nI 1 else _) = _
        rw [if_pos (rfl : ((-1) : Int32) = (-1))]
      rw [er]
      by_cases q : c0 = codes S k
      · rw [if_pos q, main.1 q]; rfl
      · rw [if_neg q, (main.2 (by omega)).1]; rfl
    · cases c3 : isB (vnf V) y with
      | false => exact stp_q hm hC rfl rfl (oc_xr (av := [.ref 41, .int _, .int _]) hI rfl rfl (fun m fk A ra lo pr hm5 hfk hAZ => t_X8_roster_bad2 l (nI ke) V hV dn fb m fk 0 (by omega) A hAZ ra lo pr S a (by omega) hS left hl hup hm5 hfk x y c1 c2 c3)) (t_X9_roster_bad2 l e (wV V th pa ki sg kn) (sBo S bo) hV x y c1 c2 c3)
      | true =>
        obtain ⟨k, hk1_, hk5, rfl⟩ := inB_ex (by omega) (by omega) c1
        obtain ⟨f, hf, rfl⟩ := isB_t (nb := vnf V) (by omega) c3
        obtain ⟨c0, r0, r1, r2⟩ := ro_first V S k
        have main := ro_main hV hX (okQ_of hR) hPp hl hup hk1_ hk5 r0 r1 r2
        have er : roA (sBo S bo) k c0 (nI f) = if c0 = codes S k then (-4) else if hb (sup S) (nI f) then nI (hoF c0 (onN (sup S) f) (onN (sup S) 8) k) else (-4) := by
          show (if c0 = codes S k then (-4) else if nI f = (-1) then nI 1 else if hb (sup S) (nI f) then nI (hoF c0 (onN (sup S) (nI f).toNatClampNeg) (onN (sup S) 8) k) else (-4)) = _
          rw [if_neg (nI_m1n (by omega) : ¬ nI f = (-1)), nI_clamp (by omega)]
        cases c4 : hb (sup S) (nI f) with
        | false =>
          refine stp_a hm hC rfl rfl (oc_xr (av := [.ref 41, .int _, .int _]) hI rfl rfl (fun m fk A ra lo pr hm5 hfk hAZ => t_X8_roster_down l (nI ke) V hV dn fb m fk k hk5 A hAZ ra lo pr S a (by omega) hS left hl hup hm5 hfk c1 f (by omega) hf c4)) (fn_ans (t_X9_roster_ok l e (wV V th pa ki sg kn) (sBo S bo) hV hZ hE.1 k ⟨hk1_, hk5⟩ c1 (nI f) (Or.inr ⟨f, hf, rfl⟩) c0 r0 (fun h => (c_isR hV E B c0 k).trans (r1 h)) (fun i hi => (c_isR hV E B i k).trans (r2 i hi))) ?_)
          rw [er, c4]
          split <;> rfl
        | true =>
          refine stp_a hm hC rfl rfl (oc_xr (av := [.ref 41, .int _, .int _]) hI rfl rfl (fun m fk A ra lo pr hm5 hfk hAZ => t_X8_roster_of l (nI ke) V hV dn fb m fk k hk5 A hAZ ra lo pr S a (by omega) hS left hl hup hm5 hfk c1 f (by omega) hf c4)) (fn_ans (t_X9_roster_ok l e (wV V th pa ki sg kn) (sBo S bo) hV hZ hE.1 k ⟨hk1_, hk5⟩ c1 (nI f) (Or.inr ⟨f, hf, rfl⟩) c0 r0 (fun h => (c_isR hV E B c0 k).trans (r1 h)) (fun i hi => (c_isR hV E B i k).trans (r2 i hi))) ?_)
          have hbit : left.testBit f = true := by rw [hup, hb_nI _ (by omega)] at c4; exact c4
          rw [er, c4]
          by_cases q : c0 = codes S k
          · rw [if_pos q, main.1 q]; rfl
          · obtain ⟨m1, m2⟩ := main.2 (by omega)
            rw [if_neg q, m1, m2 f (by omega) hbit]
set_option maxRecDepth 20000 in
theorem sp_pass (l : Launch) {H : Nat} (hH : H ≤ 100000) {w : List va_E} (h : CoI H w) (x : Int32) : Sby l M_X8_pass M_X9_pass [.int x] H w := by
  obtain ⟨ke, la, sp, n, tf, S, tn, sz, P, K, V, dn, fb, e, to, s, hI, hm, hC⟩ := h
  have hC0 := hC
  obtain ⟨⟨hV, hX, hY, hb0, th, pa, ki, sg, kn, E, hkn, rfl⟩, ⟨hA, bo, hbo, B, rfl⟩, ⟨ta, hTC, hTX⟩, ⟨hp1, hp2, hp3, hp4, hp5⟩, ⟨hk1, hk2, hk3, hk4⟩, hE⟩ := hC0
  have hA0 := hA
  obtain ⟨⟨a, haH, hS⟩, hU, hPp, hR⟩ := hA0
  have ha2 : a + 100 < 2 ^ 31 := by omega
  have hZ : okZ (sBo S bo) := okZ_bo hS.1 hbo
  have h8 := hV.1
  have h6 := hV.2.1
  cases c1 : inB x (nI 1) (nI 24) with
  | false => exact stp_q hm hC rfl rfl (by have := oc_xb hp1 hI rfl rfl (fun rb lb pb => t_X8_pass_bad l (nI ke) tn sz hp2 (P (tn % 8)) (hp4 (tn % 8)) S V hV dn fb rb lb pb a ha2 hS x c1); rwa [pu_same] at this) (t_X9_pass_bad l e (wV V th pa ki sg kn) (sBo S bo) hV x c1)
  | true =>
    obtain ⟨m, _, hm24, rfl⟩ := inB_ex (by omega) (by omega) c1
    have e1 : itP (wV V th pa ki sg kn) m (sBo S bo) = sBo (itP V m S) bo := c_it hV E m S B
    have h9 := t_X9_pass_ok l e (wV V th pa ki sg kn) (sBo S bo) hV m sz hp2 hp3 hm24 c1
    rw [e1] at h9
    exact stp_mk hm rfl rfl (oc_xb hp1 hI rfl rfl (fun rb lb pb => t_X8_pass_ok l (nI ke) tn sz hp2 (P (tn % 8)) (hp4 (tn % 8)) S V hV dn fb rb lb pb a ha2 hS m hm24 c1)) h9 (cp_rem hC ⟨okA_w (by omega) (okA_it hV m H S hA), bo, hbo, fun f hf => (B f hf).trans (by rw [it_bo]), rfl⟩)
set_option maxRecDepth 20000 in
theorem sp_down (l : Launch) {H : Nat} (hH : H ≤ 100000) {w : List va_E} (h : CoI H w) (x : Int32) : Sby l M_X8_down M_X9_down [.int x] H w := by
  obtain ⟨ke, la, sp, n, tf, S, tn, sz, P, K, V, dn, fb, e, to, s, hI, hm, hC⟩ := h
  have hC0 := hC
  obtain ⟨⟨hV, hX, hY, hb0, th, pa, ki, sg, kn, E, hkn, rfl⟩, ⟨hA, bo, hbo, B, rfl⟩, ⟨ta, hTC, hTX⟩, ⟨hp1, hp2, hp3, hp4, hp5⟩, ⟨hk1, hk2, hk3, hk4⟩, hE⟩ := hC0
  have hA0 := hA
  obtain ⟨⟨a, haH, hS⟩, hU, hPp, hR⟩ := hA0
  have ha2 : a + 100 < 2 ^ 31 := by omega
  have hZ : okZ (sBo S bo) := okZ_bo hS.1 hbo
  have h8 := hV.1
  have h6 := hV.2.1
  cases c1 : isB (vnf V) x with
  | false => exact stp_q hm hC rfl rfl (by have := oc_xb hp1 hI rfl rfl (fun rb lb pb => t_X8_down_bad l (nI ke) tn sz hp2 (P (tn % 8)) (hp4 (tn % 8)) S V hV dn fb rb lb pb a ha2 hS x c1); rwa [pu_same] at this) (t_X9_down_bad l e (wV V th pa ki sg kn) (sBo S bo) hV x c1)
  | true =>
    obtain ⟨f, hf, rfl⟩ := isB_t (nb := vnf V) (by omega) c1
    have em : mdF (wV V th pa ki sg kn) (sBo S bo) f = mdF V S f := c_md E hf
    cases c2 : mdF V S f with
    | false => exact stp_q hm hC rfl rfl (by have := oc_xb hp1 hI rfl rfl (fun rb lb pb => t_X8_down_no l (nI ke) tn sz hp2 (P (tn % 8)) (hp4 (tn % 8)) S V hV dn fb rb lb pb a ha2 hS f hf c2); rwa [pu_same] at this) (t_X9_down_no l e (wV V th pa ki sg kn) (sBo S bo) hV f hf (em.trans c2))
    | true =>
      have hu : hb (sup S) (nI f) = true := by unfold mdF at c2; rw [Bool.and_eq_true] at c2; exact c2.1
      have h9 := t_X9_down_ok l e (wV V th pa ki sg kn) (sBo S bo) hV f hf sz hp2 hp3 (em.trans c2)
      have e1 : sUp (sBo S bo) (sup (sBo S bo) ^^^ shb f) = sBo (sUp S (sup S &&& ((nI 1 <<< (nI f &&& 31)) ^^^ (-1)))) bo := congrArg (fun z => sBo (sUp S z) bo) (dn_eq (by omega) hu)
      rw [e1] at h9
      exact stp_mk hm rfl rfl (oc_xb hp1 hI rfl rfl (fun rb lb pb => t_X8_down_ok l (nI ke) tn sz hp2 (P (tn % 8)) (hp4 (tn % 8)) S V hV dn fb rb lb pb a ha2 hS f hf c2)) h9 (cp_rem hC ⟨okA_w (by omega) (okA_dn hV (f := f) hA _), bo, hbo, B, rfl⟩)
set_option maxRecDepth 20000 in
theorem sp_up (l : Launch) {H : Nat} (hH : H ≤ 100000) {w : List va_E} (h : CoI H w) (x : Int32) : Sby l M_X8_up M_X9_up [.int x] H w := by
  obtain ⟨ke, la, sp, n, tf, S, tn, sz, P, K, V, dn, fb, e, to, s, hI, hm, hC⟩ := h
  have hC0 := hC
  obtain ⟨⟨hV, hX, hY, hb0, th, pa, ki, sg, kn, E, hkn, rfl⟩, ⟨hA, bo, hbo, B, rfl⟩, ⟨ta, hTC, hTX⟩, ⟨hp1, hp2, hp3, hp4, hp5⟩, ⟨hk1, hk2, hk3, hk4⟩, hE⟩ := hC0
  have hA0 := hA
  obtain ⟨⟨a, haH, hS⟩, hU, hPp, hR⟩ := hA0
  have ha2 : a + 100 < 2 ^ 31 := by omega
  have hZ : okZ (sBo S bo) := okZ_bo hS.1 hbo
  have h8 := hV.1
  have h6 := hV.2.1
  cases c1 : isB (vnf V) x with
  | false => exact stp_q hm hC rfl rfl (by have := oc_xb hp1 hI rfl rfl (fun rb lb pb => t_X8_up_bad l (nI ke) tn sz hp2 (P (tn % 8)) (hp4 (tn % 8)) S V hV dn fb rb lb pb a ha2 hS x c1); rwa [pu_same] at this) (t_X9_up_bad l e (wV V th pa ki sg kn) (sBo S bo) hV x c1)
  | true =>
    obtain ⟨f, hf, rfl⟩ := isB_t (nb := vnf V) (by omega) c1
    have em : muF (wV V th pa ki sg kn) (sBo S bo) f = muF V S f := c_mu E B hf
    cases c2 : muF V S f with
    | false => exact stp_q hm hC rfl rfl (by have := oc_xb hp1 hI rfl rfl (fun rb lb pb => t_X8_up_no l (nI ke) tn sz hp2 (P (tn % 8)) (hp4 (tn % 8)) S V hV dn fb rb lb pb a ha2 hS f hf c2); rwa [pu_same] at this) (t_X9_up_no l e (wV V th pa ki sg kn) (sBo S bo) hV f hf (em.trans c2))
    | true =>
      have h9 := t_X9_up_ok l e (wV V th pa ki sg kn) (sBo S bo) hV f hf sz hp2 hp3 (em.trans c2)
      have e1 : uaN (wV V th pa ki sg kn) (sUp (sBo S bo) (sup (sBo S bo) ||| shb f)) f (vnf (wV V th pa ki sg kn)) = uaN V (sUp S (sup S ||| nI 1 <<< (nI f &&& 31))) f (vnf V) := c_uaN (V := V) (S := sUp S (sup S ||| nI 1 <<< (nI f &&& 31))) (bo := bo) B hf (vnf V) (Nat.le_refl _)
      rw [e1] at h9
      exact stp_mk hm rfl rfl (oc_xb hp1 hI rfl rfl (fun rb lb pb => t_X8_up_ok l (nI ke) tn sz hp2 (P (tn % 8)) (hp4 (tn % 8)) S V hV dn fb rb lb pb a ha2 hS f hf c2)) h9 (cp_rem hC ⟨okA_w (by omega) (okA_up hV hA hf c2), bo, hbo, B, rfl⟩)
set_option maxRecDepth 20000 in
theorem sp_send (l : Launch) {H : Nat} (hH : H ≤ 100000) {w : List va_E} (h : CoI H w) (x y : Int32) : Sby l M_X8_send M_X9_send [.int x, .int y] H w := by
  obtain ⟨ke, la, sp, n, tf, S, tn, sz, P, K, V, dn, fb, e, to, s, hI, hm, hC⟩ := h
  have hC0 := hC
  obtain ⟨⟨hV, hX, hY, hb0, th, pa, ki, sg, kn, E, hkn, rfl⟩, ⟨hA, bo, hbo, B, rfl⟩, ⟨ta, hTC, hTX⟩, ⟨hp1, hp2, hp3, hp4, hp5⟩, ⟨hk1, hk2, hk3, hk4⟩, hE⟩ := hC0
  have hA0 := hA
  obtain ⟨⟨a, haH, hS⟩, hU, hPp, hR⟩ := hA0
  have ha2 : a + 100 < 2 ^ 31 := by omega
  have hZ : okZ (sBo S bo) := okZ_bo hS.1 hbo
  have h8 := hV.1
  have h6 := hV.2.1
  cases c1 : isB (vnf V) x with
  | false => exact stp_q hm hC rfl rfl (by have := oc_xb hp1 hI rfl rfl (fun rb lb pb => t_X8_send_bad1 l (nI ke) tn sz hp2 (P (tn % 8)) (hp4 (tn % 8)) S V hV dn fb rb lb pb a ha2 hS x y c1); rwa [pu_same] at this) (t_X9_send_bad1 l e (wV V th pa ki sg kn) (sBo S bo) hV x y c1)
  | true =>
    cases c2 : isB (vnb V) y with
    | false => exact stp_q hm hC rfl rfl (by have := oc_xb hp1 hI rfl rfl (fun rb lb pb => t_X8_send_bad2 l (nI ke) tn sz hp2 (P (tn % 8)) (hp4 (tn % 8)) S V hV dn fb rb lb pb a ha2 hS x y c1 c2); rwa [pu_same] at this) (t_X9_send_bad2 l e (wV V th pa ki sg kn) (sBo S bo) hV x y c1 c2)
    | true =>
      obtain ⟨f, hf, rfl⟩ := isB_t (nb := vnf V) (by omega) c1
      obtain ⟨b, hb_, rfl⟩ := isB_t (nb := vnb V) (by omega) c2
      cases c3 : hb (sup S) (nI f) with
      | true => exact stp_q hm hC rfl rfl (by have := oc_xb hp1 hI rfl rfl (fun rb lb pb => t_X8_send_no l (nI ke) tn sz hp2 (P (tn % 8)) (hp4 (tn % 8)) S V hV dn fb rb lb pb a ha2 hS f hf b hb_ c3); rwa [pu_same] at this) (t_X9_send_no l e (wV V th pa ki sg kn) (sBo S bo) hV f hf b hb_ c3)
      | false =>
        have h9 := fn_ans (t_X9_send_ok l e (wV V th pa ki sg kn) (sBo S bo) hV f hf b hb_ sz hp2 hp3 c3) (v2 := some (.int (sbo S f))) (by rw [← B f hf])
        exact stp_mk hm rfl rfl (oc_xb hp1 hI rfl rfl (fun rb lb pb => t_X8_send_ok l (nI ke) tn sz hp2 (P (tn % 8)) (hp4 (tn % 8)) S V hV dn fb rb lb pb a ha2 hS f hf b hb_ c3)) h9 (cp_rem hC ⟨okA_w (by omega) (okA_bo hV hA hf hb_ c3), upd bo f (nI b), upd_z (by omega) hbo, fun g hg => by
          show upd bo f (nI b) g = upd (sbo S) f (nI b) g
          by_cases q : g = f
          · subst q; rw [pk_us, pk_us]
          · rw [pk_un q, pk_un q]; exact B g hg, rfl⟩)
set_option maxRecDepth 20000 in
theorem sp_undo (l : Launch) {H : Nat} (hH : H ≤ 100000) {w : List va_E} (h : CoI H w) : Sby l M_X8_undo M_X9_undo [] H w := by
  obtain ⟨ke, la, sp, n, tf, S, tn, sz, P, K, V, dn, fb, e, to, s, hI, hm, hC⟩ := h
  have hC0 := hC
  obtain ⟨⟨hV, hX, hY, hb0, th, pa, ki, sg, kn, E, hkn, rfl⟩, ⟨hA, bo, hbo, B, rfl⟩, ⟨ta, hTC, hTX⟩, ⟨hp1, hp2, hp3, hp4, hp5⟩, ⟨hk1, hk2, hk3, hk4⟩, hE⟩ := hC0
  have hA0 := hA
  obtain ⟨⟨a, haH, hS⟩, hU, hPp, hR⟩ := hA0
  have ha2 : a + 100 < 2 ^ 31 := by omega
  have hZ : okZ (sBo S bo) := okZ_bo hS.1 hbo
  have h8 := hV.1
  have h6 := hV.2.1
  by_cases c1 : sz = 0
  · subst c1
    obtain ⟨c1, c2, c3, ⟨p1, p2, p3, p4, p5⟩, c5, c6⟩ := cp_w (H2 := H + 24) (by omega) hC
    exact stp_mk hm rfl rfl (by have := oc_xb hp1 hI rfl rfl (fun rb lb pb => t_X8_undo_no l (nI ke) (nI tn) (tn % 8) (P (tn % 8)) (hp4 (tn % 8)) S V hV dn fb rb lb pb a ha2 hS); rwa [pu_same] at this) (t_X9_undo l e (tk (wV V th pa ki sg kn)) (pk (sBo S bo)) 0 (by omega) hp3) ⟨c1, c2, c3, ⟨p1, p2, rfl, p4, p5⟩, c5, c6⟩
  · have h9 := t_X9_undo l e (tk (wV V th pa ki sg kn)) (pk (sBo S bo)) sz hp2 hp3
    rw [if_neg c1, if_neg c1] at h9
    have hk7 : (tn + 7) % 8 < 8 := Nat.mod_lt _ (by decide)
    exact stp_mk hm rfl rfl (by have := oc_xb hk7 hI rfl rfl (fun rb lb pb => t_X8_undo_ok l (nI ke) tn sz hp2 (P ((tn + 7) % 8)) (hp4 _) S V hV dn fb rb lb pb a ha2 hS (by omega)); rwa [pu_same] at this) h9 (cp_undo hC (by omega))
set_option maxRecDepth 20000 in
theorem sp_keep (l : Launch) {H : Nat} (hH : H ≤ 100000) {w : List va_E} (h : CoI H w) : Sby l M_X8_keep M_X9_keep [] H w := by
  obtain ⟨ke, la, sp, n, tf, S, tn, sz, P, K, V, dn, fb, e, to, s, hI, hm, hC⟩ := h
  have hC0 := hC
  obtain ⟨⟨hV, hX, hY, hb0, th, pa, ki, sg, kn, E, hkn, rfl⟩, ⟨hA, bo, hbo, B, rfl⟩, ⟨ta, hTC, hTX⟩, ⟨hp1, hp2, hp3, hp4, hp5⟩, ⟨hk1, hk2, hk3, hk4⟩, hE⟩ := hC0
  have hA0 := hA
  obtain ⟨⟨a, haH, hS⟩, hU, hPp, hR⟩ := hA0
  have ha2 : a + 100 < 2 ^ 31 := by omega
  have hZ : okZ (sBo S bo) := okZ_bo hS.1 hbo
  have h8 := hV.1
  have h6 := hV.2.1
  have h9 := t_X9_keep l e (tk (wV V th pa ki sg kn)) (pk (sBo S bo)) ke hk1 hk2
  rcases (show ke = 0 ∨ ke = 1 ∨ ke = 2 by omega) with rfl | rfl | rfl
  · rw [if_neg (by decide), if_neg (by decide)] at h9
    exact stp_mk hm rfl rfl (oc_xk hI rfl rfl (t_X8_keep_0 l (nI tn) (nI sz) K hk3 S hS.1)) h9 (cp_keep hC (by omega))
  · rw [if_neg (by decide), if_neg (by decide)] at h9
    exact stp_mk hm rfl rfl (oc_xk hI rfl rfl (t_X8_keep_1 l (nI tn) (nI sz) K hk3 S hS.1)) h9 (cp_keep hC (by omega))
  · rw [if_pos rfl, if_pos rfl] at h9
    exact stp_q hm hC rfl rfl (oc_xk hI rfl rfl (t_X8_keep_full l (nI tn) (nI sz) K hk3 S hS.1)) h9
set_option maxRecDepth 20000 in
theorem sp_back (l : Launch) {H : Nat} (hH : H ≤ 100000) {w : List va_E} (h : CoI H w) : Sby l M_X8_back M_X9_back [] H w := by
  obtain ⟨ke, la, sp, n, tf, S, tn, sz, P, K, V, dn, fb, e, to, s, hI, hm, hC⟩ := h
  have hC0 := hC
  obtain ⟨⟨hV, hX, hY, hb0, th, pa, ki, sg, kn, E, hkn, rfl⟩, ⟨hA, bo, hbo, B, rfl⟩, ⟨ta, hTC, hTX⟩, ⟨hp1, hp2, hp3, hp4, hp5⟩, ⟨hk1, hk2, hk3, hk4⟩, hE⟩ := hC0
  have hA0 := hA
  obtain ⟨⟨a, haH, hS⟩, hU, hPp, hR⟩ := hA0
  have ha2 : a + 100 < 2 ^ 31 := by omega
  have hZ : okZ (sBo S bo) := okZ_bo hS.1 hbo
  have h8 := hV.1
  have h6 := hV.2.1
  have h9 := t_X9_back l e (tk (wV V th pa ki sg kn)) (pk (sBo S bo)) ke hk1 hk2
  rcases (show ke = 0 ∨ ke = 1 ∨ ke = 2 by omega) with rfl | rfl | rfl
  · rw [if_pos rfl, if_pos rfl, if_pos rfl] at h9
    exact stp_q hm hC rfl rfl (oc_xk hI rfl rfl (t_X8_back_no l (nI tn) (nI sz) K hk3 S hS.1)) h9
  · rw [if_neg (by decide), if_neg (by decide), if_neg (by decide)] at h9
    exact stp_mk hm rfl rfl (oc_xk (sz2 := 0) hI rfl rfl (t_X8_back_0 l (nI tn) (nI sz) K hk3 S hS.1)) h9 (cp_back hC (by omega))
  · rw [if_neg (by decide), if_neg (by decide), if_neg (by decide)] at h9
    exact stp_mk hm rfl rfl (oc_xk (sz2 := 0) hI rfl rfl (t_X8_back_1 l (nI tn) (nI sz) K hk3 S hS.1)) h9 (cp_back hC (by omega))
set_option maxRecDepth 20000 in
theorem sp_count (l : Launch) {H : Nat} (hH : H ≤ 100000) {w : List va_E} (h : CoI H w) (x : Int32) : Sby l M_X8_count M_X9_count [.int x] H w := by
  obtain ⟨ke, la, sp, n, tf, S, tn, sz, P, K, V, dn, fb, e, to, s, hI, hm, hC⟩ := h
  have hC0 := hC
  obtain ⟨⟨hV, hX, hY, hb0, th, pa, ki, sg, kn, E, hkn, rfl⟩, ⟨hA, bo, hbo, B, rfl⟩, ⟨ta, hTC, hTX⟩, ⟨hp1, hp2, hp3, hp4, hp5⟩, ⟨hk1, hk2, hk3, hk4⟩, hE⟩ := hC0
  have hA0 := hA
  obtain ⟨⟨a, haH, hS⟩, hU, hPp, hR⟩ := hA0
  have ha2 : a + 100 < 2 ^ 31 := by omega
  have hZ : okZ (sBo S bo) := okZ_bo hS.1 hbo
  have h8 := hV.1
  have h6 := hV.2.1
  exact stp_q hm hC rfl rfl (oc_xc hI rfl rfl (fun rb lb pb => t_X8_count_ok l (nI ke) (nI tn) (nI sz) (nI n) S V hV dn fb rb lb pb hS.2.1 hU x)) (fn_ans (t_X9_count_ok l e (wV V th pa ki sg kn) (sBo S bo) hV x) (by rw [hp3, hk2, hTX.1, c_ctA hV E B]))
set_option maxRecDepth 20000 in
theorem sp_write (l : Launch) {H : Nat} (hH : H ≤ 100000) {w : List va_E} (h : CoI H w) (x : Int32) : Sby l M_X8_write M_X9_write [.int x] H w := by
  obtain ⟨ke, la, sp, n, tf, S, tn, sz, P, K, V, dn, fb, e, to, s, hI, hm, hC⟩ := h
  have hC0 := hC
  obtain ⟨⟨hV, hX, hY, hb0, th, pa, ki, sg, kn, E, hkn, rfl⟩, ⟨hA, bo, hbo, B, rfl⟩, ⟨ta, hTC, hTX⟩, ⟨hp1, hp2, hp3, hp4, hp5⟩, ⟨hk1, hk2, hk3, hk4⟩, hE⟩ := hC0
  have hA0 := hA
  obtain ⟨⟨a, haH, hS⟩, hU, hPp, hR⟩ := hA0
  have ha2 : a + 100 < 2 ^ 31 := by omega
  have hZ : okZ (sBo S bo) := okZ_bo hS.1 hbo
  have h8 := hV.1
  have h6 := hV.2.1
  cases c1 : inB x (nI 32) (nI 126) with
  | false => exact stp_q hm hC rfl rfl (oc_xt hI rfl rfl (t_X8_write_bad l (nI ke) n tf x c1)) (t_X9_write_bad l e _ _ x c1)
  | true =>
    obtain ⟨k, hk32, hk126, rfl⟩ := inB_ex (by omega) (by omega) c1
    by_cases c2 : n = 200
    · subst c2
      exact stp_q hm hC rfl rfl (oc_xt hI rfl rfl (t_X8_write_full l (nI ke) tf k (by omega) c1)) (t_X9_write_full l e _ _ (nI k) c1 hTX.1)
    · have hn200 : n < 200 := by have := hTC.1; omega
      refine stp_mk hm rfl rfl (oc_xt hI rfl rfl (t_X8_write_ok l (nI ke) n hn200 tf k (by omega) c1)) (t_X9_write_ok l e _ _ (nI k) n hn200 c1 hTX.1) (cp_text hC ⟨fun p => if p = n then k else ta p, ⟨by omega, fun p hp => ?_⟩, ⟨rfl, by omega, fun p hp => ?_⟩⟩)
      · show upd tf n (nI k) p = nI (if p = n then k else ta p) ∧ 32 ≤ (if p = n then k else ta p) ∧ (if p = n then k else ta p) ≤ 126
        by_cases q : p = n
        · subst q; rw [pk_us, if_pos rfl]; exact ⟨rfl, hk32, hk126⟩
        · rw [pk_un q, if_neg q]; exact hTC.2 p (by omega)
      · show upd e.1 n (nI k) p = nI (if p = n then k else ta p) ∧ 32 ≤ (if p = n then k else ta p) ∧ (if p = n then k else ta p) ≤ 126
        by_cases q : p = n
        · subst q; rw [pk_us, if_pos rfl]; exact ⟨rfl, hk32, hk126⟩
        · rw [pk_un q, if_neg q]; exact hTX.2.2 p (by omega)
set_option maxRecDepth 20000 in
theorem sp_wipe (l : Launch) {H : Nat} (hH : H ≤ 100000) {w : List va_E} (h : CoI H w) : Sby l M_X8_wipe M_X9_wipe [] H w := by
  obtain ⟨ke, la, sp, n, tf, S, tn, sz, P, K, V, dn, fb, e, to, s, hI, hm, hC⟩ := h
  have hC0 := hC
  obtain ⟨⟨hV, hX, hY, hb0, th, pa, ki, sg, kn, E, hkn, rfl⟩, ⟨hA, bo, hbo, B, rfl⟩, ⟨ta, hTC, hTX⟩, ⟨hp1, hp2, hp3, hp4, hp5⟩, ⟨hk1, hk2, hk3, hk4⟩, hE⟩ := hC0
  have hA0 := hA
  obtain ⟨⟨a, haH, hS⟩, hU, hPp, hR⟩ := hA0
  have ha2 : a + 100 < 2 ^ 31 := by omega
  have hZ : okZ (sBo S bo) := okZ_bo hS.1 hbo
  have h8 := hV.1
  have h6 := hV.2.1
  exact stp_mk hm rfl rfl (oc_xt hI rfl rfl (t_X8_wipe l (nI ke) n tf)) (fn_ans (t_X9_wipe l e _ _) (by rw [hTX.1])) (cp_text hC ⟨ta, ⟨by omega, fun p hp => absurd hp (Nat.not_lt_zero p)⟩, ⟨rfl, by omega, fun p hp => absurd hp (Nat.not_lt_zero p)⟩⟩)

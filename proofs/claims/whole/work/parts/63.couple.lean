/-! 63.couple: the class and the reference side by side -/
def stP (V : WT) (H : Nat) (S : ST) (s : Nat → Int32) : Prop := okA V H S ∧ ∃ bo : Nat → Int32, (∀ j, 6 ≤ j → bo j = 0) ∧ eB (vnf V) S bo ∧ s = pk (sBo S bo)
def imP (V : WT) (H : Nat) (f : Nat → Int32) (i : Nat) (S : ST) : Prop := okA V H S ∧ ∃ bo : Nat → Int32, (∀ j, 6 ≤ j → bo j = 0) ∧ eB (vnf V) S bo ∧ ∀ j, j < 23 → f (23 * i + j) = pk (sBo S bo) j
def cW (V : WT) (fb to : Nat → Int32) : Prop := okV V ∧ okX V ∧ okY V fb ∧ 0 < vnb V ∧ ∃ th pa ki sg kn : Nat → Int32, eV V th pa ki sg kn ∧ (∀ j, 6 ≤ j → kn j = 0) ∧ to = tk (wV V th pa ki sg kn)
def cT (n : Nat) (tf : Nat → Int32) (e : MR) : Prop := ∃ ta, TC tf ta n ∧ TX e ta n
def cP (V : WT) (H tn sz : Nat) (P : Nat → ST) (e : MR) : Prop := tn % 8 < 8 ∧ sz ≤ 8 ∧ eKn e = nI sz ∧ (∀ i, okZ (P i)) ∧ ∀ i, i < sz → imP V H (ePa e) i (P ((tn + 8 - sz + i) % 8))
def cK (V : WT) (H ke : Nat) (K : Nat → ST) (e : MR) : Prop := ke ≤ 2 ∧ eKe e = nI ke ∧ (∀ i, okZ (K i)) ∧ ∀ i, i < ke → imP V H (eIm e) i (K i)
def cE (e : MR) : Prop := (∀ j, 23 ≤ j → eAs e j = 0) ∧ ∀ j, 38 ≤ j → e.2.2.1 j = 0
def CPk (H ke n : Nat) (tf : Nat → Int32) (S : ST) (tn sz : Nat) (P K : Nat → ST) (V : WT) (fb : Nat → Int32) (e : MR) (to s : Nat → Int32) : Prop := cW V fb to ∧ stP V H S s ∧ cT n tf e ∧ cP V H tn sz P e ∧ cK V H ke K e ∧ cE e
def CoI (H : Nat) (w : List va_E) : Prop := ∃ (ke la sp n : Nat) (tf : Nat → Int32) (S : ST) (tn sz : Nat) (P K : Nat → ST) (V : WT) (dn : Int32) (fb : Nat → Int32) (e : MR) (to s : Nat → Int32), I8 w (nI ke) la sp n tf S tn sz P K V dn fb ∧ bMod w e to s ∧ CPk H ke n tf S tn sz P K V fb e to s
/-- a call of both: the same answer, and side by side again -/
def Sby (l : Launch) (M8 M9 : MC) (args : List Value) (H : Nat) (w : List va_E) : Prop := ∃ (v : Int32) (Mid : List va_E → Prop), Con l M8 (.ref 0 :: args) w (fun r u => r = some (.int v) ∧ Mid u) ∧ ∀ u, Mid u → (u.length = w.length ∧ ∃ fs, u[109]? = some (.inr (9, fs))) ∧ Con l M9 (.ref 109 :: args) u (fun r u2 => r = some (.int v) ∧ CoI (H + 24) u2 ∧ u2.length = w.length)
section ST
variable {l : Launch} {M8 M9 : MC} {args : List Value} {H : Nat} {w : List va_E} {v : Int32} {ke la sp n : Nat} {tf : Nat → Int32} {S : ST} {tn sz : Nat} {P K : Nat → ST} {V : WT} {dn : Int32} {fb : Nat → Int32} {e : MR} {to s : Nat → Int32}
theorem stp_mk {ke2 la2 sp2 n2 : Nat} {tf2 : Nat → Int32} {S2 : ST} {tn2 sz2 : Nat} {P2 K2 : Nat → ST} {V2 : WT} {dn2 : Int32} {fb2 : Nat → Int32} {e2 : MR} {to2 s2 : Nat → Int32} (hm : bMod w e to s) (hav : args.map (rv (sg ps_mw)) = args) (hk : mkc M9 = 0) (h8 : Con l M8 (.ref 0 :: args) w (fun r u => r = some (.int v) ∧ I8 u (nI ke2) la2 sp2 n2 tf2 S2 tn2 sz2 P2 K2 V2 dn2 fb2 ∧ JM w u)) (h9 : Fn l M9 (.ref 0 :: args) (mw e to s) (some (.int v)) (mw e2 to2 s2)) (hC : CPk (H + 24) ke2 n2 tf2 S2 tn2 sz2 P2 K2 V2 fb2 e2 to2 s2) : Sby l M8 M9 args H w := by
  refine ⟨v, fun u => I8 u (nI ke2) la2 sp2 n2 tf2 S2 tn2 sz2 P2 K2 V2 dn2 fb2 ∧ bMod u e to s ∧ u.length = w.length, con_post h8 ?_, ?_⟩
  · rintro r u ⟨h1, h2, h3⟩
    exact ⟨h1, h2, h3.1 e to s hm, h3.2⟩
  · rintro u ⟨h1, h2, h3⟩
    refine ⟨⟨h3, _, h2.1⟩, ?_⟩
    refine con_post (oc_mw h2 hk (av := .ref 0 :: args) (av2 := .ref 109 :: args) ?_ rfl h9) ?_
    · rw [List.map_cons, hav]; rfl
    · rintro r u2 ⟨g1, g2, g3, g4⟩
      exact ⟨g1, ⟨ke2, la2, sp2, n2, tf2, S2, tn2, sz2, P2, K2, V2, dn2, fb2, e2, to2, s2, g4 _ _ _ _ _ _ _ _ _ _ _ _ _ h1, g2, hC⟩, g3.trans h3⟩
theorem imP_w {f : Nat → Int32} {i H2 : Nat} (hh : H ≤ H2) (h : imP V H f i S) : imP V H2 f i S := ⟨okA_w hh h.1, h.2⟩
theorem cp_w {H2 : Nat} (hh : H ≤ H2) (h : CPk H ke n tf S tn sz P K V fb e to s) : CPk H2 ke n tf S tn sz P K V fb e to s := by
  obtain ⟨h1, h2, h3, ⟨p1, p2, p3, p4, p5⟩, ⟨k1, k2, k3, k4⟩, h6⟩ := h
  exact ⟨h1, ⟨okA_w hh h2.1, h2.2⟩, h3, ⟨p1, p2, p3, p4, fun i hi => imP_w hh (p5 i hi)⟩, ⟨k1, k2, k3, fun i hi => imP_w hh (k4 i hi)⟩, h6⟩
theorem okZ_bo {bo : Nat → Int32} (h : okZ S) (hb_ : ∀ j, 6 ≤ j → bo j = 0) : okZ (sBo S bo) := ⟨h.1, hb_, h.2.2⟩
theorem stP_z (h : stP V H S s) : ∀ j, 23 ≤ j → s j = 0 := fun j hj => by
  obtain ⟨⟨⟨a, _, hS⟩, _⟩, bo, h1, _, rfl⟩ := h
  exact pk_big _ (okZ_bo hS.1 h1) hj
theorem cp_as (h : CPk H ke n tf S tn sz P K V fb e to s) : CPk H ke n tf S tn sz P K V fb (sAs e s) to s := by
  obtain ⟨h1, h2, h3, h4, h5, h6⟩ := h
  exact ⟨h1, h2, h3, h4, h5, stP_z h2, h6.2⟩
theorem stp_q (hm : bMod w e to s) (hC : CPk H ke n tf S tn sz P K V fb e to s) (hav : args.map (rv (sg ps_mw)) = args) (hk : mkc M9 = 0) (h8 : Con l M8 (.ref 0 :: args) w (fun r u => r = some (.int v) ∧ I8 u (nI ke) la sp n tf S tn sz P K V dn fb ∧ JM w u)) (h9 : Fn l M9 (.ref 0 :: args) (mw e to s) (some (.int v)) (mw e to s)) : Sby l M8 M9 args H w := stp_mk hm hav hk h8 h9 (cp_w (by omega) hC)
theorem stp_a (hm : bMod w e to s) (hC : CPk H ke n tf S tn sz P K V fb e to s) (hav : args.map (rv (sg ps_mw)) = args) (hk : mkc M9 = 0) (h8 : Con l M8 (.ref 0 :: args) w (fun r u => r = some (.int v) ∧ I8 u (nI ke) la sp n tf S tn sz P K V dn fb ∧ JM w u)) (h9 : Fn l M9 (.ref 0 :: args) (mw e to s) (some (.int v)) (mw (sAs e s) to s)) : Sby l M8 M9 args H w := stp_mk hm hav hk h8 h9 (cp_w (by omega) (cp_as hC))
/-- a step is remembered -/
theorem cp_rem {S2 : ST} {s2 : Nat → Int32} (h : CPk H ke n tf S tn sz P K V fb e to s) (h2 : stP V (H + 24) S2 s2) : CPk (H + 24) ke n tf S2 (tn + 1) (kpK sz) (pu P (tn % 8) S) K V fb (sPK e (kpP (ePa e) sz s) (nI (kpK sz))) to s2 := by
  obtain ⟨c1, c2, c3, c4, c5, c6⟩ := cp_w (H2 := H + 24) (by omega) h
  obtain ⟨p1, p2, p3, p4, p5⟩ := c4
  have hZ : okZ S := by obtain ⟨⟨⟨a, _, hS⟩, _⟩, _⟩ := c2; exact hS.1
  refine ⟨c1, h2, c3, ⟨Nat.mod_lt _ (by decide), by unfold kpK; split <;> omega, rfl, okZ_pu (tn % 8) p4 hZ, fun i hi => ?_⟩, c5, c6⟩
  show imP V (H + 24) (kpP (ePa e) sz s) i _
  obtain ⟨cA, bo, cz, cB, ce⟩ := c2
  unfold kpK at hi ⊢
  unfold kpP
  by_cases h8 : sz = 8
  · rw [if_pos h8] at hi ⊢
    rw [if_pos h8]
    by_cases hi7 : i = 7
    · have e1 : (tn + 1 + 8 - 8 + i) % 8 = tn % 8 := by omega
      rw [e1, pu_at]
      refine ⟨cA, bo, cz, cB, fun j hj => ?_⟩
      unfold wr
      rw [if_pos (by omega), ← ce]
      exact congrArg s (by omega)
    · have e1 : (tn + 1 + 8 - 8 + i) % 8 = (tn + 8 - sz + (i + 1)) % 8 := by omega
      rw [e1, pu_ne _ _ _ _ (by omega)]
      obtain ⟨qA, b2, qz, qB, qe⟩ := p5 (i + 1) (by omega)
      refine ⟨qA, b2, qz, qB, fun j hj => ?_⟩
      unfold wr mix
      rw [if_neg (by omega), if_pos (by omega), ← qe j hj]
      exact congrArg (ePa e) (by omega)
  · rw [if_neg h8] at hi ⊢
    rw [if_neg h8]
    by_cases his : i = sz
    · have e1 : (tn + 1 + 8 - (sz + 1) + i) % 8 = tn % 8 := by omega
      rw [e1, pu_at]
      refine ⟨cA, bo, cz, cB, fun j hj => ?_⟩
      unfold wr
      rw [if_pos (by omega), ← ce]
      exact congrArg s (by omega)
    · have e1 : (tn + 1 + 8 - (sz + 1) + i) % 8 = (tn + 8 - sz + i) % 8 := by omega
      rw [e1, pu_ne _ _ _ _ (by omega)]
      obtain ⟨qA, b2, qz, qB, qe⟩ := p5 i (by omega)
      refine ⟨qA, b2, qz, qB, fun j hj => ?_⟩
      unfold wr
      rw [if_neg (by omega), ← qe j hj]
theorem imP_st {f : Nat → Int32} {i : Nat} {T : ST} (hz : ∀ j, 23 ≤ j → s j = 0) (h : imP V H f i T) : stP V H T (mix (fun j => f (23 * i + j)) s 23) := by
  obtain ⟨hA, bo, h1, h2, h3⟩ := h
  refine ⟨hA, bo, h1, h2, ?_⟩
  funext j
  unfold mix
  by_cases q : j < 23
  · rw [if_pos q]; exact h3 j q
  · rw [if_neg q, hz j (by omega)]
    obtain ⟨⟨a, _, hS⟩, _⟩ := hA
    exact (pk_big _ (okZ_bo hS.1 h1) (by omega)).symm
theorem cp_undo (h : CPk H ke n tf S tn sz P K V fb e to s) (h0 : 0 < sz) : CPk (H + 24) ke n tf (P ((tn + 7) % 8)) (dn1 tn) (sz - 1) P K V fb (sPK e (ePa e) (nI (sz - 1))) to (mix (fun j => ePa e (23 * (sz - 1) + j)) s 23) := by
  obtain ⟨c1, c2, c3, ⟨p1, p2, p3, p4, p5⟩, c5, c6⟩ := cp_w (H2 := H + 24) (by omega) h
  have e1 : (tn + 8 - sz + (sz - 1)) % 8 = (tn + 7) % 8 := by omega
  have q := p5 (sz - 1) (by omega)
  rw [e1] at q
  refine ⟨c1, imP_st (stP_z c2) q, c3, ⟨Nat.mod_lt _ (by decide), by omega, rfl, p4, fun i hi => ?_⟩, c5, c6⟩
  have e2 : (dn1 tn + 8 - (sz - 1) + i) % 8 = (tn + 8 - sz + i) % 8 := by have := dn1_eq tn; omega
  rw [e2]
  exact p5 i (by omega)
theorem cp_keep (h : CPk H ke n tf S tn sz P K V fb e to s) (h2 : ke < 2) : CPk (H + 24) (ke + 1) n tf S tn sz P (pu K ke S) V fb (sIK e (wr (eIm e) ke s 23) (nI (ke + 1))) to s := by
  obtain ⟨c1, c2, c3, c4, ⟨k1, k2, k3, k4⟩, c6⟩ := cp_w (H2 := H + 24) (by omega) h
  have hZ : okZ S := by obtain ⟨⟨⟨a, _, hS⟩, _⟩, _⟩ := c2; exact hS.1
  refine ⟨c1, c2, c3, c4, ⟨by omega, rfl, okZ_pu ke k3 hZ, fun i hi => ?_⟩, c6⟩
  show imP V (H + 24) (wr (eIm e) ke s 23) i _
  by_cases q : i = ke
  · subst q
    rw [pu_at]
    obtain ⟨cA, bo, cz, cB, ce⟩ := c2
    refine ⟨cA, bo, cz, cB, fun j hj => ?_⟩
    unfold wr
    rw [if_pos (by omega), ← ce]
    exact congrArg s (by omega)
  · rw [pu_ne _ _ _ _ q]
    obtain ⟨qA, b2, qz, qB, qe⟩ := k4 i (by omega)
    refine ⟨qA, b2, qz, qB, fun j hj => ?_⟩
    unfold wr
    rw [if_neg (by omega)]
    exact qe j hj
theorem cp_back (h : CPk H ke n tf S tn sz P K V fb e to s) (h0 : 0 < ke) : CPk (H + 24) (ke - 1) n tf (K (ke - 1)) tn 0 P K V fb (sPK (sIK e (eIm e) (nI (ke - 1))) (ePa e) (nI 0)) to (mix (fun j => eIm e (23 * (ke - 1) + j)) s 23) := by
  obtain ⟨c1, c2, c3, ⟨p1, p2, p3, p4, p5⟩, ⟨k1, k2, k3, k4⟩, c6⟩ := cp_w (H2 := H + 24) (by omega) h
  exact ⟨c1, imP_st (stP_z c2) (k4 (ke - 1) (by omega)), c3, ⟨p1, by omega, rfl, p4, fun i hi => absurd hi (Nat.not_lt_zero i)⟩, ⟨by omega, rfl, k3, fun i hi => k4 i (by omega)⟩, c6⟩
theorem cp_text {n2 : Nat} {tf2 t2 : Nat → Int32} (h : CPk H ke n tf S tn sz P K V fb e to s) (hT : cT n2 tf2 (sTx e t2 (nI n2))) : CPk (H + 24) ke n2 tf2 S tn sz P K V fb (sTx e t2 (nI n2)) to s := by
  obtain ⟨c1, c2, c3, c4, c5, c6⟩ := cp_w (H2 := H + 24) (by omega) h
  exact ⟨c1, c2, hT, c4, c5, c6⟩
theorem oc_xs (I : I8 w (nI ke) la sp n tf S tn sz P K V dn fb) {av : List Value} (hk0 : mkc M8 = 0) (hav : av.map (rv (sg (ps_xa la sp))) = .ref 0 :: args) (hcon : ∀ fell T ra lo pr rb lb pb U un ub, okZ T → Con l M8 av (xa fell T ra lo pr rb lb pb (nI ke) S V dn fb U un ub) (fun r u => r = some (.int v) ∧ ∃ fell T ra lo pr rb lb pb, okZ T ∧ u = xa fell T ra lo pr rb lb pb (nI ke) S V dn fb U un ub)) : Con l M8 (.ref 0 :: args) w (fun r u => r = some (.int v) ∧ I8 u (nI ke) la sp n tf S tn sz P K V dn fb ∧ JM w u) := by
  refine oc_xa I hk0 hav (fun fell T ra lo pr rb lb pb U un ub hT hY => con_post (hcon fell T ra lo pr rb lb pb U un ub hT) ?_)
  rintro r u ⟨h1, f2, T2, r2, l2, p2, r3, l3, p3, hT2, hu⟩
  exact ⟨h1, f2, T2, r2, l2, p2, r3, l3, p3, U, un, ub, hT2, hY, hu⟩
end ST
theorem inB_ex {x : Int32} {a b : Nat} (q : a ≤ b) (hb_ : b < 2 ^ 31) (h : inB x (nI a) (nI b) = true) : ∃ k : Nat, a ≤ k ∧ k ≤ b ∧ x = nI k := by
  unfold inB at h
  rw [Bool.and_eq_true, decide_eq_true_eq, decide_eq_true_eq] at h
  obtain ⟨h1, h2⟩ := h
  have h0 : ¬ x < 0 := fun h => by
    rw [Int32.le_iff_toInt_le, nI_toInt (by omega)] at h1
    rw [Int32.lt_iff_toInt_lt] at h
    have : (0 : Int32).toInt = 0 := by decide
    omega
  obtain ⟨k, hk, e⟩ := nI_of2 (M := nI b) (nI_toInt hb_) h0 h2
  subst e
  exact ⟨k, (nI_leI (by omega) (by omega)).mp h1, hk, rfl⟩

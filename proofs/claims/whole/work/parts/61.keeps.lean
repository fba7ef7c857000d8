/-! 61.keeps: what every state of a run keeps -/
theorem hb_flI (V : WT) (S : ST) {j : Nat} (hj : j < 32) : ∀ k, k ≤ 32 → hb (flN V S k) (nI j) = (decide (j < k) && !hb (sfa S) (nI j) && !decide (unF V S j ≤ vpa V j))
  | 0, _ => by rw [flN, hb_0 hj, decide_eq_false (Nat.not_lt_zero j)]; rfl
  | k + 1, hk => by
    have ih := hb_flI V S hj k (by omega)
    rw [flN]
    by_cases e : j = k
    · subst e
      rw [decide_eq_true (Nat.lt_succ_self j), Bool.true_and]
      rw [decide_eq_false (Nat.lt_irrefl j), Bool.false_and, Bool.false_and] at ih
      cases hf : hb (sfa S) (nI j) with
      | true => rw [if_pos rfl, ih]; rfl
      | false =>
        rw [if_neg Bool.false_ne_true, hb_or _ _ hj, ih, Bool.false_or, Bool.not_false, Bool.true_and]
        by_cases q : unF V S j ≤ vpa V j
        · rw [if_pos q, decide_eq_true q, hb_0 hj]; rfl
        · rw [if_neg q, decide_eq_false q, hb_shb hj hj, decide_eq_true rfl]; rfl
    · have e2 : decide (j < k + 1) = decide (j < k) := decide_eq_decide.mpr (by omega)
      rw [e2, ← ih]
      split
      · rfl
      · rw [hb_or _ _ hj]
        split
        · rw [hb_0 hj, Bool.or_false]
        · rw [hb_shb (by omega) hj, decide_eq_false (fun h => e h.symm), Bool.or_false]
theorem hb_upN (V : WT) (S : ST) {j : Nat} (hj : j < 32) : ∀ k, k ≤ 32 → hb (upN V S k) (nI j) = (hb (sup S) (nI j) && (decide (k ≤ j) || !(trd V S j || hb (fa2 V S) (sbo S j))))
  | 0, _ => by rw [upN, decide_eq_true (Nat.zero_le j), Bool.true_or, Bool.and_true]
  | k + 1, hk => by
    have ih := hb_upN V S hj k (by omega)
    rw [upN, hb_and _ _ hj, ih]
    by_cases e : j = k
    · subst e
      rw [decide_eq_true (Nat.le_refl j), Bool.true_or, Bool.and_true, decide_eq_false (Nat.not_succ_le_self j), Bool.false_or]
      cases hc : (trd V S j || hb (fa2 V S) (sbo S j)) with
      | true => rw [if_pos rfl, hb_not _ hj, hb_shb hj hj, decide_eq_true rfl]
      | false => rw [if_neg Bool.false_ne_true, hb_bt (-1) hj, b_m1 j hj]; rfl
    · have e2 : decide (k + 1 ≤ j) = decide (k ≤ j) := decide_eq_decide.mpr (by omega)
      have e3 : hb (if trd V S k || hb (fa2 V S) (sbo S k) then (nI 1 <<< (nI k &&& 31)) ^^^ (-1) else (-1)) (nI j) = true := by
        split
        · rw [hb_not _ hj, hb_shb (by omega) hj, decide_eq_false (fun h => e h.symm)]; rfl
        · rw [hb_bt (-1) hj, b_m1 j hj]
      rw [e3, e2, Bool.and_true]
/-- how long bays are unheld, the fallen aside no longer than they bear -/
def okR (V : WT) (S : ST) : Prop := ∀ b, b < vnb V → ∃ u h : Nat, u ≤ 100 ∧ h ≤ 99 ∧ sun S b = nI u ∧ vpa V b = nI h ∧ (hb (sfa S) (nI b) = false → u ≤ h)
theorem okQ_of {V : WT} {S : ST} (h : okR V S) : okQ V S := fun b hb_ => by
  obtain ⟨u, _, h1, _, h2, _⟩ := h b hb_
  exact ⟨u, h1, h2⟩
def okA (V : WT) (H : Nat) (S : ST) : Prop := (∃ a, a ≤ H ∧ okS V S a) ∧ okU S ∧ okP V S ∧ okR V S
theorem okP_ps {V : WT} {S : ST} (hV : okV V) (h : okP V S) : okP V (psF V S) := fun j hj hu => by
  have h6 := hV.2.1
  have hu : hb (upN V S (vnf V)) (nI j) = true := hu
  rw [hb_upN V S hj _ (by omega), Bool.and_eq_true] at hu
  have h1 := (h j hj hu.1).1
  refine ⟨h1, ?_⟩
  have h2 := hu.2
  rw [decide_eq_false (by omega), Bool.false_or, Bool.not_eq_true', Bool.or_eq_false_iff] at h2
  exact h2.2
theorem okR_ps {V : WT} {S : ST} (hV : okV V) (h : okR V S) : okR V (psF V S) := fun b hb_ => by
  have h8 := hV.1
  obtain ⟨u, g, h1, h2, h3, h4, h5⟩ := h b hb_
  have e1 : sun (psF V S) b = unF V S b := by show mix _ _ _ _ = _; unfold mix; rw [if_pos hb_]
  have e2 : sfa (psF V S) = sfa S ||| flN V S (vnb V) := rfl
  have e3 : unF V S b = if hb (sfa S) (nI b) then sun S b else if hb (hdN V S (vnb V)) (nI b) then nI 0 else sun S b + nI 1 := rfl
  rw [e1, e2, hb_or _ _ (by omega), hb_flI V S (by omega) _ (by omega), decide_eq_true hb_, Bool.true_and]
  cases hf : hb (sfa S) (nI b) with
  | true =>
    rw [hf, if_pos rfl] at e3
    rw [e3]
    exact ⟨u, g, h1, h2, h3, h4, fun q => by cases q⟩
  | false =>
    rw [hf, if_neg Bool.false_ne_true] at e3
    have hug := h5 hf
    have key : ∀ x, x ≤ 100 → unF V S b = nI x → ∃ u h : Nat, u ≤ 100 ∧ h ≤ 99 ∧ unF V S b = nI u ∧ vpa V b = nI h ∧ ((false || (!false && !decide (unF V S b ≤ vpa V b))) = false → u ≤ h) := by
      intro x hx ex
      refine ⟨x, g, hx, h2, ex, h4, fun q => ?_⟩
      rw [ex, h4] at q
      rcases Nat.lt_or_ge g x with r | r
      · rw [decide_eq_false (nI_nle2 r (by omega))] at q
        cases q
      · exact r
    by_cases hh : hb (hdN V S (vnb V)) (nI b) = true
    · rw [if_pos hh] at e3
      exact key 0 (by omega) e3
    · rw [if_neg hh, h3, nI_add] at e3
      exact key (u + 1) (by omega) e3
theorem okA_ps {V : WT} {H : Nat} {S : ST} (hV : okV V) (h : okA V H S) : okA V (H + 1) (psF V S) := by
  obtain ⟨⟨a, ha, h1⟩, h2, h3, h4⟩ := h
  exact ⟨⟨a + 1, by omega, okS_ps hV h1⟩, okU_ps hV h2, okP_ps hV h3, okR_ps hV h4⟩
theorem okA_it {V : WT} (hV : okV V) : ∀ (n H : Nat) (S : ST), okA V H S → okA V (H + n) (itP V n S)
  | 0, _, _, h => h
  | n + 1, H, S, h => by
    have := okA_it hV n (H + 1) (psF V S) (okA_ps hV h)
    rw [itP]
    rwa [Nat.add_assoc, Nat.add_comm 1 n] at this
theorem okA_w {V : WT} {H H2 : Nat} {S : ST} (hh : H ≤ H2) (h : okA V H S) : okA V H2 S := by
  obtain ⟨⟨a, ha, h1⟩, h2⟩ := h
  exact ⟨⟨a, by omega, h1⟩, h2⟩
theorem okA_dn {V : WT} {H : Nat} {S : ST} (hV : okV V) (h : okA V H S) {f : Nat} (x : Int32) : okA V H (sUp S (sup S &&& x)) := by
  obtain ⟨h1, h2, h3, h4⟩ := h
  refine ⟨h1, ⟨okN_and _ h2.1, h2.2⟩, fun j hj hu => ?_, h4⟩
  have hu : hb (sup S &&& x) (nI j) = true := hu
  rw [hb_and _ _ hj, Bool.and_eq_true] at hu
  exact h3 j hj hu.1
theorem okA_up {V : WT} {H : Nat} {S : ST} (hV : okV V) (h : okA V H S) {f : Nat} (hf : f < vnf V) (hm : muF V S f = true) : okA V H (sUp S (sup S ||| nI 1 <<< (nI f &&& 31))) := by
  have h6 := hV.2.1
  obtain ⟨h1, h2, h3, h4⟩ := h
  refine ⟨h1, ⟨okN_or h2.1 (okN_shb (by omega)), h2.2⟩, fun j hj hu => ?_, h4⟩
  have hu : hb (sup S ||| nI 1 <<< (nI f &&& 31)) (nI j) = true := hu
  rw [hb_or _ _ hj, hb_shb (by omega) hj, Bool.or_eq_true] at hu
  rcases hu with q | q
  · exact h3 j hj q
  · have e := of_decide_eq_true q
    subst e
    refine ⟨hf, ?_⟩
    unfold muF at hm
    rw [Bool.and_eq_true, Bool.not_eq_true'] at hm
    exact hm.2
theorem okA_bo {V : WT} {H : Nat} {S : ST} (hV : okV V) (h : okA V H S) {f b : Nat} (hf : f < vnf V) (hbn : b < vnb V) (hn : hb (sup S) (nI f) = false) : okA V H (sBo S (upd (sbo S) f (nI b))) := by
  obtain ⟨⟨a, ha, h1⟩, h2, h3, h4⟩ := h
  refine ⟨⟨a, ha, okS_bo hV h1 hf hbn⟩, h2, fun j hj hu => ?_, h4⟩
  have hu : hb (sup S) (nI j) = true := hu
  have hne : j ≠ f := fun e => by subst e; rw [hn] at hu; cases hu
  have := h3 j hj hu
  refine ⟨this.1, ?_⟩
  show hb (sfa S) (upd (sbo S) f (nI b) j) = false
  rw [pk_un hne]
  exact this.2
theorem dn_eq {S : ST} {f : Nat} (hf : f < 32) (h : hb (sup S) (nI f) = true) : sup S ^^^ shb f = sup S &&& ((nI 1 <<< (nI f &&& 31)) ^^^ (-1)) := by
  refine hb_ext (fun j hj => ?_)
  unfold shb
  rw [hb_xor _ _ hj, hb_and _ _ hj, hb_not _ hj, hb_shb hf hj]
  by_cases e : f = j
  · subst e; rw [h, decide_eq_true rfl]; rfl
  · rw [decide_eq_false e]
    cases hb (sup S) (nI j) <;> rfl
/-- the state a wall begins with -/
theorem okA_cy {V : WT} {fb : Nat → Int32} (dn : Int32) (hV : okV V) (hX : okX V) (hz : ∀ j, 6 ≤ j → fb j = 0) (hB : ∀ f, f < vnf V → ∃ b : Nat, b < vnb V ∧ fb f = nI b) (H : Nat) : okA V H (cyS V dn fb) := by
  have h6 := hV.2.1
  have hm : ∀ j, j < 32 → hb (cyU V dn) (nI j) = true → j < vnf V := fun j hj hu => by
    unfold cyU at hu
    rw [hb_and _ _ hj, Bool.and_eq_true] at hu
    have h1 := hu.1
    rcases Nat.lt_or_ge j (vnf V) with q | q
    · exact q
    · exfalso
      have e : nI (2 ^ vnf V) - nI 1 = nI (2 ^ vnf V - 1) := nI_sub1 (Nat.one_le_two_pow)
      rw [e, hb_hi (n := vnf V) (Nat.sub_lt (Nat.two_pow_pos _) (by decide)) q hj] at h1
      cases h1
  refine ⟨⟨0, Nat.zero_le _, ⟨⟨fun _ _ => rfl, hz, fun _ _ => rfl⟩, hB, fun f hf => ⟨0, by omega, rfl⟩, rfl⟩⟩, ⟨okN_of (fun j h8 hj => ?_), ⟨0, by omega, rfl⟩⟩, fun j hj hu => ⟨hm j hj hu, ?_⟩, fun b hb_ => ?_⟩
  · cases hx : hb (cyU V dn) (nI j) with
    | false => exact hx
    | true => have := hm j hj hx; omega
  · obtain ⟨b, hb_, e⟩ := hB j (hm j hj hu)
    show hb (nI 0) (fb j) = false
    rw [e]
    exact hb_0 (by have := hV.1; omega)
  · obtain ⟨t, g, _, h2, _, h4⟩ := hX.1 b hb_
    exact ⟨0, g, by omega, h2, rfl, h4, fun _ => Nat.zero_le _⟩

/-! 49.more: more strength, more that are up: nothing falls sooner -/
def okX (V : WT) : Prop := (∀ b, b < vnb V → ∃ t h : Nat, t ≤ 99 ∧ h ≤ 99 ∧ vth V b = nI t ∧ vpa V b = nI h) ∧ (∀ f, f < vnf V → ∃ s : Nat, s ≤ 99 ∧ vsg V f = nI s)
abbrev sV (V : WT) (sg : Nat → Int32) : WT := (V.1, V.2.1, V.2.2.1, V.2.2.2.1, V.2.2.2.2.1, V.2.2.2.2.2.1, V.2.2.2.2.2.2.1, sg, V.2.2.2.2.2.2.2.2)
theorem ld_n {V : WT} (hX : okX V) (S : ST) {b : Nat} (hb_ : b < vnb V) : ∃ l, l ≤ 297 ∧ ldF V S b = nI l := by
  have aux : ∀ (c : Nat) (B : Bool), (B = true → c < vnb V) → ∃ k, k ≤ 99 ∧ (if B then vth V c / nI 2 else nI 0) = nI k := by
    intro c B h
    cases B with
    | false => exact ⟨0, Nat.zero_le _, rfl⟩
    | true =>
      obtain ⟨t, -, ht, -, e, -⟩ := hX.1 c (h rfl)
      refine ⟨t / 2, by omega, ?_⟩
      rw [if_pos rfl, e, pk_div (by omega) (by decide) (by decide)]
  obtain ⟨t, -, ht, -, e, -⟩ := hX.1 b hb_
  obtain ⟨k1, h1, e1⟩ := aux (b - 1) (decide (0 < b) && hb (sfa S) (nI (b - 1))) (fun _ => by omega)
  obtain ⟨k2, h2, e2⟩ := aux (b + 1) (decide (b + 1 < vnb V) && hb (sfa S) (nI (b + 1))) (fun q => by rw [Bool.and_eq_true] at q; exact of_decide_eq_true q.1)
  refine ⟨t + k1 + k2, by omega, ?_⟩
  unfold ldF
  rw [e1, e2, e, nI_add, nI_add]
/-- what each one gives to a bay: no less -/
def giv (V : WT) (S S2 : ST) (sg : Nat → Int32) : Prop := ∀ f, f < vnf V → ∀ b : Nat, ∃ k k2 : Nat, (if hb (sup S) (nI f) && decide (sbo S f = nI b) then vsg V f else nI 0) = nI k ∧ (if hb (sup S2) (nI f) && decide (sbo S2 f = nI b) then sg f else nI 0) = nI k2 ∧ k ≤ k2 ∧ k2 ≤ 99
section MO
variable {V : WT} {S S2 : ST} {sg : Nat → Int32}
theorem m_srN (hC : giv V S S2 sg) (b : Nat) : ∀ f, f ≤ vnf V → ∃ x x2 : Nat, srN V S b f = nI x ∧ srN (sV V sg) S2 b f = nI x2 ∧ x ≤ x2 ∧ x2 ≤ 99 * f
  | 0, _ => ⟨0, 0, rfl, rfl, Nat.le_refl _, Nat.le_refl _⟩
  | f + 1, h => by
    obtain ⟨x, x2, e1, e2, h1, h2⟩ := m_srN hC b f (by omega)
    obtain ⟨k, k2, e3, e4, h3, h4⟩ := hC f (by omega) b
    refine ⟨x + k, x2 + k2, ?_, ?_, by omega, by omega⟩
    · rw [srN, e1, e3, nI_add]
    · rw [srN, e2]
      show nI x2 + (if hb (sup S2) (nI f) && decide (sbo S2 f = nI b) then sg f else nI 0) = _
      rw [e4, nI_add]
theorem m_sr (hV : okV V) (hC : giv V S S2 sg) (b : Nat) : ∃ x x2 : Nat, srF V S b = nI x ∧ srF (sV V sg) S2 b = nI x2 ∧ x ≤ x2 ∧ x2 ≤ 594 := by
  obtain ⟨x, x2, e1, e2, h1, h2⟩ := m_srN hC b (vnf V) (Nat.le_refl _)
  have := hV.2.1
  exact ⟨x, x2, e1, e2, h1, by omega⟩
theorem m_ld (hfa : sfa S2 = sfa S) (b : Nat) : ldF (sV V sg) S2 b = ldF V S b := by
  unfold ldF
  rw [hfa]
theorem hp_v {x l : Nat} (hx : x ≤ 1000) (hl : l ≤ 1000) : (if nI x - nI l ≤ 0 then nI 0 else (nI x - nI l) / nI 2) = nI ((x - l) / 2) := by
  by_cases h : x ≤ l
  · rw [if_pos (by rw [Int32.le_iff_toInt_le, pk_sub_toInt (by omega) (by omega)]; show (x : Int) - l ≤ 0; omega), show x - l = 0 by omega]
  · rw [if_neg (by rw [Int32.le_iff_toInt_le, pk_sub_toInt (by omega) (by omega)]; show ¬ (x : Int) - l ≤ 0; omega), pk_sub (by omega), pk_div (by omega) (by decide) (by decide)]
theorem m_hp (hV : okV V) (hX : okX V) (hC : giv V S S2 sg) (hfa : sfa S2 = sfa S) {b : Nat} (hb_ : b < vnb V) : ∃ h h2 : Nat, hpF V S b = nI h ∧ hpF (sV V sg) S2 b = nI h2 ∧ h ≤ h2 ∧ h2 ≤ 600 := by
  obtain ⟨x, x2, e1, e2, h1, h2⟩ := m_sr hV hC b
  obtain ⟨l, hl, el⟩ := ld_n hX S hb_
  unfold hpF
  rw [hfa, m_ld hfa, e1, e2, el, hp_v (by omega) (by omega), hp_v (by omega) (by omega)]
  cases hb (sfa S) (nI b) with
  | true => exact ⟨0, 0, rfl, rfl, Nat.le_refl _, Nat.zero_le _⟩
  | false => exact ⟨(x - l) / 2, (x2 - l) / 2, rfl, rfl, by omega, by omega⟩
theorem m_hpI (hV : okV V) (hX : okX V) (hC : giv V S S2 sg) (hfa : sfa S2 = sfa S) (x : Int32) : ∃ h h2 : Nat, hpI V S x = nI h ∧ hpI (sV V sg) S2 x = nI h2 ∧ h ≤ h2 ∧ h2 ≤ 600 := by
  have h8 := hV.1
  unfold hpI
  show ∃ h h2 : Nat, (if isB (vnb V) x then hpF V S x.toNatClampNeg else nI 0) = nI h ∧ (if isB (vnb V) x then hpF (sV V sg) S2 x.toNatClampNeg else nI 0) = nI h2 ∧ h ≤ h2 ∧ h2 ≤ 600
  cases h : isB (vnb V) x with
  | false =>
    rw [if_neg Bool.false_ne_true, if_neg Bool.false_ne_true]
    exact ⟨0, 0, rfl, rfl, Nat.le_refl _, Nat.zero_le _⟩
  | true =>
    obtain ⟨b, hb_, e⟩ := isB_t (by omega) h
    have ec : x.toNatClampNeg = b := by rw [e]; exact nI_clamp (by omega)
    rw [if_pos rfl, if_pos rfl, ec]
    exact m_hp hV hX hC hfa hb_
theorem m_isH (hV : okV V) (hX : okX V) (hC : giv V S S2 sg) (hfa : sfa S2 = sfa S) {b : Nat} (hb_ : b < vnb V) (h : isH V S b = true) : isH (sV V sg) S2 b = true := by
  obtain ⟨x, x2, e1, e2, h1, h2⟩ := m_sr hV hC b
  obtain ⟨l, hl, el⟩ := ld_n hX S hb_
  obtain ⟨p, p2, e3, e4, h3, h4⟩ := m_hpI hV hX hC hfa (nI b - nI 1)
  obtain ⟨q, q2, e5, e6, h5, h6⟩ := m_hpI hV hX hC hfa (nI (b + 1))
  have pe : prF V S b = nI (x + p + q) := by unfold prF; rw [e1, e3, e5, nI_add, nI_add]
  have pe2 : prF (sV V sg) S2 b = nI (x2 + p2 + q2) := by unfold prF; rw [e2, e4, e6, nI_add, nI_add]
  unfold isH at h ⊢
  rw [hfa, m_ld hfa, pe2, el]
  rw [pe, el, Bool.and_eq_true, decide_eq_true_eq, nI_leI (by omega) (by omega)] at h
  rw [h.1, decide_eq_true (nI_le (by omega) (by omega))]
  rfl
end MO
theorem or_eq0 {x y : Int32} : x ||| y = 0 ↔ x = 0 ∧ y = 0 := by
  constructor
  · intro h
    constructor
    · refine hb_ext (fun j hj => ?_)
      have := congrArg (fun z => hb z (nI j)) h
      simp only [hb_or _ _ hj, show hb (0 : Int32) (nI j) = false from hb_0 hj, Bool.or_eq_false_iff] at this
      rw [show hb (0 : Int32) (nI j) = false from hb_0 hj]
      exact this.1
    · refine hb_ext (fun j hj => ?_)
      have := congrArg (fun z => hb z (nI j)) h
      simp only [hb_or _ _ hj, show hb (0 : Int32) (nI j) = false from hb_0 hj, Bool.or_eq_false_iff] at this
      rw [show hb (0 : Int32) (nI j) = false from hb_0 hj]
      exact this.2
  · rintro ⟨rfl, rfl⟩
    exact Int32.or_zero
theorem shb_ne0 {b : Nat} (h : b < 31) : ¬ nI 1 <<< (nI b &&& 31) = 0 := by
  rw [shl_pow h]
  exact nI_ne0 (Nat.two_pow_pos b) (Nat.pow_lt_pow_right (by decide) h)
theorem fl_0 (V : WT) (S : ST) : ∀ k, k ≤ 31 → (flN V S k = 0 ↔ ∀ b, b < k → hb (sfa S) (nI b) = false → unF V S b ≤ vpa V b)
  | 0, _ => ⟨fun _ b hb_ => absurd hb_ (Nat.not_lt_zero _), fun _ => rfl⟩
  | k + 1, hk => by
    have ih := fl_0 V S k (by omega)
    rw [flN]
    by_cases q : hb (sfa S) (nI k) = true
    · rw [if_pos q, ih]
      constructor
      · intro h b hb_ hf
        rcases Nat.lt_or_ge b k with c | c
        · exact h b c hf
        · rw [show b = k by omega, q] at hf; cases hf
      · intro h b hb_ hf
        exact h b (by omega) hf
    · rw [if_neg q, or_eq0, ih]
      constructor
      · rintro ⟨h1, h2⟩ b hb_ hf
        rcases Nat.lt_or_ge b k with c | c
        · exact h1 b c hf
        · rw [show b = k by omega]
          by_cases u : unF V S k ≤ vpa V k
          · exact u
          · rw [if_neg u] at h2
            exact absurd h2 (shb_ne0 (by omega))
      · intro h
        refine ⟨fun b hb_ hf => h b (by omega) hf, ?_⟩
        rw [if_pos (h k (by omega) (Bool.eq_false_iff.mpr q))]
        rfl
/-- no bay is unheld for longer -/
def unR (V : WT) (S S2 : ST) : Prop := ∀ b, b < vnb V → hb (sfa S) (nI b) = false → ∃ u u2 : Nat, sun S b = nI u ∧ sun S2 b = nI u2 ∧ u2 ≤ u ∧ u ≤ 100
theorem un_n {V : WT} (hV : okV V) {S : ST} {b : Nat} (hb_ : b < vnb V) (hf : hb (sfa S) (nI b) = false) {u : Nat} (hu : sun S b = nI u) : unF V S b = nI (if isH V S b then 0 else u + 1) := by
  have h8 := hV.1
  unfold unF
  rw [hf, hb_hdN V S (by omega) _ (by omega), decide_eq_true hb_, Bool.true_and, hu]
  cases isH V S b with
  | true => rfl
  | false => exact nI_add u 1
theorem m_step {V : WT} {S S2 : ST} {sg : Nat → Int32} (hV : okV V) (hX : okX V) (hC : giv V S S2 sg) (hfa : sfa S2 = sfa S) (hU : unR V S S2) (h0 : flN V S (vnb V) = 0) : flN (sV V sg) S2 (vnb V) = 0 ∧ unR V (psF V S) (psF (sV V sg) S2) := by
  have h8 := hV.1
  have h1 := (fl_0 V S _ (by omega)).mp h0
  have key : ∀ b, b < vnb V → hb (sfa S) (nI b) = false → ∃ u u2 : Nat, unF V S b = nI u ∧ unF (sV V sg) S2 b = nI u2 ∧ u2 ≤ u ∧ u ≤ 99 ∧ nI u ≤ vpa V b := by
    intro b hb_ hf
    obtain ⟨u, u2, e1, e2, l1, l2⟩ := hU b hb_ hf
    have g1 := un_n hV hb_ hf e1
    have g2 := un_n (V := sV V sg) hV hb_ (by rw [hfa]; exact hf) e2
    have g3 := h1 b hb_ hf
    obtain ⟨-, h, -, hh, -, ev⟩ := hX.1 b hb_
    refine ⟨_, _, g1, g2, ?_, ?_, by rw [← g1]; exact g3⟩
    · cases hq : isH V S b with
      | true => rw [m_isH hV hX hC hfa hb_ hq]; exact Nat.le_refl _
      | false =>
        cases isH (sV V sg) S2 b with
        | true => exact Nat.zero_le _
        | false => show u2 + 1 ≤ u + 1; omega
    · rw [g1, ev, nI_leI (by split <;> omega) (by omega)] at g3
      omega
  refine ⟨(fl_0 (sV V sg) S2 _ (by omega)).mpr (fun b hb_ hf => ?_), fun b hb_ hf => ?_⟩
  · obtain ⟨u, u2, e1, e2, l1, l2, l3⟩ := key b hb_ (by rw [← hfa]; exact hf)
    rw [e2]
    show nI u2 ≤ vpa V b
    exact Int32.le_trans (nI_le l1 (by omega)) l3
  · rw [(fl_fa hV S).mpr h0] at hf
    obtain ⟨u, u2, e1, e2, l1, l2, l3⟩ := key b hb_ hf
    refine ⟨u, u2, ?_, ?_, l1, by omega⟩
    · show un2 V S b = _
      unfold un2
      rw [mix_lt hb_, e1]
    · show un2 (sV V sg) S2 b = _
      unfold un2
      rw [mix_lt (show b < vnb (sV V sg) from hb_), e2]
/-! one that is stronger: only how long bays are unheld differs -/
section MS
variable {V : WT} {S : ST} {sg un : Nat → Int32}
theorem s_alN (f : Nat) : ∀ g, alN (sV V sg) (sUn S un) f g = alN V S f g
  | 0 => rfl
  | g + 1 => by rw [alN, alN, s_alN f g]
theorem s_hrd (f : Nat) : hrd (sV V sg) (sUn S un) f = hrd V S f := by
  unfold hrd alF
  rw [s_alN f]
theorem s_twN : ∀ f, twN (sV V sg) (sUn S un) f = twN V S f
  | 0 => rfl
  | f + 1 => by rw [twN, twN, s_twN f, s_hrd f]
theorem s_ti (f : Nat) : tiF (sV V sg) (sUn S un) f = tiF V S f := by
  unfold tiF moF rsF
  rw [s_twN]
theorem s_trd (f : Nat) : trd (sV V sg) (sUn S un) f = trd V S f := by
  unfold trd
  rw [s_ti]
  rfl
theorem s_upN (h : fa2 (sV V sg) (sUn S un) = fa2 V S) : ∀ f, upN (sV V sg) (sUn S un) f = upN V S f
  | 0 => rfl
  | f + 1 => by rw [upN, upN, s_upN h f, s_trd f, h]
theorem s_ps (h : flN V S (vnb V) = 0) (h2 : flN (sV V sg) (sUn S un) (vnb V) = 0) : psF (sV V sg) (sUn S un) = sUn (psF V S) (un2 (sV V sg) (sUn S un)) := by
  have e : fa2 (sV V sg) (sUn S un) = fa2 V S := by
    unfold fa2
    show sfa S ||| flN (sV V sg) (sUn S un) (vnb V) = _
    rw [h, h2]
  have e2 : ti2 (sV V sg) (sUn S un) = ti2 V S := by
    unfold ti2
    rw [show tiF (sV V sg) (sUn S un) = tiF V S from funext s_ti]
  show (sho S + nI 1, upN (sV V sg) (sUn S un) (vnf V), fa2 (sV V sg) (sUn S un), ti2 (sV V sg) (sUn S un), sbo S, un2 (sV V sg) (sUn S un)) = _
  rw [s_upN e, e, e2]
  rfl
end MS
theorem giv_sg {V : WT} {S : ST} {sg un : Nat → Int32} (h : ∀ f, f < vnf V → ∃ k k2 : Nat, vsg V f = nI k ∧ sg f = nI k2 ∧ k ≤ k2 ∧ k2 ≤ 99) : giv V S (sUn S un) sg := fun f hf b => by
  obtain ⟨k, k2, e1, e2, h1, h2⟩ := h f hf
  show ∃ k k2 : Nat, (if hb (sup S) (nI f) && decide (sbo S f = nI b) then vsg V f else nI 0) = nI k ∧ (if hb (sup S) (nI f) && decide (sbo S f = nI b) then sg f else nI 0) = nI k2 ∧ _
  cases hb (sup S) (nI f) && decide (sbo S f = nI b) with
  | true => exact ⟨k, k2, e1, e2, h1, h2⟩
  | false => exact ⟨0, 0, rfl, rfl, Nat.le_refl _, Nat.zero_le _⟩
theorem m_flR {V : WT} {sg : Nat → Int32} (hV : okV V) (hX : okX V) (h : ∀ f, f < vnf V → ∃ k k2 : Nat, vsg V f = nI k ∧ sg f = nI k2 ∧ k ≤ k2 ∧ k2 ≤ 99) (fa : Int32) : ∀ (n : Nat) (S : ST) (un : Nat → Int32), sfa S = fa → unR V S (sUn S un) → (flR V fa n S).1 ≤ (flR (sV V sg) fa n (sUn S un)).1
  | 0, S, un, _, _ => Nat.le_refl _
  | n + 1, S, un, hfa, hU => by
    rw [flR, flR, if_pos hfa, if_pos (show sfa (sUn S un) = fa from hfa)]
    show (flR V fa n (psF V S)).1 + 1 ≤ (flR (sV V sg) fa n (psF (sV V sg) (sUn S un))).1 + 1
    by_cases q : flN V S (vnb V) = 0
    · obtain ⟨h2, hU2⟩ := m_step (S2 := sUn S un) hV hX (giv_sg (un := un) h) rfl hU q
      rw [s_ps q h2] at hU2 ⊢
      have := m_flR hV hX h fa n (psF V S) (un2 (sV V sg) (sUn S un)) (((fl_fa hV S).mpr q).trans hfa) hU2
      omega
    · rw [flR_0 V (fun e => q ((fl_fa hV S).mp (e.trans hfa.symm)))]
      show 0 + 1 ≤ _
      omega
/-- how long bays are unheld -/
def okQ (V : WT) (S : ST) : Prop := ∀ b, b < vnb V → ∃ u : Nat, u ≤ 100 ∧ sun S b = nI u
theorem unR_rf {V : WT} {S : ST} (h : okQ V S) : unR V S S := fun b hb_ _ => by
  obtain ⟨u, hu, e⟩ := h b hb_
  exact ⟨u, u, e, e, Nat.le_refl _, hu⟩
theorem okX_sg {V : WT} (hX : okX V) (f v : Nat) (hv : v ≤ 99) : okX (vSg V f (nI v)) := ⟨hX.1, fun g hg => by
  show ∃ s, s ≤ 99 ∧ upd (vsg V) f (nI v) g = nI s
  by_cases e : g = f
  · subst e; exact ⟨v, hv, pk_us⟩
  · rw [pk_un e]; exact hX.2 g hg⟩
theorem sgK_mono {V : WT} (hV : okV V) (hX : okX V) {S : ST} (hQ : okQ V S) (f : Nat) {v w : Nat} (hvw : v ≤ w) (hw : w ≤ 99) : sgK V S f v ≤ sgK V S f w := by
  have hh : ∀ g, g < vnf V → ∃ k k2 : Nat, vsg (vSg V f (nI v)) g = nI k ∧ upd (vsg V) f (nI w) g = nI k2 ∧ k ≤ k2 ∧ k2 ≤ 99 := by
    intro g hg
    show ∃ k k2 : Nat, upd (vsg V) f (nI v) g = nI k ∧ _
    by_cases e : g = f
    · subst e; exact ⟨v, w, pk_us, pk_us, hvw, hw⟩
    · rw [pk_un e, pk_un e]
      obtain ⟨s, hs, es⟩ := hX.2 g hg
      exact ⟨s, s, es, es, Nat.le_refl _, hs⟩
  exact m_flR (V := vSg V f (nI v)) (sg := upd (vsg V) f (nI w)) hV (okX_sg hX f v (by omega)) hh (sfa S) 61 S (sun S) rfl (unR_rf (V := vSg V f (nI v)) hQ)
/-- the least strength that does: there is one, and all that are no less do too -/
theorem sgK_ex {V : WT} (hV : okV V) (hX : okX V) {S : ST} (hQ : okQ V S) (f : Nat) : ∃ r, (1 ≤ r ∧ r ≤ 99) ∧ sgK V S f r = sgK V S f 99 ∧ (∀ i, 1 ≤ i → i < r → ¬ sgK V S f i = sgK V S f 99) ∧ ∀ i, r ≤ i → i ≤ 99 → sgK V S f i = sgK V S f 99 := by
  obtain ⟨k, hk, hmin⟩ := pk_least (fun k => 1 ≤ k ∧ sgK V S f k = sgK V S f 99) ⟨99, by decide, rfl⟩
  have hk99 : k ≤ 99 := by
    rcases Nat.lt_or_ge 99 k with q | q
    · exact absurd ⟨by decide, rfl⟩ (hmin 99 q)
    · exact q
  refine ⟨k, ⟨hk.1, hk99⟩, hk.2, fun i h1 h2 h3 => hmin i h2 ⟨h1, h3⟩, fun i h1 h2 => ?_⟩
  have a := sgK_mono hV hX hQ f h1 h2
  have b := sgK_mono hV hX hQ f h2 (Nat.le_refl _)
  have c := hk.2
  omega
theorem sgK_pos (V : WT) (S : ST) (f v : Nat) : 1 ≤ sgK V S f v := by
  unfold sgK fk
  rw [flR, if_pos rfl]
  show 1 ≤ _ + 1
  omega

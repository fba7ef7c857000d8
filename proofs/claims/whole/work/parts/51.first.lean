/-! 51.first: rosters: the class's answer is the reference's -/
/-- who comes down ahead of an hour, who goes up again -/
def curB (left h : Nat) (d : Nat → Nat) : Nat := bB (fun f => left.testBit f && decide (d f = h)) 6
def prvB (left h : Nat) (d : Nat → Nat) : Nat := bB (fun f => left.testBit f && decide (d f + 1 = h)) 6
def lftB (left h : Nat) (d : Nat → Nat) : Nat := bB (fun f => left.testBit f && decide (h ≤ d f)) 6
theorem b6 (P : Nat → Bool) {j : Nat} (hj : j < 6) : (bB P 6).testBit j = P j := by rw [bB_bit, decide_eq_true hj, Bool.true_and]
theorem b6_hi (P : Nat → Bool) {j : Nat} (h6 : 6 ≤ j) (hj : j < 32) : hb (nI (bB P 6)) (nI j) = false := hb_hi (bB_lt P 6) h6 hj
theorem nI_prev {d h : Nat} (hd : d < 1000) (hh : h < 1000) : (nI d = nI h - nI 1) ↔ d + 1 = h := by
  cases h with
  | zero =>
    constructor
    · intro e
      have := congrArg Int32.toInt e
      rw [nI_toInt (by omega), pk_sub_toInt (by decide) (by decide)] at this
      omega
    · intro e; omega
  | succ h =>
    rw [nI_sub1 (by omega), show h + 1 - 1 = h from rfl, nI_eq (by omega) (by omega)]
    omega
section RO
variable {V : WT} {S : ST} {left n c : Nat}
/-- ahead of an hour: bit by bit -/
theorem ro_bits (hl : left < 64) (hup : sup S = nI left) (hP : okP V S) (hn : 1 ≤ n) (hn5 : n ≤ 5) (h : Nat) (hh : h < n) {T : ST} (hfa : sfa T = sfa S) (hbo : sbo T = sbo S) : ∀ k, k ≤ 8 →
    (∃ u, roN S c n h T k = sUp T u) ∧ ∀ j, j < 32 → hb (sup (roN S c n h T k)) (nI j) = if decide (j < k) && hb (nI left) (nI j) then (if dg left n c j + 1 = h then true else if dg left n c j = h then false else hb (sup T) (nI j)) else hb (sup T) (nI j)
  | 0, _ => ⟨⟨sup T, rfl⟩, fun j hj => by rw [roN, decide_eq_false (Nat.not_lt_zero _), Bool.false_and]; rfl⟩
  | k + 1, hk => by
    obtain ⟨⟨u, eu⟩, ih⟩ := ro_bits hl hup hP hn hn5 h hh hfa hbo k (by omega)
    have hd : hoF c (onN (sup S) k) (onN (sup S) 8) n = dg left n c k := by rw [hup]; rfl
    have hdl : dg left n c k < n := dg_lt hn
    have keep : ∀ j, ¬ j = k → (decide (j < k + 1) && hb (nI left) (nI j)) = (decide (j < k) && hb (nI left) (nI j)) := fun j e => by
      rw [show decide (j < k + 1) = decide (j < k) from decide_eq_decide.mpr (by omega)]
    have at_k : hb (sup (roN S c n h T k)) (nI k) = hb (sup T) (nI k) := by
      rw [ih k (by omega), decide_eq_false (Nat.lt_irrefl _), Bool.false_and]; rfl
    rw [roN]
    unfold roS
    rw [hd, hup]
    by_cases q : hb (nI left) (nI k) = true
    · rw [if_pos q]
      by_cases q1 : dg left n c k + 1 = h
      · rw [if_pos ((nI_prev (by omega) (by omega)).mpr q1)]
        have hst : hb (sfa (roN S c n h T k)) (sbo (roN S c n h T k) k) = false := by
          rw [eu]
          show hb (sfa T) (sbo T k) = false
          rw [hfa, hbo]
          exact (hP k (by omega) (by rw [hup]; exact q)).2
        have er : riS (roN S c n h T k) k = sUp T (sup (roN S c n h T k) ||| nI 1 <<< (nI k &&& 31)) := by
          unfold riS
          rw [hst, if_neg Bool.false_ne_true, eu]
        refine ⟨⟨_, er⟩, fun j hj => ?_⟩
        rw [er]
        show hb (sup (roN S c n h T k) ||| nI 1 <<< (nI k &&& 31)) (nI j) = _
        rw [hb_or _ _ hj, hb_shb (by omega) hj, ih j hj]
        by_cases e : j = k
        · subst e
          rw [decide_eq_true rfl, Bool.or_true, decide_eq_true (Nat.lt_succ_self _), q, Bool.true_and, if_pos rfl, if_pos q1]
        · rw [decide_eq_false (show ¬ k = j from fun x => e x.symm), Bool.or_false, keep j e]
      · rw [if_neg (fun x => q1 ((nI_prev (by omega) (by omega)).mp x))]
        by_cases q2 : dg left n c k = h
        · rw [if_pos (congrArg nI q2)]
          refine ⟨⟨_, by rw [eu]⟩, fun j hj => ?_⟩
          show hb (sup (roN S c n h T k) &&& ((nI 1 <<< (nI k &&& 31)) ^^^ (-1))) (nI j) = _
          rw [hb_and _ _ hj, hb_not _ hj, hb_shb (by omega) hj, ih j hj]
          by_cases e : j = k
          · subst e
            rw [decide_eq_true rfl, Bool.not_true, Bool.and_false, decide_eq_true (Nat.lt_succ_self _), q, Bool.true_and, if_pos rfl, if_neg q1, if_pos q2]
          · rw [decide_eq_false (show ¬ k = j from fun x => e x.symm), Bool.not_false, Bool.and_true, keep j e]
        · rw [if_neg (fun x => q2 ((nI_eq (by omega) (by omega)).mp x))]
          refine ⟨⟨u, eu⟩, fun j hj => ?_⟩
          by_cases e : j = k
          · subst e
            rw [at_k, decide_eq_true (Nat.lt_succ_self _), q, Bool.true_and, if_pos rfl, if_neg q1, if_neg q2]
          · rw [ih j hj, keep j e]
    · rw [if_neg q]
      rw [Bool.not_eq_true] at q
      refine ⟨⟨u, eu⟩, fun j hj => ?_⟩
      by_cases e : j = k
      · subst e
        rw [at_k, q, Bool.and_false]; rfl
      · rw [ih j hj, keep j e]
theorem ro_eq (hV : okV V) (hl : left < 64) (hup : sup S = nI left) (hP : okP V S) (hn : 1 ≤ n) (hn5 : n ≤ 5) (h : Nat) (hh : h < n) {T : ST} (hfa : sfa T = sfa S) (hbo : sbo T = sbo S) : roN S c n h T (vnf V) = dnS (sUp T (sup T ||| nI (prvB left h (dg left n c)))) (curB left h (dg left n c)) := by
  have h6 := hV.2.1
  obtain ⟨⟨u, eu⟩, ih⟩ := ro_bits (c := c) hl hup hP hn hn5 h hh hfa hbo (vnf V) (by omega)
  have key : sup (roN S c n h T (vnf V)) = (sup T ||| nI (prvB left h (dg left n c))) &&& (nI (curB left h (dg left n c)) ^^^ (-1)) := by
    refine hb_ext (fun j hj => ?_)
    rw [ih j hj, hb_and _ _ hj, hb_not _ hj, hb_or _ _ hj]
    by_cases j6 : j < 6
    · rw [hb_nI _ hj, hb_nI _ hj, hb_nI _ hj]
      unfold prvB curB
      rw [b6 _ j6, b6 _ j6]
      cases hx : left.testBit j with
      | false => rw [Bool.and_false, if_neg Bool.false_ne_true, Bool.false_and, Bool.false_and, Bool.or_false, Bool.not_false, Bool.and_true]
      | true =>
        have := (hP j hj (by rw [hup, hb_nI _ hj]; exact hx)).1
        rw [decide_eq_true this, Bool.true_and, if_pos rfl, Bool.true_and, Bool.true_and]
        by_cases q1 : dg left n c j + 1 = h
        · rw [if_pos q1, decide_eq_true q1, decide_eq_false (show ¬ dg left n c j = h by omega), Bool.or_true]; rfl
        · rw [if_neg q1, decide_eq_false q1, Bool.or_false]
          by_cases q2 : dg left n c j = h
          · rw [if_pos q2, decide_eq_true q2, Bool.not_true, Bool.and_false]
          · rw [if_neg q2, decide_eq_false q2, Bool.not_false, Bool.and_true]
    · rw [decide_eq_false (show ¬ j < vnf V by omega), Bool.false_and, if_neg Bool.false_ne_true]
      unfold prvB curB
      rw [b6_hi _ (by omega) hj, b6_hi _ (by omega) hj, Bool.or_false, Bool.not_false, Bool.and_true]
  rw [eu] at key ⊢
  have key : u = _ := key
  rw [key]
theorem cur_off (h : Nat) (d : Nat → Nat) : offQ (lftB left h d) (fun f => d f - h) = curB left h d := bit_ext (off_lt _ _) (bB_lt _ 6) (fun j hj => by
  rw [off_bit _ _ hj]
  unfold lftB curB
  rw [b6 _ hj, b6 _ hj]
  by_cases q : d j = h
  · rw [decide_eq_true q, decide_eq_true (show h ≤ d j by omega), decide_eq_true (show d j - h = 0 by omega)]
    cases left.testBit j <;> rfl
  · rw [decide_eq_false q]
    by_cases q2 : h ≤ d j
    · rw [decide_eq_false (show ¬ d j - h = 0 by omega), Bool.and_false, Bool.and_false]
    · rw [decide_eq_false q2, Bool.and_false, Bool.false_and])
theorem lft_next (h : Nat) (d : Nat → Nat) : lftB left h d - curB left h d = lftB left (h + 1) d := by
  rw [← cur_off]
  refine bit_ext (by have := bB_lt (fun f => left.testBit f && decide (h ≤ d f)) 6; unfold lftB; omega) (bB_lt _ 6) (fun j hj => ?_)
  rw [stay_bit (left := lftB left h d) (bB_lt _ 6) _ hj]
  unfold lftB
  rw [b6 _ hj, b6 _ hj]
  cases left.testBit j with
  | false => rfl
  | true =>
    rw [Bool.true_and, Bool.true_and]
    by_cases q : h + 1 ≤ d j
    · rw [decide_eq_true q, decide_eq_true (show h ≤ d j by omega), decide_eq_false (show ¬ d j - h = 0 by omega)]; rfl
    · rw [decide_eq_false q]
      by_cases q2 : h ≤ d j
      · rw [decide_eq_true (show d j - h = 0 by omega), Bool.not_true, Bool.and_false]
      · rw [decide_eq_false q2, Bool.false_and]
/-- the reference's way through the hours is the class's -/
theorem rs_vs (hV : okV V) (hl : left < 64) (hup : sup S = nI left) (hP : okP V S) (hn : 1 ≤ n) (hn5 : n ≤ 5) : ∀ (i h : Nat) (T : ST), h + i = n → sfa T = sfa S → sbo T = sbo S → (rsO V S c n i h T).1 = vS V i (sUp T (sup T ||| nI (prvB left h (dg left n c)))) (lftB left h (dg left n c)) (fun f => dg left n c f - h)
  | 0, h, T, _, _, _ => rfl
  | i + 1, h, T, hi, hfa, hbo => by
    rw [rsO, vS, cur_off, lft_next, ro_eq (c := c) hV hl hup hP hn hn5 h (by omega) hfa hbo]
    have hB : sfa (dnS (sUp T (sup T ||| nI (prvB left h (dg left n c)))) (curB left h (dg left n c))) = sfa S := hfa
    by_cases q : flN V (dnS (sUp T (sup T ||| nI (prvB left h (dg left n c)))) (curB left h (dg left n c))) (vnb V) = 0
    · have e1 := ((fl_fa hV _).mpr q).trans hB
      rw [if_pos e1, decide_eq_true q, Bool.true_and, rs_vs hV hl hup hP hn hn5 i (h + 1) _ (by omega) e1 hbo]
      have e2 : prvB left (h + 1) (dg left n c) = curB left h (dg left n c) := by
        unfold prvB curB
        congr 1
        funext f
        rw [show decide (dg left n c f + 1 = h + 1) = decide (dg left n c f = h) from decide_eq_decide.mpr (by omega)]
      rw [e2]
      have e3 : (fun f => dg left n c f - h - 1) = fun f => dg left n c f - (h + 1) := by
        funext f
        omega
      show _ = vS V i _ _ (fun f => dg left n c f - h - 1)
      rw [e3]
    · have e1 : ¬ sfa (psF V (dnS (sUp T (sup T ||| nI (prvB left h (dg left n c)))) (curB left h (dg left n c)))) = sfa S := fun x => q ((fl_fa hV _).mp (x.trans hB.symm))
      rw [if_neg e1, decide_eq_false q]
      rfl
theorem isR_vs (hV : okV V) (hl : left < 64) (hup : sup S = nI left) (hP : okP V S) (hn : 1 ≤ n) (hn5 : n ≤ 5) : isR V S c n = vS V n S left (dg left n c) := by
  unfold isR
  rw [rs_vs hV hl hup hP hn hn5 n 0 S (by omega) rfl rfl]
  have e1 : prvB left 0 (dg left n c) = 0 := bit_ext (bB_lt _ 6) (by decide) (fun j hj => by
    unfold prvB
    rw [b6 _ hj, decide_eq_false (by omega), Bool.and_false, Nat.zero_testBit])
  have e2 : lftB left 0 (dg left n c) = left := bit_ext (bB_lt _ 6) hl (fun j hj => by
    unfold lftB
    rw [b6 _ hj, decide_eq_true (Nat.zero_le _), Bool.and_true])
  rw [e1, e2, or_0]
  rfl
end RO
/-- no roster holds where a bay falls although all stay up -/
theorem vs_ho {V : WT} (hV : okV V) (hX : okX V) {u : Int32} : ∀ (k : Nat) (A T : ST) (left : Nat) (q : Nat → Nat), left < 64 → vS V k A left q = true → sfa T = sfa A → sbo T = sbo A → unR V A T → (∀ j, j < 32 → hb (sup A) (nI j) = true → hb u (nI j) = true) → (∀ j, j < 6 → left.testBit j = true → hb u (nI j) = true) → hoL V u k T = false
  | 0, _, _, _, _, _, _, _, _, _, _, _ => rfl
  | k + 1, A, T, left, q, hl, hv, hfa, hbo, hU, hA, hL => by
    have h6 := hV.2.1
    rw [vS, Bool.and_eq_true, decide_eq_true_eq] at hv
    have hsub : ∀ j, j < 32 → hb (sup (dnS A (offQ left q))) (nI j) = true → hb u (nI j) = true := fun j hj h => by
      have h : hb (sup A &&& (nI (offQ left q) ^^^ (-1))) (nI j) = true := h
      rw [hb_and _ _ hj, Bool.and_eq_true] at h
      exact hA j hj h.1
    have hC : giv V (dnS A (offQ left q)) (sUp T u) (vsg V) := fun f hf b => by
      obtain ⟨s, hs, es⟩ := hX.2 f hf
      have e0 : sbo (sUp T u) f = sbo (dnS A (offQ left q)) f := by show sbo T f = sbo A f; rw [hbo]
      rw [e0]
      show ∃ k k2 : Nat, _ ∧ (if hb u (nI f) && decide (sbo (dnS A (offQ left q)) f = nI b) then vsg V f else nI 0) = nI k2 ∧ _
      cases hx : hb (sup (dnS A (offQ left q))) (nI f) with
      | false =>
        rw [Bool.false_and, if_neg Bool.false_ne_true]
        cases hb u (nI f) && decide (sbo (dnS A (offQ left q)) f = nI b) with
        | true => exact ⟨0, s, rfl, es, Nat.zero_le _, hs⟩
        | false => exact ⟨0, 0, rfl, rfl, Nat.le_refl _, Nat.zero_le _⟩
      | true =>
        rw [hsub f (by omega) hx]
        cases true && decide (sbo (dnS A (offQ left q)) f = nI b) with
        | true => exact ⟨s, s, es, es, Nat.le_refl _, hs⟩
        | false => exact ⟨0, 0, rfl, rfl, Nat.le_refl _, Nat.zero_le _⟩
    obtain ⟨f1, f2⟩ := m_step hV hX hC (show sfa (sUp T u) = sfa (dnS A (offQ left q)) from hfa) hU hv.1
    have f1 : flN V (sUp T u) (vnb V) = 0 := f1
    have f2 : unR V (psF V (dnS A (offQ left q))) (psF V (sUp T u)) := f2
    rw [hoL, if_pos f1]
    refine vs_ho hV hX k (upS V A (offQ left q)) (psF V (sUp T u)) (left - offQ left q) (fun f => q f - 1) (by omega) hv.2 ?_ hbo f2 (fun j hj h => ?_) (fun j hj h => ?_)
    · show sfa (psF V (sUp T u)) = sfa (psF V (dnS A (offQ left q)))
      rw [(fl_fa hV _).mpr f1, (fl_fa hV _).mpr hv.1]
      exact hfa
    · have h : hb (sup (psF V (dnS A (offQ left q))) ||| nI (offQ left q)) (nI j) = true := h
      rw [hb_or _ _ hj, Bool.or_eq_true] at h
      rcases h with h | h
      · refine hsub j hj ?_
        have : ∀ m, hb (upN V (dnS A (offQ left q)) m) (nI j) = true → hb (sup (dnS A (offQ left q))) (nI j) = true := fun m => by
          induction m with
          | zero => exact fun x => x
          | succ m ih =>
            intro x
            rw [upN, hb_and _ _ hj, Bool.and_eq_true] at x
            exact ih x.1
        exact this _ h
      · rw [hb_nI _ hj] at h
        by_cases j6 : j < 6
        · rw [off_bit _ _ j6, Bool.and_eq_true] at h
          exact hL j j6 h.1
        · have hp : 2 ^ 6 ≤ 2 ^ j := Nat.pow_le_pow_right (by decide) (by omega)
          have := off_lt left q
          rw [Nat.testBit_lt_two_pow (show offQ left q < 2 ^ j by omega)] at h
          cases h
    · rw [stay_bit hl q hj, Bool.and_eq_true] at h
      exact hL j hj h.1
/-- the class's answer is the reference's -/
theorem ro_main {V : WT} (hV : okV V) (hX : okX V) {S : ST} (hQ : okQ V S) (hP : okP V S) {left n : Nat} (hl : left < 64) (hup : sup S = nI left) (hn : 1 ≤ n) (hn5 : n ≤ 5) {c0 : Nat} (hc0 : c0 ≤ codes S n) (hc1 : c0 < codes S n → isR V S c0 n = true) (hc2 : ∀ i, i < c0 → isR V S i n = false) :
    (c0 = codes S n → fiB V S n left = false) ∧ (c0 < codes S n → fiB V S n left = true ∧ ∀ f, f < 6 → left.testBit f = true → trH V n S left 0 262144 / 8 ^ (5 - f) % 8 = hoF c0 (onN (sup S) f) (onN (sup S) 8) n) := by
  have ecd : codes S n = n ^ onN (nI left) 8 := by unfold codes; rw [hup]
  have hex := tr_ex V n S left 0 262144 hl (fun h => by omega)
  have plan : ∀ q : Nat → Nat, (∀ f, f < 6 → left.testBit f = true → q f < n) → vS V n S left q = true → cdN left n q 6 < codes S n ∧ isR V S (cdN left n q 6) n = true := fun q hq hv => by
    refine ⟨by rw [ecd, on_86 hl]; exact cd_lt hn hq 6 (by decide), ?_⟩
    rw [isR_vs hV hl hup hP hn hn5, vS_congr V n S left _ q hl (fun f hf hx => dg_cd hl hn hq hf hx)]
    exact hv
  have hoF_ : ∀ q : Nat → Nat, vS V n S left q = true → hoL V (sup S) n S = false := fun q hv => vs_ho hV hX n S S left q hl hv rfl rfl (unR_rf hQ) (fun _ _ h => h) (fun j hj h => by rw [hup, hb_nI _ (by omega)]; exact h)
  constructor
  · intro e
    unfold fiB
    rcases hex with h | ⟨q, h1, h2, h3⟩
    · rw [h, decide_eq_true rfl, Bool.not_true, Bool.and_false]
    · obtain ⟨g1, g2⟩ := plan q h1 h2
      rw [hc2 _ (by omega)] at g2
      cases g2
  · intro hlt
    have hr := hc1 hlt
    rw [isR_vs hV hl hup hP hn hn5] at hr
    have hdl : ∀ f, f < 6 → left.testBit f = true → dg left n c0 f < n := fun f _ _ => dg_lt hn
    have hd8 : ∀ f, f < 6 → left.testBit f = true → dg left n c0 f < 8 := fun f _ _ => by have := dg_lt (left := left) (c := c0) (f := f) hn; omega
    have up := tr_up V n S left 0 262144 (dg left n c0) hl hdl hr
    rw [Nat.zero_add] at up
    have kl : wtN left (dg left n c0) 6 < 262144 := by rw [ky_6]; exact ky_lt hd8 6 (by decide)
    have main : trH V n S left 0 262144 = wtN left (dg left n c0) 6 := by
      rcases hex with h | ⟨q, h1, h2, h3⟩
      · omega
      · rw [Nat.zero_add] at h3
        obtain ⟨g1, g2⟩ := plan q h1 h2
        have hle : c0 ≤ cdN left n q 6 := by
          rcases Nat.lt_or_ge (cdN left n q 6) c0 with x | x
          · rw [hc2 _ x] at g2; cases g2
          · exact x
        have ord := (ord_ck (left := left) (n := n) (by omega) h1 hdl 6 (by decide)).1
        rw [cd_of hl hn (by rw [← ecd]; exact hlt), ← ky_6, ← ky_6] at ord
        have : ¬ wtN left q 6 < wtN left (dg left n c0) 6 := fun x => by
          have := ord.mpr x
          omega
        omega
    refine ⟨?_, fun f hf hx => ?_⟩
    · unfold fiB
      rw [hoF_ _ hr, main, decide_eq_false (by omega)]
      rfl
    · rw [main, ky_at hd8 hf hx, hup]
      rfl

/-! 50.plans: the class's first key is the reference's first code -/
/-- a number out of its bits -/
def bB (P : Nat → Bool) : Nat → Nat
  | 0 => 0
  | k + 1 => bB P k ||| (if P k then 2 ^ k else 0)
theorem bB_bit (P : Nat → Bool) (j : Nat) : ∀ k, (bB P k).testBit j = (decide (j < k) && P j)
  | 0 => by rw [bB, Nat.zero_testBit, decide_eq_false (Nat.not_lt_zero _)]; rfl
  | k + 1 => by
    rw [bB, Nat.testBit_or, bB_bit P j k]
    by_cases e : j = k
    · subst e
      rw [decide_eq_false (Nat.lt_irrefl _), decide_eq_true (Nat.lt_succ_self _), Bool.false_and, Bool.false_or, Bool.true_and]
      cases P j with
      | true => rw [if_pos rfl, Nat.testBit_two_pow_self]
      | false => rw [if_neg Bool.false_ne_true, Nat.zero_testBit]
    · rw [show decide (j < k + 1) = decide (j < k) from decide_eq_decide.mpr (by omega)]
      have : (if P k then 2 ^ k else 0).testBit j = false := by
        split
        · exact Nat.testBit_two_pow_of_ne (fun q => e q.symm)
        · exact Nat.zero_testBit _
      rw [this, Bool.or_false]
theorem bB_lt (P : Nat → Bool) : ∀ k, bB P k < 2 ^ k
  | 0 => by show 0 < 1; decide
  | k + 1 => by
    rw [bB]
    refine Nat.or_lt_two_pow (Nat.lt_of_lt_of_le (bB_lt P k) (Nat.pow_le_pow_right (by decide) (by omega))) ?_
    split
    · exact Nat.pow_lt_pow_right (by decide) (by omega)
    · exact Nat.two_pow_pos _
theorem bit_ext {x y : Nat} (hx : x < 64) (hy : y < 64) (h : ∀ j, j < 6 → x.testBit j = y.testBit j) : x = y := by
  refine Nat.eq_of_testBit_eq (fun j => ?_)
  by_cases hj : j < 6
  · exact h j hj
  · have hp : 2 ^ 6 ≤ 2 ^ j := Nat.pow_le_pow_right (by decide) (by omega)
    rw [Nat.testBit_lt_two_pow (show x < 2 ^ j by omega), Nat.testBit_lt_two_pow (show y < 2 ^ j by omega)]
theorem pt_bit {off left : Nat} (ho : off < 64) (hl : left < 64) : ptB off left = true ↔ ∀ j, j < 6 → off.testBit j = true → left.testBit j = true := by
  unfold ptB
  rw [decide_eq_true_eq, part_hb]
  constructor
  · intro h j hj hb_
    have := h j (by omega) (by rw [hb_nI _ (by omega)]; exact hb_)
    rw [hb_nI _ (by omega)] at this
    exact this
  · intro h j hj hb_
    rw [hb_nI _ hj] at hb_ ⊢
    by_cases h6 : j < 6
    · exact h j h6 hb_
    · have hp : 2 ^ 6 ≤ 2 ^ j := Nat.pow_le_pow_right (by decide) (by omega)
      rw [Nat.testBit_lt_two_pow (show off < 2 ^ j by omega)] at hb_
      cases hb_
theorem sub_bit : ∀ left, left < 64 → ∀ off, off < 64 → ptB off left = true → off ≤ left ∧ ∀ j, j < 6 → (left - off).testBit j = (left.testBit j && !off.testBit j) := by decide +kernel
/-- those of a set that come down at once -/
def offQ (left : Nat) (q : Nat → Nat) : Nat := bB (fun f => left.testBit f && decide (q f = 0)) 6
theorem off_bit (left : Nat) (q : Nat → Nat) {j : Nat} (hj : j < 6) : (offQ left q).testBit j = (left.testBit j && decide (q j = 0)) := by
  unfold offQ
  rw [bB_bit, decide_eq_true hj, Bool.true_and]
theorem off_lt (left : Nat) (q : Nat → Nat) : offQ left q < 64 := bB_lt _ 6
theorem off_pt {left : Nat} (hl : left < 64) (q : Nat → Nat) : ptB (offQ left q) left = true := (pt_bit (off_lt left q) hl).mpr (fun j hj h => by
  rw [off_bit left q hj, Bool.and_eq_true] at h
  exact h.1)
theorem stay_bit {left : Nat} (hl : left < 64) (q : Nat → Nat) {j : Nat} (hj : j < 6) : (left - offQ left q).testBit j = (left.testBit j && !decide (q j = 0)) := by
  rw [(sub_bit left hl _ (off_lt left q) (off_pt hl q)).2 j hj, off_bit left q hj]
  cases left.testBit j <;> cases decide (q j = 0) <;> rfl
/-- whether nothing falls, hour by hour -/
def vS (V : WT) : Nat → ST → Nat → (Nat → Nat) → Bool
  | 0, _, _, _ => true
  | k + 1, A, left, q => decide (flN V (dnS A (offQ left q)) (vnb V) = 0) && vS V k (upS V A (offQ left q)) (left - offQ left q) (fun f => q f - 1)
theorem off_congr {left : Nat} {q r : Nat → Nat} (h : ∀ f, f < 6 → left.testBit f = true → q f = r f) : offQ left q = offQ left r := bit_ext (off_lt _ _) (off_lt _ _) (fun j hj => by
  rw [off_bit _ _ hj, off_bit _ _ hj]
  cases hx : left.testBit j with
  | false => rfl
  | true => rw [h j hj hx])
theorem vS_congr (V : WT) : ∀ (k : Nat) (A : ST) (left : Nat) (q r : Nat → Nat), left < 64 → (∀ f, f < 6 → left.testBit f = true → q f = r f) → vS V k A left q = vS V k A left r
  | 0, _, _, _, _, _, _ => rfl
  | k + 1, A, left, q, r, hl, h => by
    rw [vS, vS, off_congr h]
    have := vS_congr V k (upS V A (offQ left r)) (left - offQ left r) (fun f => q f - 1) (fun f => r f - 1) (by omega) (fun f hf hb_ => by
      rw [stay_bit hl r hf, Bool.and_eq_true] at hb_
      show q f - 1 = r f - 1
      rw [h f hf hb_.1])
    rw [this]
/-- the key of a plan -/
def wtN (left : Nat) (q : Nat → Nat) : Nat → Nat
  | 0 => 0
  | f + 1 => wtN left q f + (if left.testBit f then q f * 8 ^ (5 - f) else 0)
theorem wt_congr {left : Nat} {q r : Nat → Nat} (h : ∀ f, f < 6 → left.testBit f = true → q f = r f) : ∀ k, k ≤ 6 → wtN left q k = wtN left r k
  | 0, _ => rfl
  | k + 1, hk => by
    rw [wtN, wtN, wt_congr h k (by omega)]
    cases hx : left.testBit k with
    | false => rfl
    | true => rw [h k (by omega) hx]
theorem wt_step {left : Nat} (hl : left < 64) (q : Nat → Nat) : ∀ k, k ≤ 6 → wtN left q k = ohN (left - offQ left q) k + wtN (left - offQ left q) (fun f => q f - 1) k
  | 0, _ => rfl
  | k + 1, hk => by
    rw [wtN, wtN, ohN, wt_step hl q k (by omega), hb_nI _ (by omega), stay_bit hl q (by omega)]
    cases left.testBit k with
    | false => show _ + 0 = _ + 0 + (_ + 0); omega
    | true =>
      by_cases h0 : q k = 0
      · rw [decide_eq_true h0, h0]
        show _ + (if true = true then 0 * 8 ^ (5 - k) else 0) = _ + 0 + (_ + 0)
        rw [if_pos rfl, Nat.zero_mul]; omega
      · rw [decide_eq_false h0]
        show _ + (if true = true then q k * 8 ^ (5 - k) else 0) = _ + (if true = true then 8 ^ (5 - k) else 0) + (_ + (if true = true then (q k - 1) * 8 ^ (5 - k) else 0))
        rw [if_pos rfl, if_pos rfl, if_pos rfl]
        obtain ⟨d, hd⟩ := Nat.exists_eq_succ_of_ne_zero h0
        rw [hd, Nat.succ_sub_one, Nat.succ_mul]
        omega
theorem lpO_at {few off : Nat} {st : Nat → Nat → Nat} (h : ∀ o k, st o k ≤ k) (hf : few ≤ off) : ∀ m k, off < m → ∃ k2, lpO few st m k ≤ st off k2
  | 0, _, hm => absurd hm (Nat.not_lt_zero _)
  | m + 1, k, hm => by
    rw [lpO, if_neg (by omega)]
    by_cases e : off = m
    · subst e
      exact ⟨k, lpO_le h off _⟩
    · exact lpO_at h hf m _ (by omega)
theorem lpO_ex {few : Nat} {st : Nat → Nat → Nat} : ∀ m k, lpO few st m k = k ∨ ∃ off k2, few ≤ off ∧ off < m ∧ lpO few st m k = st off k2 ∧ ¬ st off k2 = k2
  | 0, k => Or.inl rfl
  | m + 1, k => by
    rw [lpO]
    by_cases q : m < few
    · rw [if_pos q]; exact Or.inl rfl
    · rw [if_neg q]
      rcases lpO_ex m (st m k) with e | ⟨off, k2, h1, h2, h3, h4⟩
      · rw [e]
        by_cases c : st m k = k
        · exact Or.inl c
        · exact Or.inr ⟨m, k, by omega, by omega, rfl, c⟩
      · exact Or.inr ⟨off, k2, h1, by omega, h3, h4⟩
/-- no plan that holds has a lower key -/
theorem tr_up (V : WT) : ∀ (k : Nat) (A : ST) (left key fk : Nat) (q : Nat → Nat), left < 64 → (∀ f, f < 6 → left.testBit f = true → q f < k) → vS V k A left q = true → trH V k A left key fk ≤ key + wtN left q 6
  | 0, A, left, key, fk, q, _, _, _ => by rw [trH]; split <;> omega
  | k + 1, A, left, key, fk, q, hl, hq, hv => by
    rw [vS, Bool.and_eq_true, decide_eq_true_eq] at hv
    rw [trH]
    split
    · have hpt := off_pt hl q
      have hle := (sub_bit left hl _ (off_lt left q) hpt).1
      have hst : ∀ o f2, (fun off fk => if ptB off left then (if flN V (dnS A off) (vnb V) = 0 then trH V k (upS V A off) (left - off) (key + ohN (left - off) 6) fk else fk) else fk) o f2 ≤ f2 := fun o f2 => by
        show (if ptB o left then (if flN V (dnS A o) (vnb V) = 0 then trH V k (upS V A o) (left - o) (key + ohN (left - o) 6) f2 else f2) else f2) ≤ f2
        split
        · split
          · exact trH_le V k _ _ _ _
          · exact Nat.le_refl _
        · exact Nat.le_refl _
      have hfew : (if k = 0 then left else 0) ≤ offQ left q := by
        split
        · next k0 =>
          refine Nat.le_of_eq (bit_ext hl (off_lt left q) (fun j hj => ?_))
          rw [off_bit left q hj]
          cases hx : left.testBit j with
          | false => rfl
          | true =>
            have := hq j hj hx
            rw [decide_eq_true (show q j = 0 by omega)]; rfl
        · exact Nat.zero_le _
      obtain ⟨k2, h2⟩ := lpO_at hst hfew (left + 1) fk (by omega)
      refine Nat.le_trans h2 ?_
      show (if ptB (offQ left q) left then (if flN V (dnS A (offQ left q)) (vnb V) = 0 then trH V k (upS V A (offQ left q)) (left - offQ left q) (key + ohN (left - offQ left q) 6) k2 else k2) else k2) ≤ _
      rw [if_pos hpt, if_pos hv.1, wt_step hl q 6 (by decide)]
      have := tr_up V k (upS V A (offQ left q)) (left - offQ left q) (key + ohN (left - offQ left q) 6) k2 (fun f => q f - 1) (by omega) (fun f hf hb_ => by
        rw [stay_bit hl q hf, Bool.and_eq_true] at hb_
        have h1 := hq f hf hb_.1
        have h2 : ¬ q f = 0 := by
          intro e
          rw [e] at hb_
          exact absurd hb_.2 (by decide)
        show q f - 1 < k
        omega) hv.2
      omega
    · omega
/-- the key that is found is a plan's that holds -/
theorem tr_ex (V : WT) : ∀ (k : Nat) (A : ST) (left key fk : Nat), left < 64 → (k = 0 → left = 0) → trH V k A left key fk = fk ∨ ∃ q : Nat → Nat, (∀ f, f < 6 → left.testBit f = true → q f < k) ∧ vS V k A left q = true ∧ trH V k A left key fk = key + wtN left q 6
  | 0, A, left, key, fk, hl, h0 => by
    have := h0 rfl
    subst this
    rw [trH]
    split
    · refine Or.inr ⟨fun _ => 0, (fun f _ h => by rw [Nat.zero_testBit] at h; cases h), rfl, ?_⟩
      rw [show wtN 0 (fun _ => 0) 6 = 0 from by decide]; rfl
    · exact Or.inl rfl
  | k + 1, A, left, key, fk, hl, _ => by
    rw [trH]
    split
    · rcases lpO_ex (few := if k = 0 then left else 0) (st := fun off fk => if ptB off left then (if flN V (dnS A off) (vnb V) = 0 then trH V k (upS V A off) (left - off) (key + ohN (left - off) 6) fk else fk) else fk) (left + 1) fk with e | ⟨off, k2, h1, h2, h3, h4⟩
      · exact Or.inl e
      · right
        rw [h3]
        have h4 : ¬ (if ptB off left then (if flN V (dnS A off) (vnb V) = 0 then trH V k (upS V A off) (left - off) (key + ohN (left - off) 6) k2 else k2) else k2) = k2 := h4
        show ∃ q : Nat → Nat, _ ∧ _ ∧ (if ptB off left then (if flN V (dnS A off) (vnb V) = 0 then trH V k (upS V A off) (left - off) (key + ohN (left - off) 6) k2 else k2) else k2) = _
        by_cases hpt : ptB off left = true
        · rw [if_pos hpt] at h4 ⊢
          by_cases hfl : flN V (dnS A off) (vnb V) = 0
          · rw [if_pos hfl] at h4 ⊢
            have hsb := sub_bit left hl off (by omega) hpt
            rcases tr_ex V k (upS V A off) (left - off) (key + ohN (left - off) 6) k2 (by omega) (fun k0 => by rw [if_pos k0] at h1; omega) with e | ⟨q, hq1, hq2, hq3⟩
            · exact absurd e h4
            · have ho6 : off < 64 := by omega
              have hoq : offQ left (fun f => if off.testBit f then 0 else q f + 1) = off := bit_ext (off_lt _ _) ho6 (fun j hj => by
                rw [off_bit _ _ hj]
                cases hx : off.testBit j with
                | true => rw [(pt_bit ho6 hl).mp hpt j hj hx]; rfl
                | false =>
                  show (left.testBit j && decide (q j + 1 = 0)) = false
                  rw [decide_eq_false (by omega), Bool.and_false])
              have hcg : ∀ f, f < 6 → (left - off).testBit f = true → (fun f => (if off.testBit f then 0 else q f + 1) - 1) f = q f := by
                intro f hf hb_
                rw [hsb.2 f hf, Bool.and_eq_true, Bool.not_eq_true'] at hb_
                show (if off.testBit f then 0 else q f + 1) - 1 = q f
                rw [hb_.2]
                rfl
              refine ⟨fun f => if off.testBit f then 0 else q f + 1, fun f hf hb_ => ?_, ?_, ?_⟩
              · show (if off.testBit f then 0 else q f + 1) < k + 1
                cases hx : off.testBit f with
                | true => show 0 < k + 1; omega
                | false =>
                  have := hq1 f hf (by rw [hsb.2 f hf, hb_, hx]; rfl)
                  show q f + 1 < k + 1
                  omega
              · rw [vS, hoq, decide_eq_true hfl, Bool.true_and, vS_congr V k _ _ _ q (by omega) hcg]
                exact hq2
              · rw [hq3, wt_step hl _ 6 (by decide), hoq, wt_congr hcg 6 (by decide)]
                omega
          · rw [if_neg hfl] at h4; exact absurd rfl h4
        · rw [if_neg hpt] at h4; exact absurd rfl h4
    · exact Or.inl rfl
/-! keys and codes come in the same order -/
def cdN (left n : Nat) (p : Nat → Nat) : Nat → Nat
  | 0 => 0
  | f + 1 => if left.testBit f then cdN left n p f * n + p f else cdN left n p f
def kyN (left : Nat) (p : Nat → Nat) : Nat → Nat
  | 0 => 0
  | f + 1 => kyN left p f * 8 + (if left.testBit f then p f else 0)
theorem ky_wt (left : Nat) (p : Nat → Nat) : ∀ k, k ≤ 6 → kyN left p k * 8 ^ (6 - k) = wtN left p k
  | 0, _ => by rw [kyN, wtN, Nat.zero_mul]
  | k + 1, hk => by
    rw [kyN, wtN, ← ky_wt left p k (by omega), show 6 - k = (6 - (k + 1)) + 1 by omega, Nat.pow_succ, Nat.add_mul, show 5 - k = 6 - (k + 1) by omega]
    have : (if left.testBit k then p k else 0) * 8 ^ (6 - (k + 1)) = if left.testBit k then p k * 8 ^ (6 - (k + 1)) else 0 := by
      split
      · rfl
      · exact Nat.zero_mul _
    rw [this, Nat.mul_assoc, Nat.mul_comm 8]
theorem ky_6 (left : Nat) (p : Nat → Nat) : wtN left p 6 = kyN left p 6 := by
  rw [← ky_wt left p 6 (by decide), show 6 - 6 = 0 from rfl, Nat.pow_zero, Nat.mul_one]
theorem lex_lt {a b d e n : Nat} (hd : d < n) (he : e < n) : a * n + d < b * n + e ↔ a < b ∨ (a = b ∧ d < e) := by
  constructor
  · intro h
    rcases Nat.lt_trichotomy a b with q | q | q
    · exact Or.inl q
    · subst q; exact Or.inr ⟨rfl, by omega⟩
    · exfalso
      have : (b + 1) * n ≤ a * n := Nat.mul_le_mul_right n q
      rw [Nat.succ_mul] at this
      omega
  · rintro (q | ⟨rfl, q⟩)
    · have : (a + 1) * n ≤ b * n := Nat.mul_le_mul_right n q
      rw [Nat.succ_mul] at this
      omega
    · omega
theorem ord_ck {left n : Nat} (hn : n ≤ 8) {p r : Nat → Nat} (hp : ∀ f, f < 6 → left.testBit f = true → p f < n) (hr : ∀ f, f < 6 → left.testBit f = true → r f < n) : ∀ k, k ≤ 6 → (cdN left n p k < cdN left n r k ↔ kyN left p k < kyN left r k) ∧ (cdN left n r k < cdN left n p k ↔ kyN left r k < kyN left p k)
  | 0, _ => ⟨Iff.rfl, Iff.rfl⟩
  | k + 1, hk => by
    obtain ⟨i1, i2⟩ := ord_ck hn hp hr k (by omega)
    rw [cdN, cdN, kyN, kyN]
    cases hx : left.testBit k with
    | false =>
      show (cdN left n p k < cdN left n r k ↔ kyN left p k * 8 + 0 < kyN left r k * 8 + 0) ∧ (cdN left n r k < cdN left n p k ↔ kyN left r k * 8 + 0 < kyN left p k * 8 + 0)
      constructor
      · rw [i1]; omega
      · rw [i2]; omega
    | true =>
      have a := hp k (by omega) hx
      have b := hr k (by omega) hx
      show (cdN left n p k * n + p k < cdN left n r k * n + r k ↔ kyN left p k * 8 + p k < kyN left r k * 8 + r k) ∧ (cdN left n r k * n + r k < cdN left n p k * n + p k ↔ kyN left r k * 8 + r k < kyN left p k * 8 + p k)
      rw [lex_lt a b, lex_lt (n := 8) (by omega) (by omega), lex_lt b a, lex_lt (n := 8) (by omega) (by omega)]
      constructor <;> omega
theorem onN_bit {left f : Nat} (hf : f < 32) : onN (nI left) (f + 1) = onN (nI left) f + (if left.testBit f then 1 else 0) := by
  rw [onN, hb_nI left hf]
theorem onN_mono (x : Int32) : ∀ {a b : Nat}, a ≤ b → onN x a ≤ onN x b := by
  intro a b h
  induction b with
  | zero => rw [show a = 0 by omega]; exact Nat.le_refl _
  | succ b ih =>
    by_cases e : a = b + 1
    · rw [e]; exact Nat.le_refl _
    · have := ih (by omega)
      rw [onN]
      omega
theorem on_86 {left : Nat} (hl : left < 64) : onN (nI left) 8 = onN (nI left) 6 := by
  rw [onN_bit (by decide), onN_bit (by decide), Nat.testBit_lt_two_pow (show left < 2 ^ 7 by omega), Nat.testBit_lt_two_pow (show left < 2 ^ 6 by omega)]
  rfl
/-- the hours of a code -/
def dg (left n c f : Nat) : Nat := hoF c (onN (nI left) f) (onN (nI left) 8) n
theorem dg_lt {left n c f : Nat} (hn : 1 ≤ n) : dg left n c f < n := Nat.mod_lt _ (by omega)
theorem cd_dg {left n c : Nat} (hl : left < 64) (hn : 1 ≤ n) (hc : c < n ^ onN (nI left) 8) : ∀ k, k ≤ 6 → cdN left n (dg left n c) k = c / n ^ (onN (nI left) 8 - onN (nI left) k)
  | 0, _ => by
    rw [cdN, show onN (nI left) 0 = 0 from rfl, Nat.sub_zero, Nat.div_eq_of_lt hc]
  | k + 1, hk => by
    rw [cdN, cd_dg hl hn hc k (by omega), onN_bit (f := k) (by omega)]
    cases hx : left.testBit k with
    | false => rfl
    | true =>
      have h1 : onN (nI left) k + 1 ≤ onN (nI left) 8 := by
        have := onN_mono (nI left) (show k + 1 ≤ 8 by omega)
        rw [onN_bit (f := k) (by omega), hx, if_pos rfl] at this
        exact this
      show c / n ^ (onN (nI left) 8 - onN (nI left) k) * n + c / n ^ (onN (nI left) 8 - 1 - onN (nI left) k) % n = c / n ^ (onN (nI left) 8 - (onN (nI left) k + 1))
      rw [show onN (nI left) 8 - onN (nI left) k = (onN (nI left) 8 - (onN (nI left) k + 1)) + 1 by omega, show onN (nI left) 8 - 1 - onN (nI left) k = onN (nI left) 8 - (onN (nI left) k + 1) by omega, Nat.pow_succ, ← Nat.div_div_eq_div_mul, Nat.mul_comm]
      exact Nat.div_add_mod _ n
theorem cd_of {left n c : Nat} (hl : left < 64) (hn : 1 ≤ n) (hc : c < n ^ onN (nI left) 8) : cdN left n (dg left n c) 6 = c := by
  rw [cd_dg hl hn hc 6 (by decide), on_86 hl, Nat.sub_self, Nat.pow_zero, Nat.div_one]
theorem cd_lt {left n : Nat} (hn : 1 ≤ n) {p : Nat → Nat} (hp : ∀ f, f < 6 → left.testBit f = true → p f < n) : ∀ k, k ≤ 6 → cdN left n p k < n ^ onN (nI left) k
  | 0, _ => by rw [cdN, show onN (nI left) 0 = 0 from rfl, Nat.pow_zero]; decide
  | k + 1, hk => by
    have ih := cd_lt hn hp k (by omega)
    rw [cdN, onN_bit (f := k) (by omega)]
    cases hx : left.testBit k with
    | false => exact ih
    | true =>
      have := hp k (by omega) hx
      show cdN left n p k * n + p k < n ^ (onN (nI left) k + 1)
      rw [Nat.pow_succ]
      have : (cdN left n p k + 1) * n ≤ n ^ onN (nI left) k * n := Nat.mul_le_mul_right n ih
      rw [Nat.succ_mul] at this
      omega
theorem cd_div {left n : Nat} (hn : 1 ≤ n) {p : Nat → Nat} (hp : ∀ f, f < 6 → left.testBit f = true → p f < n) : ∀ i k, k + i = 6 → cdN left n p 6 / n ^ (onN (nI left) 6 - onN (nI left) k) = cdN left n p k
  | 0, k, hk => by
    rw [show k = 6 by omega, Nat.sub_self, Nat.pow_zero, Nat.div_one]
  | i + 1, k, hk => by
    have ih := cd_div hn hp i (k + 1) (by omega)
    have hm := onN_mono (nI left) (show k + 1 ≤ 6 by omega)
    rw [onN_bit (f := k) (by omega)] at ih hm
    rw [show cdN left n p (k + 1) = (if left.testBit k then cdN left n p k * n + p k else cdN left n p k) from rfl] at ih
    cases hx : left.testBit k with
    | false =>
      rw [hx] at ih
      exact ih
    | true =>
      rw [hx] at ih hm
      have ih : cdN left n p 6 / n ^ (onN (nI left) 6 - (onN (nI left) k + 1)) = cdN left n p k * n + p k := ih
      have hm : onN (nI left) k + 1 ≤ onN (nI left) 6 := hm
      rw [show onN (nI left) 6 - onN (nI left) k = (onN (nI left) 6 - (onN (nI left) k + 1)) + 1 by omega, Nat.pow_succ, ← Nat.div_div_eq_div_mul, ih, Nat.mul_comm, Nat.mul_add_div (by omega), Nat.div_eq_of_lt (hp k (by omega) hx), Nat.add_zero]
theorem dg_cd {left n : Nat} (hl : left < 64) (hn : 1 ≤ n) {p : Nat → Nat} (hp : ∀ f, f < 6 → left.testBit f = true → p f < n) {f : Nat} (hf : f < 6) (hx : left.testBit f = true) : dg left n (cdN left n p 6) f = p f := by
  have h1 := cd_div hn hp (6 - (f + 1)) (f + 1) (by omega)
  have hm := onN_mono (nI left) (show f + 1 ≤ 6 by omega)
  rw [onN_bit (f := f) (by omega), hx, if_pos rfl] at h1 hm
  unfold dg hoF
  rw [on_86 hl, show onN (nI left) 6 - 1 - onN (nI left) f = onN (nI left) 6 - (onN (nI left) f + 1) by omega, h1, cdN, hx, if_pos rfl, Nat.mul_comm, Nat.mul_add_mod, Nat.mod_eq_of_lt (hp f hf hx)]
theorem ky_lt {left : Nat} {p : Nat → Nat} (hp : ∀ f, f < 6 → left.testBit f = true → p f < 8) : ∀ k, k ≤ 6 → kyN left p k < 8 ^ k
  | 0, _ => by show 0 < 1; decide
  | k + 1, hk => by
    have ih := ky_lt hp k (by omega)
    rw [kyN, Nat.pow_succ]
    have : (if left.testBit k then p k else 0) < 8 := by
      split
      · next q => exact hp k (by omega) q
      · decide
    omega
theorem ky_div {left : Nat} {p : Nat → Nat} (hp : ∀ f, f < 6 → left.testBit f = true → p f < 8) : ∀ i k, k + i = 6 → kyN left p 6 / 8 ^ (6 - k) = kyN left p k
  | 0, k, hk => by rw [show k = 6 by omega, Nat.sub_self, Nat.pow_zero, Nat.div_one]
  | i + 1, k, hk => by
    have ih := ky_div hp i (k + 1) (by omega)
    have : (if left.testBit k then p k else 0) < 8 := by
      split
      · next q => exact hp k (by omega) q
      · decide
    rw [show kyN left p (k + 1) = kyN left p k * 8 + (if left.testBit k then p k else 0) from rfl] at ih
    rw [show 6 - k = (6 - (k + 1)) + 1 by omega, Nat.pow_succ, ← Nat.div_div_eq_div_mul, ih]
    omega
theorem ky_at {left : Nat} {p : Nat → Nat} (hp : ∀ f, f < 6 → left.testBit f = true → p f < 8) {f : Nat} (hf : f < 6) (hx : left.testBit f = true) : wtN left p 6 / 8 ^ (5 - f) % 8 = p f := by
  have h1 := ky_div hp (6 - (f + 1)) (f + 1) (by omega)
  have := hp f hf hx
  rw [ky_6, show 5 - f = 6 - (f + 1) by omega, h1, kyN, hx, if_pos rfl]
  omega

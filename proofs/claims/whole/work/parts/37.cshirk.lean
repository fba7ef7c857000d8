/-! 37.cshirk: the class's shirkers -/
/-- who is up is a buttress of the wall, at a bay that stands -/
def okP (V : WT) (S : ST) : Prop := ∀ j, j < 32 → hb (sup S) (nI j) = true → j < vnf V ∧ hb (sfa S) (sbo S j) = false
theorem onN_ext {x : Int32} {k : Nat} : ∀ m, k ≤ m → m ≤ 32 → (∀ j, k ≤ j → j < 32 → hb x (nI j) = false) → onN x m = onN x k
  | 0, h, _, _ => by rw [show k = 0 from by omega]
  | m + 1, h, hm, hx => by
    by_cases e : k = m + 1
    · rw [e]
    · rw [onN, hx m (by omega) (by omega), onN_ext m (by omega) (by omega) hx]; rfl
theorem onN_sub {t u : Int32} (h : ∀ j, j < 32 → hb t (nI j) = true → hb u (nI j) = true) : ∀ k, k ≤ 32 → onN t k ≤ onN u k
  | 0, _ => Nat.le_refl _
  | k + 1, hk => by
    have ih := onN_sub h k (by omega)
    rw [onN, onN]
    cases q : hb t (nI k) with
    | true => rw [h k (by omega) q]; exact Nat.succ_le_succ ih
    | false =>
      show onN t k + 0 ≤ _
      split <;> omega
theorem itM_pow {x t : Nat} {u : Int32} (h : ∀ j, j < 32 → hb (nI t) (nI j) = true → hb u (nI j) = true) : ∀ k, k ≤ 32 → itM x u t k = x ^ onN (nI t) k * (10 - x) ^ (onN u k - onN (nI t) k)
  | 0, _ => rfl
  | k + 1, hk => by
    have ih := itM_pow (x := x) h k (by omega)
    have hle := onN_sub h k (by omega)
    rw [itM, ih, onN, onN]
    cases q : hb (nI t) (nI k) with
    | true =>
      rw [h k (by omega) q, if_pos rfl, if_pos rfl, if_pos rfl]
      rw [show onN u k + 1 - (onN (nI t) k + 1) = onN u k - onN (nI t) k from by omega, Nat.pow_succ]
      rw [Nat.mul_assoc, Nat.mul_comm _ x, ← Nat.mul_assoc]
    | false =>
      cases q2 : hb u (nI k) with
      | true =>
        rw [if_pos rfl, if_neg Bool.false_ne_true, if_pos rfl, if_neg Bool.false_ne_true, Nat.add_zero]
        rw [show onN u k + 1 - onN (nI t) k = (onN u k - onN (nI t) k) + 1 from by omega, Nat.pow_succ, Nat.mul_assoc]
      | false =>
        rw [if_neg Bool.false_ne_true, if_neg Bool.false_ne_true, Nat.add_zero, Nat.mul_one, Nat.add_zero]
theorem wei {V : WT} (hV : okV V) {S : ST} (hP : okP V S) {x t : Nat} (ht : t < 2 ^ vnf V) (h : nI t &&& (sup S ^^^ (-1)) = 0) : itM x (sup S) t (vnf V) = x ^ onN (nI t) 8 * (10 - x) ^ (onN (sup S) 8 - onN (nI t) 8) := by
  have h6 := hV.2.1
  have hs := part_hb.mp h
  rw [itM_pow hs _ (by omega), onN_ext (k := vnf V) 8 (by omega) (by omega) (fun j h1 h2 => hb_hi ht h1 h2), onN_ext (x := sup S) (k := vnf V) 8 (by omega) (by omega) (fun j h1 h2 => by
    cases q : hb (sup S) (nI j) with
    | false => rfl
    | true => exact absurd (hP j h2 q).1 (by omega))]
abbrev sk0 (S : ST) (x : Int32) : ST := sUp S (sup S &&& (x ^^^ (-1)))
def skB (V : WT) (S : ST) (x : Int32) : Bool := decide (flN V (sk0 S x) (vnb V) = 0) && !decide (fk V (sUp (psF V (sk0 S x)) (sup (psF V (sk0 S x)) ||| x)) 11 ≤ 11)
theorem ri_fa (S : ST) (t : Nat) : ∀ k, sfa (riN S t k) = sfa S
  | 0 => rfl
  | k + 1 => by
    rw [riN]
    split
    · exact ri_fa S t k
    · exact ri_fa S t k
theorem ri_or {S : ST} {t : Nat} (h : ∀ j, j < 32 → hb (nI t) (nI j) = true → hb (sfa S) (sbo S j) = false) : ∀ k, k ≤ 32 → ∃ u, riN S t k = sUp S u ∧ ∀ j, j < 32 → hb u (nI j) = (hb (sup S) (nI j) || (decide (j < k) && hb (nI t) (nI j)))
  | 0, _ => ⟨sup S, rfl, fun j hj => by rw [decide_eq_false (Nat.not_lt_zero _), Bool.false_and, Bool.or_false]⟩
  | k + 1, hk => by
    obtain ⟨u, h1, h2⟩ := ri_or h k (by omega)
    rw [riN, h1]
    by_cases q : hb (nI t) (nI k) = true
    · rw [if_pos q]
      refine ⟨u ||| nI 1 <<< (nI k &&& 31), ?_, fun j hj => ?_⟩
      · show sUp (sUp S u) (u ||| (if hb (sfa S) (sbo S k) then nI 0 else _)) = _
        rw [h k (by omega) q]; rfl
      · rw [hb_or _ _ hj, h2 j hj, hb_shb (by omega) hj]
        by_cases e : k = j
        · subst e; rw [q, decide_eq_true rfl, decide_eq_true (Nat.lt_succ_self _)]; simp
        · rw [decide_eq_false e, Bool.or_false, show decide (j < k + 1) = decide (j < k) from decide_eq_decide.mpr (by omega)]
    · rw [if_neg q]
      refine ⟨u, rfl, fun j hj => ?_⟩
      rw [h2 j hj]
      by_cases e : k = j
      · subst e; rw [Bool.not_eq_true] at q; rw [q, Bool.and_false, Bool.and_false]
      · rw [show decide (j < k + 1) = decide (j < k) from decide_eq_decide.mpr (by omega)]
theorem sk_eq {V : WT} (hV : okV V) {S : ST} (hP : okP V S) {t : Nat} (ht : t < 2 ^ vnf V) (h : nI t &&& (sup S ^^^ (-1)) = 0) : skC V S t = skB V S (nI t) := by
  have h6 := hV.2.1
  have hs := part_hb.mp h
  unfold skC skB
  have e1 : sfa (skT V S t) = sfa (psF V (sk0 S (nI t))) := ri_fa _ _ _
  rw [e1]
  by_cases q : flN V (sk0 S (nI t)) (vnb V) = 0
  · have e2 : sfa (psF V (sk0 S (nI t))) = sfa S := (fl_fa hV (sk0 S (nI t))).mpr q
    rw [decide_eq_true q, decide_eq_true e2]
    obtain ⟨u, h1, h2⟩ := ri_or (S := psF V (sk0 S (nI t))) (t := t) (fun j hj hx => by rw [e2]; exact (hP j hj (hs j hj hx)).2) (vnf V) (by omega)
    have e3 : u = sup (psF V (sk0 S (nI t))) ||| nI t := by
      refine hb_ext (fun j hj => ?_)
      rw [h2 j hj, hb_or _ _ hj]
      by_cases c : j < vnf V
      · rw [decide_eq_true c, Bool.true_and]
      · rw [hb_hi ht (by omega) hj, Bool.and_false]
    have e4 : skT V S t = sUp (psF V (sk0 S (nI t))) (sup (psF V (sk0 S (nI t))) ||| nI t) := by rw [← e3]; exact h1
    rw [e4]
  · have e2 : ¬ sfa (psF V (sk0 S (nI t))) = sfa S := fun z => q ((fl_fa hV (sk0 S (nI t))).mp z)
    rw [decide_eq_false q, decide_eq_false e2, Bool.false_and, Bool.false_and]
theorem ff_1 (V : WT) (S : ST) (fl : Int32) : ffR V 1 0 S fl = if flN V S (vnb V) = 0 then ((-4), psF V S, flN V S (vnb V)) else (nI 1, psF V S, flN V S (vnb V)) := by
  rw [ffR]
  split
  · rfl
  · rfl

set_option maxRecDepth 20000 in
theorem lp_X8_power (l : Launch) (z : Nat × Nat × Nat) (hz : z.2.1 ≤ 0 ∧ z.2.2 ≤ 0) (Q : Option Value → List va_E → Prop) (x k : Nat) (hk : k < 1000) (hQ : Q (some (.int (nI (x ^ k)))) []) : ∀ i, i ≤ k → G l M_X8_power z Q 4 [some (.int (nI x)), some (.int (nI k)), some (.int (nI (x ^ i))), some (.int (nI i))] [] [] := by
  refine loopN k ?_ (fun i hi ih => ?_)
  ·
    refine g_iload_n (n := 5) dX8_power_4 rfl rfl ?_
    refine g_iload_n (n := 6) dX8_power_5 rfl rfl ?_
    refine g_icmp_ge (tgt := 19) (n := 9) dX8_power_6 (by decide) rfl (fun c6 => ?_) (fun c6 => absurd (nI_le (Nat.le_refl _) (by omega)) c6)
    refine g_iload_n (n := 20) dX8_power_19 rfl rfl ?_
    exact g_iret (ty := .int) dX8_power_20 rfl rfl hz hQ
  ·
    refine g_iload_n (n := 5) dX8_power_4 rfl rfl ?_
    refine g_iload_n (n := 6) dX8_power_5 rfl rfl ?_
    refine g_icmp_ge (tgt := 19) (n := 9) dX8_power_6 (by decide) rfl (fun c6 => absurd c6 (nI_ge hi (by omega))) (fun c6 => ?_)
    refine g_iload_n (n := 10) dX8_power_9 rfl rfl ?_
    refine g_iload_n (n := 11) dX8_power_10 rfl rfl ?_
    refine g_imulN (n := 12) dX8_power_11 rfl ?_
    refine g_top (congrArg nI (Nat.pow_succ _ _).symm) ?_
    refine g_istore_n (n := 13) dX8_power_12 (by decide) rfl rfl ?_
    refine g_lsN (ls' := [_, _, _, _]) rfl ?_
    refine g_iincN (k := 1) (n := 16) dX8_power_13 rfl (by decide) rfl rfl ?_
    refine g_lsN (ls' := [_, _, _, _]) rfl ?_
    refine g_goto (tgt := 4) dX8_power_16 (by decide) ?_
    exact ih
set_option maxRecDepth 20000 in
theorem t_X8_power (l : Launch) (x k : Nat) (hk : k < 1000) : Fn l M_X8_power [.int (nI x), .int (nI k)] [] (some (.int (nI (x ^ k)))) [] := by
  refine con_of rfl rfl (Nat.le_of_ble_eq_true rfl) ?_
  refine g_lsN (ls' := [_, _, _, _]) rfl ?_
  refine g_iconst (v := nI 1) (n := 1) dX8_power_0 (by decide) rfl ?_
  refine g_istore_n (n := 2) dX8_power_1 (by decide) rfl rfl ?_
  refine g_lsN (ls' := [_, _, _, _]) rfl ?_
  refine g_iconst (v := nI 0) (n := 3) dX8_power_2 (by decide) rfl ?_
  refine g_istore_n (n := 4) dX8_power_3 (by decide) rfl rfl ?_
  refine g_lsN (ls' := [_, _, _, _]) rfl ?_
  exact lp_X8_power l _ ⟨Nat.zero_le _, Nat.zero_le _⟩ _ x k hk ⟨rfl, rfl⟩ 0 (Nat.zero_le _)
theorem gcd_step {L s n : Nat} (h : s ≤ L) (h0 : 0 < s) (hp : L * s < 2 ^ (n + 1)) : L % s ≤ s ∧ s * (L % s) < 2 ^ n := by
  have h1 : L % s < s := Nat.mod_lt _ h0
  have h2 : 2 * (L % s) ≤ L := by
    have := Nat.mod_add_div L s
    have h3 : 1 ≤ L / s := Nat.div_pos h h0
    have h4 : s * 1 ≤ s * (L / s) := Nat.mul_le_mul_left s h3
    omega
  refine ⟨Nat.le_of_lt h1, ?_⟩
  have h5 : 2 * (s * (L % s)) ≤ L * s := by
    rw [Nat.mul_left_comm, Nat.mul_comm L s]
    exact Nat.mul_le_mul_left s h2
  have : (2 : Nat) ^ (n + 1) = 2 * 2 ^ n := by rw [Nat.pow_succ, Nat.mul_comm]
  omega
set_option maxRecDepth 20000 in
theorem lp_X8_gcd (l : Launch) (z : Nat × Nat × Nat) (hz : z.2.1 ≤ 0 ∧ z.2.2 ≤ 0) (Q : Option Value → List va_E → Prop) (a b g : Nat) (hQ : Q (some (.int (nI g))) []) : ∀ (n i L s : Nat) (o5 : Option Value), i + n = 64 → s ≤ L → L < 2 ^ 31 → L * s < 2 ^ n → Nat.gcd L s = g → G l M_X8_commonDivisor z Q 7 [some (.int (nI a)), some (.int (nI b)), some (.int (nI L)), some (.int (nI s)), some (.int (nI i)), o5] [] [] := by
  intro n
  induction n with
  | zero =>
    intro i L s o5 hi hs hL hp hg
    have h0 : s = 0 := by
      rcases Nat.eq_zero_or_pos s with q | q
      · exact q
      · have := Nat.mul_pos (show 0 < L by omega) q
        omega
    rw [h0, Nat.gcd_zero_right] at hg
    subst hg
    refine g_iload (n := 9) dX8_commonDivisor_7 rfl rfl ?_
    refine g_bipush (v := nI 64) (n := 11) dX8_commonDivisor_9 (by decide) rfl ?_
    refine g_icmp_ge (tgt := 34) (n := 14) dX8_commonDivisor_11 (by decide) rfl (fun c11 => ?_) (fun c11 => absurd (nI_le (by omega) (by omega)) c11)
    refine g_iload_n (n := 35) dX8_commonDivisor_34 rfl rfl ?_
    exact g_iret (ty := .int) dX8_commonDivisor_35 rfl rfl hz hQ
  | succ n ih =>
    intro i L s o5 hi hs hL hp hg
    rcases Nat.eq_zero_or_pos s with h0 | h0
    · subst h0
      rw [Nat.gcd_zero_right] at hg
      subst hg
      refine g_iload (n := 9) dX8_commonDivisor_7 rfl rfl ?_
      refine g_bipush (v := nI 64) (n := 11) dX8_commonDivisor_9 (by decide) rfl ?_
      refine g_icmp_ge (tgt := 34) (n := 14) dX8_commonDivisor_11 (by decide) rfl (fun c11 => absurd c11 (nI_ge (by omega) (by omega))) (fun c11 => ?_)
      refine g_iload_n (n := 15) dX8_commonDivisor_14 rfl rfl ?_
      refine g_if_eq (tgt := 34) (n := 18) dX8_commonDivisor_15 (by decide) rfl (fun c15 => ?_) (fun c15 => absurd rfl c15)
      refine g_iload_n (n := 35) dX8_commonDivisor_34 rfl rfl ?_
      exact g_iret (ty := .int) dX8_commonDivisor_35 rfl rfl hz hQ
    · have h1 := gcd_step hs h0 hp
      refine g_iload (n := 9) dX8_commonDivisor_7 rfl rfl ?_
      refine g_bipush (v := nI 64) (n := 11) dX8_commonDivisor_9 (by decide) rfl ?_
      refine g_icmp_ge (tgt := 34) (n := 14) dX8_commonDivisor_11 (by decide) rfl (fun c11 => absurd c11 (nI_ge (by omega) (by omega))) (fun c11 => ?_)
      refine g_iload_n (n := 15) dX8_commonDivisor_14 rfl rfl ?_
      refine g_if_eq (tgt := 34) (n := 18) dX8_commonDivisor_15 (by decide) rfl (fun c15 => absurd c15 (nI_ne0 h0 (by omega))) (fun c15 => ?_)
      refine g_iload_n (n := 19) dX8_commonDivisor_18 rfl rfl ?_
      refine g_iload_n (n := 20) dX8_commonDivisor_19 rfl rfl ?_
      refine g_irem (n := 21) dX8_commonDivisor_20 (nI_ne0 h0 (by omega)) rfl ?_
      refine g_top (pk_rem (by omega) (by omega) (by omega)) ?_
      refine g_istore (n := 23) dX8_commonDivisor_21 (by decide) rfl rfl ?_
      refine g_lsN (ls' := [_, _, _, _, _, _]) rfl ?_
      refine g_iload_n (n := 24) dX8_commonDivisor_23 rfl rfl ?_
      refine g_istore_n (n := 25) dX8_commonDivisor_24 (by decide) rfl rfl ?_
      refine g_lsN (ls' := [_, _, _, _, _, _]) rfl ?_
      refine g_iload (n := 27) dX8_commonDivisor_25 rfl rfl ?_
      refine g_istore_n (n := 28) dX8_commonDivisor_27 (by decide) rfl rfl ?_
      refine g_lsN (ls' := [_, _, _, _, _, _]) rfl ?_
      refine g_iincN (k := 1) (n := 31) dX8_commonDivisor_28 rfl (by decide) rfl rfl ?_
      refine g_lsN (ls' := [_, _, _, _, _, _]) rfl ?_
      refine g_goto (tgt := 7) dX8_commonDivisor_31 (by decide) ?_
      exact ih (i + 1) s (L % s) _ (by omega) h1.1 (by omega) h1.2 (by rw [← hg, Nat.gcd_comm s, ← Nat.gcd_rec, Nat.gcd_comm])
set_option maxRecDepth 20000 in
theorem t_X8_gcd (l : Launch) (a b : Nat) (ha : a < 2 ^ 31) (hb0 : 0 < b) (hbb : b < 2 ^ 31) : Fn l M_X8_commonDivisor [.int (nI a), .int (nI b)] [] (some (.int (nI (Nat.gcd a b)))) [] := by
  have h1 : a % b < b := Nat.mod_lt _ hb0
  have h2 : b * (a % b) < 2 ^ 63 := by
    have := Nat.mul_lt_mul'' hbb (show a % b < 2 ^ 31 by omega)
    omega
  refine con_of rfl rfl (Nat.le_of_ble_eq_true rfl) ?_
  refine g_lsN (ls' := [_, _, _, _, _, _]) rfl ?_
  refine g_iload_n (n := 1) dX8_commonDivisor_0 rfl rfl ?_
  refine g_istore_n (n := 2) dX8_commonDivisor_1 (by decide) rfl rfl ?_
  refine g_lsN (ls' := [_, _, _, _, _, _]) rfl ?_
  refine g_iload_n (n := 3) dX8_commonDivisor_2 rfl rfl ?_
  refine g_istore_n (n := 4) dX8_commonDivisor_3 (by decide) rfl rfl ?_
  refine g_lsN (ls' := [_, _, _, _, _, _]) rfl ?_
  refine g_iconst (v := nI 0) (n := 5) dX8_commonDivisor_4 (by decide) rfl ?_
  refine g_istore (n := 7) dX8_commonDivisor_5 (by decide) rfl rfl ?_
  refine g_lsN (ls' := [_, _, _, _, _, _]) rfl ?_
  refine g_iload (n := 9) dX8_commonDivisor_7 rfl rfl ?_
  refine g_bipush (v := nI 64) (n := 11) dX8_commonDivisor_9 (by decide) rfl ?_
  refine g_icmp_ge (tgt := 34) (n := 14) dX8_commonDivisor_11 (by decide) rfl (fun c11 => absurd c11 (by decide)) (fun c11 => ?_)
  refine g_iload_n (n := 15) dX8_commonDivisor_14 rfl rfl ?_
  refine g_if_eq (tgt := 34) (n := 18) dX8_commonDivisor_15 (by decide) rfl (fun c15 => absurd c15 (nI_ne0 hb0 (by omega))) (fun c15 => ?_)
  refine g_iload_n (n := 19) dX8_commonDivisor_18 rfl rfl ?_
  refine g_iload_n (n := 20) dX8_commonDivisor_19 rfl rfl ?_
  refine g_irem (n := 21) dX8_commonDivisor_20 (nI_ne0 hb0 (by omega)) rfl ?_
  refine g_top (pk_rem (by omega) (by omega) (by omega)) ?_
  refine g_istore (n := 23) dX8_commonDivisor_21 (by decide) rfl rfl ?_
  refine g_lsN (ls' := [_, _, _, _, _, _]) rfl ?_
  refine g_iload_n (n := 24) dX8_commonDivisor_23 rfl rfl ?_
  refine g_istore_n (n := 25) dX8_commonDivisor_24 (by decide) rfl rfl ?_
  refine g_lsN (ls' := [_, _, _, _, _, _]) rfl ?_
  refine g_iload (n := 27) dX8_commonDivisor_25 rfl rfl ?_
  refine g_istore_n (n := 28) dX8_commonDivisor_27 (by decide) rfl rfl ?_
  refine g_lsN (ls' := [_, _, _, _, _, _]) rfl ?_
  refine g_iincN (k := 1) (n := 31) dX8_commonDivisor_28 rfl (by decide) rfl rfl ?_
  refine g_lsN (ls' := [_, _, _, _, _, _]) rfl ?_
  refine g_goto (tgt := 7) dX8_commonDivisor_31 (by decide) ?_
  exact lp_X8_gcd l _ ⟨Nat.zero_le _, Nat.zero_le _⟩ _ a b (Nat.gcd a b) ⟨rfl, rfl⟩ 63 1 b (a % b) _ (by omega) (by omega) hbb h2 (by rw [Nat.gcd_comm b, ← Nat.gcd_rec, Nat.gcd_comm])
set_option maxRecDepth 20000 in
theorem t_X8_shirkWeight (l : Launch) (fell : Int32) (T : ST) (hT : okZ T) (ra lo pr rb lb pb : Nat → Int32) (kc : Int32) (S : ST) (V : WT) (hV : okV V) (dn : Int32) (fb : Nat → Int32) (U : WT) (un : Int32) (ub : Nat → Int32) (a : Nat) (ha : a + 100 < 2 ^ 31) (hS : okS V S a) (hU : okU S) (x t : Nat) (hx : x ≤ 10) (ht : t < 256) (hle : onN (nI t) 8 ≤ onN (sup S) 8) : Con l M_X8_shirkWeight [.ref 0, .int (nI t), .int (nI x)] (xa fell T ra lo pr rb lb pb kc S V dn fb U un ub) (fun r u => r = some (.int (nI (x ^ onN (nI t) 8 * (10 - x) ^ (onN (sup S) 8 - onN (nI t) 8)))) ∧ ∃ fell T ra lo pr rb lb pb, okZ T ∧ u = xa fell T ra lo pr rb lb pb kc S V dn fb U un ub) := by
  have h8 := onN_le (sup S) 8
  refine con_of rfl rfl (Nat.le_of_ble_eq_true rfl) ?_
  refine g_lsN (ls' := [_, _, _, _]) rfl ?_
  refine g_iload_n (n := 1) dX8_shirkWeight_0 rfl rfl ?_
  refine g_callSi (n := 4) cs_X8_238 (t_J6_bitCount l t ht) dX8_shirkWeight_1 rfl rfl ⟨by decide, by decide, rfl, rfl, Nat.zero_le _, Nat.zero_le _⟩ rfl (Nat.le_of_ble_eq_true rfl) rfl ?_
  refine g_top (on_nat _ 8 (by decide)) ?_
  refine g_istore_n (n := 5) dX8_shirkWeight_4 (by decide) rfl rfl ?_
  refine g_lsN (ls' := [_, _, _, _]) rfl ?_
  refine g_iload_n (n := 6) dX8_shirkWeight_5 rfl rfl ?_
  refine g_iload_n (n := 7) dX8_shirkWeight_6 rfl rfl ?_
  refine g_callSi (n := 10) cs_X8_243 (t_X8_power l _ _ (by omega)) dX8_shirkWeight_7 rfl rfl ⟨by decide, by decide, rfl, rfl, Nat.zero_le _, Nat.zero_le _⟩ rfl (Nat.le_of_ble_eq_true rfl) rfl ?_
  refine g_bipush (v := nI 10) (n := 12) dX8_shirkWeight_10 (by decide) rfl ?_
  refine g_iload_n (n := 13) dX8_shirkWeight_12 rfl rfl ?_
  refine g_isubN (n := 14) dX8_shirkWeight_13 rfl hx ?_
  refine g_aload_n (n := 15) dX8_shirkWeight_14 rfl rfl ?_
  refine g_get (n := 18) fl_X8_47 dX8_shirkWeight_15 rfl rfl rfl ?_
  refine g_get (n := 21) fl_X8_198 dX8_shirkWeight_18 rfl rfl rfl ?_
  refine g_callSi (n := 24) cs_X8_238 (t_J6_bitN l _ hU.1) dX8_shirkWeight_21 rfl rfl ⟨by decide, by decide, rfl, rfl, Nat.zero_le _, Nat.zero_le _⟩ rfl (Nat.le_of_ble_eq_true rfl) rfl ?_
  refine g_top (on_nat _ 8 (by decide)) ?_
  refine g_iload_n (n := 25) dX8_shirkWeight_24 rfl rfl ?_
  refine g_isubN (n := 26) dX8_shirkWeight_25 rfl hle ?_
  refine g_callSi (n := 29) cs_X8_243 (t_X8_power l _ _ (by omega)) dX8_shirkWeight_26 rfl rfl ⟨by decide, by decide, rfl, rfl, Nat.zero_le _, Nat.zero_le _⟩ rfl (Nat.le_of_ble_eq_true rfl) rfl ?_
  refine g_imulN (n := 30) dX8_shirkWeight_29 rfl ?_
  exact g_iret (ty := .int) dX8_shirkWeight_30 rfl rfl ⟨Nat.zero_le _, Nat.zero_le _⟩ ⟨rfl, _, _, _, _, _, _, _, _, hT, rfl⟩
set_option maxRecDepth 20000 in
theorem t_X8_standsWithShirkers (l : Launch) (fell : Int32) (T : ST) (hT : okZ T) (ra lo pr rb lb pb : Nat → Int32) (kc : Int32) (S : ST) (V : WT) (hV : okV V) (dn : Int32) (fb : Nat → Int32) (U : WT) (un : Int32) (ub : Nat → Int32) (a : Nat) (ha : a + 100 < 2 ^ 31) (hS : okS V S a) (x : Int32) : Con l M_X8_standsWithShirkers [.ref 0, .int x] (xa fell T ra lo pr rb lb pb kc S V dn fb U un ub) (fun r u => r = some (.int (bI (skB V S x))) ∧ ∃ fell T ra lo pr rb lb pb, okZ T ∧ u = xa fell T ra lo pr rb lb pb kc S V dn fb U un ub) := by
  refine con_of rfl rfl (Nat.le_of_ble_eq_true rfl) ?_
  refine g_lsN (ls' := [_, _]) rfl ?_
  refine g_aload_n (n := 1) dX8_standsWithShirkers_0 rfl rfl ?_
  refine g_get (n := 4) fl_X8_33 dX8_standsWithShirkers_1 rfl rfl rfl ?_
  refine g_aload_n (n := 5) dX8_standsWithShirkers_4 rfl rfl ?_
  refine g_get (n := 8) fl_X8_47 dX8_standsWithShirkers_5 rfl rfl rfl ?_
  refine g_cutVv (ps := [1, 2, 3, 4, 5, 10, 11, 12, 13, 6]) (w' := [_, _, _, _, _, _, _, _, _, _, _, _, _, _, _, _, _, _, _, _, _, _, _, _, _, _, _, _, _, _, _, _]) (n := 11) cv_X8_176 (t_X6_startFrom l _ _ S hT hS.1) dX8_standsWithShirkers_8 rfl rfl rfl ⟨by decide, by decide, rfl, rfl, Nat.zero_le _, Nat.zero_le _⟩ rfl rfl rfl (Nat.le_of_ble_eq_true rfl) rfl rfl rfl ?_
  refine g_aload_n (n := 12) dX8_standsWithShirkers_11 rfl rfl ?_
  refine g_get (n := 15) fl_X8_33 dX8_standsWithShirkers_12 rfl rfl rfl ?_
  refine g_get (n := 18) fl_X8_262 dX8_standsWithShirkers_15 rfl rfl rfl ?_
  refine g_aload_n (n := 19) dX8_standsWithShirkers_18 rfl rfl ?_
  refine g_get (n := 22) fl_X8_47 dX8_standsWithShirkers_19 rfl rfl rfl ?_
  refine g_get (n := 25) fl_X8_198 dX8_standsWithShirkers_22 rfl rfl rfl ?_
  refine g_iload_n (n := 26) dX8_standsWithShirkers_25 rfl rfl ?_
  refine g_iconst (v := (-1)) (n := 27) dX8_standsWithShirkers_26 (by decide) rfl ?_
  refine g_ixor (n := 28) dX8_standsWithShirkers_27 rfl ?_
  refine g_iand (n := 29) dX8_standsWithShirkers_28 rfl ?_
  refine g_put (n := 32) pf_X8_198 dX8_standsWithShirkers_29 rfl (Nat.le_of_ble_eq_true rfl) (fun _ => rfl) (fun _ => rfl) rfl ?_
  refine g_wN (w' := [_, _, _, _, _, _, _, _, _, _, _, _, _, _, _, _, _, _, _, _, _, _, _, _, _, _, _, _, _, _, _, _]) rfl ?_
  refine g_aload_n (n := 33) dX8_standsWithShirkers_32 rfl rfl ?_
  refine g_get (n := 36) fl_X8_33 dX8_standsWithShirkers_33 rfl rfl rfl ?_
  refine g_aload_n (n := 37) dX8_standsWithShirkers_36 rfl rfl ?_
  refine g_get (n := 40) fl_X8_65 dX8_standsWithShirkers_37 rfl rfl rfl ?_
  refine g_iconst (v := nI 1) (n := 41) dX8_standsWithShirkers_40 (by decide) rfl ?_
  refine g_cutV (ps := [1, 2, 3, 4, 5, 6, 7, 8, 9, 14, 15, 16, 17, 18, 19, 20]) (n := 44) cv_X8_179 (t_X6_fallsBehind l V hV dn fb 1 (by decide) (sk0 S x) _ _ _ _ a (by omega) hS) dX8_standsWithShirkers_41 rfl rfl rfl ⟨by decide, by decide, rfl, rfl, Nat.zero_le _, Nat.zero_le _⟩ rfl rfl rfl (Nat.le_of_ble_eq_true rfl) rfl (fun r cw41 hq41 => ?_)
  obtain ⟨rfl, ra2, lo2, pr2, rfl⟩ := hq41
  refine ⟨rfl, ?_⟩
  refine g_stN (st' := .int _ :: []) rfl ?_
  refine g_wN (w' := [_, _, _, _, _, _, _, _, _, _, _, _, _, _, _, _, _, _, _, _, _, _, _, _, _, _, _, _, _, _, _, _]) rfl ?_
  rw [ff_1]
  refine g_bipush (v := (-4)) (n := 46) dX8_standsWithShirkers_44 (by decide) rfl ?_
  refine g_icmp_eq (tgt := 51) (n := 49) dX8_standsWithShirkers_46 (by decide) rfl (fun c46 => ?_) (fun c46 => ?_)
  ·
    have q : flN V (sk0 S x) (vnb V) = 0 := Classical.byContradiction (fun q => by rw [if_neg q] at c46; exact absurd c46 (show ¬ nI 1 = (-4) by decide))
    rw [if_pos q]
    refine g_aload_n (n := 52) dX8_standsWithShirkers_51 rfl rfl ?_
    refine g_get (n := 55) fl_X8_33 dX8_standsWithShirkers_52 rfl rfl rfl ?_
    refine g_get (n := 58) fl_X8_262 dX8_standsWithShirkers_55 rfl rfl rfl ?_
    refine g_dup (n := 59) dX8_standsWithShirkers_58 rfl rfl ?_
    refine g_get (n := 62) fl_X8_198 dX8_standsWithShirkers_59 rfl rfl rfl ?_
    refine g_iload_n (n := 63) dX8_standsWithShirkers_62 rfl rfl ?_
    refine g_ior (n := 64) dX8_standsWithShirkers_63 rfl ?_
    refine g_put (n := 67) pf_X8_198 dX8_standsWithShirkers_64 rfl (Nat.le_of_ble_eq_true rfl) (fun _ => rfl) (fun _ => rfl) rfl ?_
    refine g_wN (w' := [_, _, _, _, _, _, _, _, _, _, _, _, _, _, _, _, _, _, _, _, _, _, _, _, _, _, _, _, _, _, _, _]) rfl ?_
    refine g_aload_n (n := 68) dX8_standsWithShirkers_67 rfl rfl ?_
    refine g_get (n := 71) fl_X8_33 dX8_standsWithShirkers_68 rfl rfl rfl ?_
    refine g_aload_n (n := 72) dX8_standsWithShirkers_71 rfl rfl ?_
    refine g_get (n := 75) fl_X8_65 dX8_standsWithShirkers_72 rfl rfl rfl ?_
    refine g_bipush (v := nI 11) (n := 77) dX8_standsWithShirkers_75 (by decide) rfl ?_
    refine g_cutV (ps := [1, 2, 3, 4, 5, 6, 7, 8, 9, 14, 15, 16, 17, 18, 19, 20]) (n := 80) cv_X8_179 (t_X6_fallsBehind l V hV dn fb 11 (by decide) (sUp (psF V (sk0 S x)) (sup (psF V (sk0 S x)) ||| x)) _ _ _ _ (a + 1) (by omega) (okS_ps hV hS)) dX8_standsWithShirkers_77 rfl rfl rfl ⟨by decide, by decide, rfl, rfl, Nat.zero_le _, Nat.zero_le _⟩ rfl rfl rfl (Nat.le_of_ble_eq_true rfl) rfl (fun r cw77 hq77 => ?_)
    obtain ⟨rfl, ra3, lo3, pr3, rfl⟩ := hq77
    refine ⟨rfl, ?_⟩
    refine g_stN (st' := .int _ :: []) rfl ?_
    refine g_wN (w' := [_, _, _, _, _, _, _, _, _, _, _, _, _, _, _, _, _, _, _, _, _, _, _, _, _, _, _, _, _, _, _, _]) rfl ?_
    refine g_bipush (v := (-4)) (n := 82) dX8_standsWithShirkers_80 (by decide) rfl ?_
    refine g_icmp_ne (tgt := 89) (n := 85) dX8_standsWithShirkers_82 (by decide) rfl (fun c82 => ?_) (fun c82 => ?_)
    ·
      rw [ff_fk hV] at c82
      have c : fk V (sUp (psF V (sk0 S x)) (sup (psF V (sk0 S x)) ||| x)) 11 ≤ 11 := Classical.byContradiction (fun q => c82 (if_neg q))
      have hF : skB V S x = false := by unfold skB; rw [decide_eq_true c]; exact Bool.and_false _
      refine g_iconst (v := nI 0) (n := 90) dX8_standsWithShirkers_89 (by decide) rfl ?_
      exact g_iret (ty := .boolean) dX8_standsWithShirkers_90 rfl (by first | exact bI_nar _ | decide) ⟨Nat.zero_le _, Nat.zero_le _⟩ ⟨by first | exact okT hT | exact okF hF, _, _, _, _, _, _, _, _, okZ_ff hV 11 0 (sUp (psF V (sk0 S x)) (sup (psF V (sk0 S x)) ||| x)) _ (okZ_ps hV hS.1), rfl⟩
    ·
      rw [ff_fk hV] at c82
      have c : ¬ fk V (sUp (psF V (sk0 S x)) (sup (psF V (sk0 S x)) ||| x)) 11 ≤ 11 := fun q => absurd c82 (by rw [if_pos q]; exact nI_m4 (by omega))
      have hT : skB V S x = true := by unfold skB; rw [decide_eq_true q, decide_eq_false c]; rfl
      refine g_iconst (v := nI 1) (n := 86) dX8_standsWithShirkers_85 (by decide) rfl ?_
      refine g_goto (tgt := 90) dX8_standsWithShirkers_86 (by decide) ?_
      exact g_iret (ty := .boolean) dX8_standsWithShirkers_90 rfl (by first | exact bI_nar _ | decide) ⟨Nat.zero_le _, Nat.zero_le _⟩ ⟨by first | exact okT hT | exact okF hF, _, _, _, _, _, _, _, _, okZ_ff hV 11 0 (sUp (psF V (sk0 S x)) (sup (psF V (sk0 S x)) ||| x)) _ (okZ_ps hV hS.1), rfl⟩
  ·
    have q : ¬ flN V (sk0 S x) (vnb V) = 0 := fun q => c46 (by rw [if_pos q])
    have hF : skB V S x = false := by unfold skB; rw [decide_eq_false q]; rfl
    rw [if_neg q]
    refine g_iconst (v := nI 0) (n := 50) dX8_standsWithShirkers_49 (by decide) rfl ?_
    exact g_iret (ty := .boolean) dX8_standsWithShirkers_50 rfl (by first | exact bI_nar _ | decide) ⟨Nat.zero_le _, Nat.zero_le _⟩ ⟨okF hF, _, _, _, _, _, _, _, _, okZ_ps (S := sk0 S x) hV hS.1, rfl⟩
set_option maxRecDepth 20000 in
theorem t_X8_shirkers_bad1 (l : Launch) (fell : Int32) (T : ST) (hT : okZ T) (ra lo pr rb lb pb : Nat → Int32) (kc : Int32) (S : ST) (V : WT) (hV : okV V) (dn : Int32) (fb : Nat → Int32) (U : WT) (un : Int32) (ub : Nat → Int32) (a : Nat) (ha : a + 100 < 2 ^ 31) (hS : okS V S a) (x y : Int32) (h : inB x (nI 0) (nI 10) = false) : Con l M_X8_shirkers [.ref 0, .int x, .int y] (xa fell T ra lo pr rb lb pb kc S V dn fb U un ub) (fun r u => r = some (.int (-1)) ∧ ∃ fell T ra lo pr rb lb pb, okZ T ∧ u = xa fell T ra lo pr rb lb pb kc S V dn fb U un ub) := by
  refine con_of rfl rfl (Nat.le_of_ble_eq_true rfl) ?_
  refine g_lsN (ls' := [_, _, _, _, _, _, _]) rfl ?_
  refine g_iload_n (n := 1) dX8_shirkers_0 rfl rfl ?_
  refine g_if_lt (tgt := 19) (n := 4) dX8_shirkers_1 (by decide) rfl (fun c1 => ?_) (fun c1 => ?_)
  ·
    refine g_iconst (v := (-1)) (n := 20) dX8_shirkers_19 (by decide) rfl ?_
    exact g_iret (ty := .int) dX8_shirkers_20 rfl rfl ⟨Nat.zero_le _, Nat.zero_le _⟩ ⟨rfl, _, _, _, _, _, _, _, _, hT, rfl⟩
  ·
    refine g_iload_n (n := 5) dX8_shirkers_4 rfl rfl ?_
    refine g_bipush (v := nI 10) (n := 7) dX8_shirkers_5 (by decide) rfl ?_
    refine g_icmp_gt (tgt := 19) (n := 10) dX8_shirkers_7 (by decide) rfl (fun c7 => ?_) (fun c7 => ?_)
    ·
      refine g_iconst (v := (-1)) (n := 20) dX8_shirkers_19 (by decide) rfl ?_
      exact g_iret (ty := .int) dX8_shirkers_20 rfl rfl ⟨Nat.zero_le _, Nat.zero_le _⟩ ⟨rfl, _, _, _, _, _, _, _, _, hT, rfl⟩
    ·
      exact inB_x h c1 (Int32.not_lt.mp c7)
set_option maxRecDepth 20000 in
theorem t_X8_shirkers_bad2 (l : Launch) (fell : Int32) (T : ST) (hT : okZ T) (ra lo pr rb lb pb : Nat → Int32) (kc : Int32) (S : ST) (V : WT) (hV : okV V) (dn : Int32) (fb : Nat → Int32) (U : WT) (un : Int32) (ub : Nat → Int32) (a : Nat) (ha : a + 100 < 2 ^ 31) (hS : okS V S a) (x y : Int32) (h : inB x (nI 0) (nI 10) = true) (h2 : inB y (nI 0) (nI 1) = false) : Con l M_X8_shirkers [.ref 0, .int x, .int y] (xa fell T ra lo pr rb lb pb kc S V dn fb U un ub) (fun r u => r = some (.int (-1)) ∧ ∃ fell T ra lo pr rb lb pb, okZ T ∧ u = xa fell T ra lo pr rb lb pb kc S V dn fb U un ub) := by
  refine con_of rfl rfl (Nat.le_of_ble_eq_true rfl) ?_
  refine g_lsN (ls' := [_, _, _, _, _, _, _]) rfl ?_
  refine g_iload_n (n := 1) dX8_shirkers_0 rfl rfl ?_
  refine g_if_lt (tgt := 19) (n := 4) dX8_shirkers_1 (by decide) rfl (fun c1 => absurd c1 (inB_ge h)) (fun c1 => ?_)
  refine g_iload_n (n := 5) dX8_shirkers_4 rfl rfl ?_
  refine g_bipush (v := nI 10) (n := 7) dX8_shirkers_5 (by decide) rfl ?_
  refine g_icmp_gt (tgt := 19) (n := 10) dX8_shirkers_7 (by decide) rfl (fun c7 => absurd c7 (Int32.not_lt.mpr (inB_le h))) (fun c7 => ?_)
  refine g_iload_n (n := 11) dX8_shirkers_10 rfl rfl ?_
  refine g_if_lt (tgt := 19) (n := 14) dX8_shirkers_11 (by decide) rfl (fun c11 => ?_) (fun c11 => ?_)
  ·
    refine g_iconst (v := (-1)) (n := 20) dX8_shirkers_19 (by decide) rfl ?_
    exact g_iret (ty := .int) dX8_shirkers_20 rfl rfl ⟨Nat.zero_le _, Nat.zero_le _⟩ ⟨rfl, _, _, _, _, _, _, _, _, hT, rfl⟩
  ·
    refine g_iload_n (n := 15) dX8_shirkers_14 rfl rfl ?_
    refine g_iconst (v := nI 1) (n := 16) dX8_shirkers_15 (by decide) rfl ?_
    refine g_icmp_le (tgt := 21) (n := 19) dX8_shirkers_16 (by decide) rfl (fun c16 => ?_) (fun c16 => ?_)
    ·
      exact inB_x h2 c11 c16
    ·
      refine g_iconst (v := (-1)) (n := 20) dX8_shirkers_19 (by decide) rfl ?_
      exact g_iret (ty := .int) dX8_shirkers_20 rfl rfl ⟨Nat.zero_le _, Nat.zero_le _⟩ ⟨rfl, _, _, _, _, _, _, _, _, hT, rfl⟩
set_option maxRecDepth 20000 in
set_option maxHeartbeats 1000000 in
theorem lp_X8_shirkers (l : Launch) (z : Nat × Nat × Nat) (hz : z.2.1 ≤ 0 ∧ z.2.2 ≤ 0) (Q : Option Value → List va_E → Prop)  (kc : Int32) (S : ST) (V : WT) (hV : okV V) (dn : Int32) (fb : Nat → Int32) (U : WT) (un : Int32) (ub : Nat → Int32) (a : Nat) (ha : a + 100 < 2 ^ 31) (hS : okS V S a) (hU : okU S) (hP : okP V S) (x : Nat) (hx : x ≤ 10) (wh : Nat) (hwh : wh < 2) (hQ : ∀ fell T ra lo pr rb lb pb, okZ T → Q (some (.int (if wh = 0 then nI ((abM V S x (2 ^ vnf V)) / Nat.gcd (abM V S x (2 ^ vnf V)) (beM S)) else nI ((beM S) / Nat.gcd (abM V S x (2 ^ vnf V)) (beM S))))) (xa fell T ra lo pr rb lb pb kc S V dn fb U un ub)) : ∀ t, t ≤ 2 ^ vnf V → ∀ (fell : Int32) (T : ST) (hT : okZ T) (ra lo pr rb lb pb : Nat → Int32) (o6 : Option Value), G l M_X8_shirkers z Q 43 [some (.ref 0), some (.int (nI x)), some (.int (nI wh)), some (.int (nI (abM V S x t))), some (.int (nI (beM S))), some (.int (nI t)), o6] [] (xa fell T ra lo pr rb lb pb kc S V dn fb U un ub) := by
  have hV1 := hV.1
  have hV2 := hV.2.1
  have hV3 := hV.2.2
  have hp := pow6 hV2
  have hab := abM_le hV S hx (2 ^ vnf V)
  have hbe := beM_ok S
  have hg : 0 < Nat.gcd (abM V S x (2 ^ vnf V)) (beM S) := Nat.gcd_pos_of_pos_right _ (by omega)
  have hg2 : Nat.gcd (abM V S x (2 ^ vnf V)) (beM S) ≤ (beM S) := Nat.gcd_le_right _ (by omega)
  refine loopN (2 ^ vnf V) ?_ (fun t ht ih => ?_)
  ·
    intro fell T hT ra lo pr rb lb pb o6
    refine g_iload (n := 45) dX8_shirkers_43 rfl rfl ?_
    refine g_aload_n (n := 46) dX8_shirkers_45 rfl rfl ?_
    refine g_get (n := 49) fl_X8_65 dX8_shirkers_46 rfl rfl rfl ?_
    refine g_cutVi (ps := [14, 15, 16, 17, 18, 19, 20]) (w' := [_, _, _, _, _, _, _, _, _, _, _, _, _, _, _, _, _, _, _, _, _, _, _, _, _, _, _, _, _, _, _, _]) (n := 52) cv_X8_185 (t_X7_allButtresses l V hV dn) dX8_shirkers_49 rfl rfl rfl ⟨by decide, by decide, rfl, rfl, hz.1, hz.2⟩ rfl rfl rfl (Nat.le_of_ble_eq_true rfl) rfl rfl rfl ?_
    refine g_icmp_gt (tgt := 108) (n := 55) dX8_shirkers_52 (by decide) rfl (fun c52 => ?_) (fun c52 => absurd (nI_sub_lt (Nat.le_refl _) (Nat.one_le_two_pow) (by omega)) c52)
    refine g_iload_n (n := 109) dX8_shirkers_108 rfl rfl ?_
    refine g_iload (n := 111) dX8_shirkers_109 rfl rfl ?_
    refine g_callSi (n := 114) cs_X8_252 (t_X8_gcd l _ _ (by omega) (by omega) (by omega)) dX8_shirkers_111 rfl rfl ⟨by decide, by decide, rfl, rfl, hz.1, hz.2⟩ rfl (Nat.le_of_ble_eq_true rfl) rfl ?_
    refine g_istore (n := 116) dX8_shirkers_114 (by decide) rfl rfl ?_
    refine g_lsN (ls' := [_, _, _, _, _, _, _]) rfl ?_
    refine g_iload_n (n := 117) dX8_shirkers_116 rfl rfl ?_
    refine g_if_ne (tgt := 124) (n := 120) dX8_shirkers_117 (by decide) rfl (fun c117 => ?_) (fun c117 => ?_)
    ·
      have hw : ¬ wh = 0 := fun q => c117 (by rw [q]; rfl)
      rw [if_neg hw] at hQ
      refine g_iload (n := 126) dX8_shirkers_124 rfl rfl ?_
      refine g_istore (n := 128) dX8_shirkers_126 (by decide) rfl rfl ?_
      refine g_lsN (ls' := [_, _, _, _, _, _, _]) rfl ?_
      refine g_iload (n := 130) dX8_shirkers_128 rfl rfl ?_
      refine g_if_le (tgt := 141) (n := 133) dX8_shirkers_130 (by decide) rfl (fun c130 => absurd c130 (nI_nle hg (by omega))) (fun c130 => ?_)
      refine g_iload (n := 135) dX8_shirkers_133 rfl rfl ?_
      refine g_iload (n := 137) dX8_shirkers_135 rfl rfl ?_
      refine g_idiv (n := 138) dX8_shirkers_137 (nI_ne0 hg (by omega)) rfl ?_
      refine g_top (pk_div (by omega) hg (by omega)) ?_
      refine g_goto (tgt := 143) dX8_shirkers_138 (by decide) ?_
      exact g_iret (ty := .int) dX8_shirkers_143 rfl rfl hz (hQ _ _ _ _ _ _ _ _ hT)
    ·
      have hw : wh = 0 := by
        rcases Nat.eq_zero_or_pos wh with q | q
        · exact q
        · exact absurd c117 (nI_ne0 q (by omega))
      rw [if_pos hw] at hQ
      refine g_iload_n (n := 121) dX8_shirkers_120 rfl rfl ?_
      refine g_goto (tgt := 126) dX8_shirkers_121 (by decide) ?_
      refine g_istore (n := 128) dX8_shirkers_126 (by decide) rfl rfl ?_
      refine g_lsN (ls' := [_, _, _, _, _, _, _]) rfl ?_
      refine g_iload (n := 130) dX8_shirkers_128 rfl rfl ?_
      refine g_if_le (tgt := 141) (n := 133) dX8_shirkers_130 (by decide) rfl (fun c130 => absurd c130 (nI_nle hg (by omega))) (fun c130 => ?_)
      refine g_iload (n := 135) dX8_shirkers_133 rfl rfl ?_
      refine g_iload (n := 137) dX8_shirkers_135 rfl rfl ?_
      refine g_idiv (n := 138) dX8_shirkers_137 (nI_ne0 hg (by omega)) rfl ?_
      refine g_top (pk_div (by omega) hg (by omega)) ?_
      refine g_goto (tgt := 143) dX8_shirkers_138 (by decide) ?_
      exact g_iret (ty := .int) dX8_shirkers_143 rfl rfl hz (hQ _ _ _ _ _ _ _ _ hT)
  ·
    intro fell T hT ra lo pr rb lb pb o6
    have hw9 := Nat.le_trans (itM_le hx (sup S) t (vnf V)) (pow10 hV2)
    have J81 : ∀ (w : Nat) (fell : Int32) (T : ST) (hT : okZ T) (ra lo pr rb lb pb : Nat → Int32) (o6 : Option Value), w ≤ 1000000 → abM V S x (t + 1) = abM V S x t + (if skB V S (nI t) then w else 0) → G l M_X8_shirkers z Q 81 [some (.ref 0), some (.int (nI x)), some (.int (nI wh)), some (.int (nI (abM V S x t))), some (.int (nI (beM S))), some (.int (nI t)), o6] [.int (nI w)] (xa fell T ra lo pr rb lb pb kc S V dn fb U un ub) := by
      intro w fell T hT ra lo pr rb lb pb o6 hw e9
      refine g_istore (n := 83) dX8_shirkers_81 (by decide) rfl rfl ?_
      refine g_lsN (ls' := [_, _, _, _, _, _, _]) rfl ?_
      refine g_iload (n := 85) dX8_shirkers_83 rfl rfl ?_
      refine g_if_le (tgt := 102) (n := 88) dX8_shirkers_85 (by decide) rfl (fun c85 => ?_) (fun c85 => ?_)
      ·
        have w0 : w = 0 := by
          rcases Nat.eq_zero_or_pos w with q | q
          · exact q
          · exact absurd c85 (nI_nle q (by omega))
        have e9 : abM V S x (t + 1) = abM V S x t := by rw [e9, w0, ite_self]; rfl
        refine g_lsN (ls' := [some (.ref 0), some (.int (nI x)), some (.int (nI wh)), some (.int (nI (abM V S x (t + 1)))), some (.int (nI (beM S))), some (.int (nI t)), _]) (by rw [e9]) ?_
        refine g_iincN (k := 1) (n := 105) dX8_shirkers_102 rfl (by decide) rfl rfl ?_
        refine g_lsN (ls' := [_, _, _, _, _, _, _]) rfl ?_
        refine g_goto (tgt := 43) dX8_shirkers_105 (by decide) ?_
        first | exact ih _ _ hT3 _ _ _ _ _ _ _ | exact ih _ _ hT _ _ _ _ _ _ _
      ·
        refine g_aload_n (n := 89) dX8_shirkers_88 rfl rfl ?_
        refine g_iload (n := 91) dX8_shirkers_89 rfl rfl ?_
        refine g_callW (n := 94) cv_X8_249 (t_X8_standsWithShirkers l _ _ hT _ _ _ _ _ _ kc S V hV dn fb U un ub a ha hS (nI t)) dX8_shirkers_91 rfl ⟨by decide, by decide, rfl, rfl, hz.1, hz.2⟩ rfl rfl rfl (Nat.le_of_ble_eq_true rfl) rfl (fun r cw91 hq91 => ?_)
        obtain ⟨rfl, fell3, T3, ra3, lo3, pr3, rb3, lb3, pb3, hT3, rfl⟩ := hq91
        refine ⟨rfl, ?_⟩
        refine g_stN (st' := .int _ :: []) rfl ?_
        refine g_wN (w' := [_, _, _, _, _, _, _, _, _, _, _, _, _, _, _, _, _, _, _, _, _, _, _, _, _, _, _, _, _, _, _, _]) rfl ?_
        refine g_if_eq (tgt := 102) (n := 97) dX8_shirkers_94 (by decide) rfl (fun c94 => ?_) (fun c94 => ?_)
        ·
          have e9 : abM V S x (t + 1) = abM V S x t := by rw [e9, bI_0.mp c94]; rfl
          refine g_lsN (ls' := [some (.ref 0), some (.int (nI x)), some (.int (nI wh)), some (.int (nI (abM V S x (t + 1)))), some (.int (nI (beM S))), some (.int (nI t)), _]) (by rw [e9]) ?_
          refine g_iincN (k := 1) (n := 105) dX8_shirkers_102 rfl (by decide) rfl rfl ?_
          refine g_lsN (ls' := [_, _, _, _, _, _, _]) rfl ?_
          refine g_goto (tgt := 43) dX8_shirkers_105 (by decide) ?_
          first | exact ih _ _ hT3 _ _ _ _ _ _ _ | exact ih _ _ hT _ _ _ _ _ _ _
        ·
          rw [bI_n0.mp c94, if_pos rfl] at e9
          refine g_iload_n (n := 98) dX8_shirkers_97 rfl rfl ?_
          refine g_iload (n := 100) dX8_shirkers_98 rfl rfl ?_
          refine g_iaddN (n := 101) dX8_shirkers_100 rfl ?_
          refine g_istore_n (n := 102) dX8_shirkers_101 (by decide) rfl rfl ?_
          refine g_lsN (ls' := [_, _, _, _, _, _, _]) rfl ?_
          refine g_lsN (ls' := [some (.ref 0), some (.int (nI x)), some (.int (nI wh)), some (.int (nI (abM V S x (t + 1)))), some (.int (nI (beM S))), some (.int (nI t)), _]) (by rw [e9]) ?_
          refine g_iincN (k := 1) (n := 105) dX8_shirkers_102 rfl (by decide) rfl rfl ?_
          refine g_lsN (ls' := [_, _, _, _, _, _, _]) rfl ?_
          refine g_goto (tgt := 43) dX8_shirkers_105 (by decide) ?_
          first | exact ih _ _ hT3 _ _ _ _ _ _ _ | exact ih _ _ hT _ _ _ _ _ _ _
    refine g_iload (n := 45) dX8_shirkers_43 rfl rfl ?_
    refine g_aload_n (n := 46) dX8_shirkers_45 rfl rfl ?_
    refine g_get (n := 49) fl_X8_65 dX8_shirkers_46 rfl rfl rfl ?_
    refine g_cutVi (ps := [14, 15, 16, 17, 18, 19, 20]) (w' := [_, _, _, _, _, _, _, _, _, _, _, _, _, _, _, _, _, _, _, _, _, _, _, _, _, _, _, _, _, _, _, _]) (n := 52) cv_X8_185 (t_X7_allButtresses l V hV dn) dX8_shirkers_49 rfl rfl rfl ⟨by decide, by decide, rfl, rfl, hz.1, hz.2⟩ rfl rfl rfl (Nat.le_of_ble_eq_true rfl) rfl rfl rfl ?_
    refine g_icmp_gt (tgt := 108) (n := 55) dX8_shirkers_52 (by decide) rfl (fun c52 => absurd c52 (nI_sub_ge ht (Nat.one_le_two_pow) (by omega))) (fun c52 => ?_)
    refine g_iload (n := 57) dX8_shirkers_55 rfl rfl ?_
    refine g_aload_n (n := 58) dX8_shirkers_57 rfl rfl ?_
    refine g_get (n := 61) fl_X8_47 dX8_shirkers_58 rfl rfl rfl ?_
    refine g_get (n := 64) fl_X8_198 dX8_shirkers_61 rfl rfl rfl ?_
    refine g_callSi (n := 67) cs_X8_201 (t_X8_isPart l _ _) dX8_shirkers_64 rfl rfl ⟨by decide, by decide, rfl, rfl, hz.1, hz.2⟩ rfl (Nat.le_of_ble_eq_true rfl) rfl ?_
    refine g_if_eq (tgt := 80) (n := 70) dX8_shirkers_67 (by decide) rfl (fun c67 => ?_) (fun c67 => ?_)
    ·
      have hw0 : 0 ≤ 1000000 := by decide
      have e9 : abM V S x (t + 1) = abM V S x t + (if skB V S (nI t) then 0 else 0) := by rw [abM, bI_0.mp c67, ite_self]; rfl
      refine g_iconst (v := nI 0) (n := 81) dX8_shirkers_80 (by decide) rfl ?_
      exact J81 _ _ _ (by assumption) _ _ _ _ _ _ _ hw0 e9
    ·
      have hpa : nI t &&& (sup S ^^^ (-1)) = 0 := of_decide_eq_true (bI_n0.mp c67)
      have hw0 := hw9
      rw [wei hV hP (x := x) ht hpa] at hw0
      have e9 : abM V S x (t + 1) = abM V S x t + (if skB V S (nI t) then x ^ onN (nI t) 8 * (10 - x) ^ (onN (sup S) 8 - onN (nI t) 8) else 0) := by rw [abM, decide_eq_true hpa, sk_eq hV hP ht hpa, Bool.true_and, wei hV hP (x := x) ht hpa]
      refine g_aload_n (n := 71) dX8_shirkers_70 rfl rfl ?_
      refine g_iload (n := 73) dX8_shirkers_71 rfl rfl ?_
      refine g_iload_n (n := 74) dX8_shirkers_73 rfl rfl ?_
      refine g_callW (n := 77) cv_X8_246 (t_X8_shirkWeight l fell T hT ra lo pr rb lb pb kc S V hV dn fb U un ub a ha hS hU x t hx (by omega) (onN_sub (part_hb.mp hpa) 8 (by decide))) dX8_shirkers_74 rfl ⟨by decide, by decide, rfl, rfl, hz.1, hz.2⟩ rfl rfl rfl (Nat.le_of_ble_eq_true rfl) rfl (fun r cw74 hq74 => ?_)
      obtain ⟨rfl, fell2, T2, ra2, lo2, pr2, rb2, lb2, pb2, hT2, rfl⟩ := hq74
      refine ⟨rfl, ?_⟩
      refine g_stN (st' := .int _ :: []) rfl ?_
      refine g_wN (w' := [_, _, _, _, _, _, _, _, _, _, _, _, _, _, _, _, _, _, _, _, _, _, _, _, _, _, _, _, _, _, _, _]) rfl ?_
      refine g_goto (tgt := 81) dX8_shirkers_77 (by decide) ?_
      exact J81 _ _ _ (by assumption) _ _ _ _ _ _ _ hw0 e9
set_option maxRecDepth 20000 in
theorem t_X8_shirkers_ok (l : Launch) (fell : Int32) (T : ST) (hT : okZ T) (ra lo pr rb lb pb : Nat → Int32) (kc : Int32) (S : ST) (V : WT) (hV : okV V) (dn : Int32) (fb : Nat → Int32) (U : WT) (un : Int32) (ub : Nat → Int32) (a : Nat) (ha : a + 100 < 2 ^ 31) (hS : okS V S a) (hU : okU S) (hP : okP V S) (x : Nat) (hx : x ≤ 10) (h : inB (nI x) (nI 0) (nI 10) = true) (wh : Nat) (hwh : wh < 2) : Con l M_X8_shirkers [.ref 0, .int (nI x), .int (nI wh)] (xa fell T ra lo pr rb lb pb kc S V dn fb U un ub) (fun r u => r = some (.int (if wh = 0 then nI ((abM V S x (2 ^ vnf V)) / Nat.gcd (abM V S x (2 ^ vnf V)) (beM S)) else nI ((beM S) / Nat.gcd (abM V S x (2 ^ vnf V)) (beM S)))) ∧ ∃ fell T ra lo pr rb lb pb, okZ T ∧ u = xa fell T ra lo pr rb lb pb kc S V dn fb U un ub) := by
  refine con_of rfl rfl (Nat.le_of_ble_eq_true rfl) ?_
  refine g_lsN (ls' := [_, _, _, _, _, _, _]) rfl ?_
  refine g_iload_n (n := 1) dX8_shirkers_0 rfl rfl ?_
  refine g_if_lt (tgt := 19) (n := 4) dX8_shirkers_1 (by decide) rfl (fun c1 => absurd c1 (inB_ge h)) (fun c1 => ?_)
  refine g_iload_n (n := 5) dX8_shirkers_4 rfl rfl ?_
  refine g_bipush (v := nI 10) (n := 7) dX8_shirkers_5 (by decide) rfl ?_
  refine g_icmp_gt (tgt := 19) (n := 10) dX8_shirkers_7 (by decide) rfl (fun c7 => absurd c7 (Int32.not_lt.mpr (inB_le h))) (fun c7 => ?_)
  refine g_iload_n (n := 11) dX8_shirkers_10 rfl rfl ?_
  refine g_if_lt (tgt := 19) (n := 14) dX8_shirkers_11 (by decide) rfl (fun c11 => absurd c11 (inB_ge (show inB (nI wh) (nI 0) (nI 1) = true by rcases (show wh = 0 ∨ wh = 1 by omega) with rfl | rfl <;> decide))) (fun c11 => ?_)
  refine g_iload_n (n := 15) dX8_shirkers_14 rfl rfl ?_
  refine g_iconst (v := nI 1) (n := 16) dX8_shirkers_15 (by decide) rfl ?_
  refine g_icmp_le (tgt := 21) (n := 19) dX8_shirkers_16 (by decide) rfl (fun c16 => ?_) (fun c16 => absurd (inB_le (show inB (nI wh) (nI 0) (nI 1) = true by rcases (show wh = 0 ∨ wh = 1 by omega) with rfl | rfl <;> decide)) c16)
  refine g_iconst (v := nI 0) (n := 22) dX8_shirkers_21 (by decide) rfl ?_
  refine g_istore_n (n := 23) dX8_shirkers_22 (by decide) rfl rfl ?_
  refine g_lsN (ls' := [_, _, _, _, _, _, _]) rfl ?_
  refine g_bipush (v := nI 10) (n := 25) dX8_shirkers_23 (by decide) rfl ?_
  refine g_aload_n (n := 26) dX8_shirkers_25 rfl rfl ?_
  refine g_get (n := 29) fl_X8_47 dX8_shirkers_26 rfl rfl rfl ?_
  refine g_get (n := 32) fl_X8_198 dX8_shirkers_29 rfl rfl rfl ?_
  refine g_callSi (n := 35) cs_X8_238 (t_J6_bitN l _ hU.1) dX8_shirkers_32 rfl rfl ⟨by decide, by decide, rfl, rfl, Nat.zero_le _, Nat.zero_le _⟩ rfl (Nat.le_of_ble_eq_true rfl) rfl ?_
  refine g_top (on_nat _ 8 (by decide)) ?_
  refine g_callSi (n := 38) cs_X8_243 (t_X8_power l 10 _ (by have := onN_le (sup S) 8; omega)) dX8_shirkers_35 rfl rfl ⟨by decide, by decide, rfl, rfl, Nat.zero_le _, Nat.zero_le _⟩ rfl (Nat.le_of_ble_eq_true rfl) rfl ?_
  refine g_istore (n := 40) dX8_shirkers_38 (by decide) rfl rfl ?_
  refine g_lsN (ls' := [_, _, _, _, _, _, _]) rfl ?_
  refine g_iconst (v := nI 0) (n := 41) dX8_shirkers_40 (by decide) rfl ?_
  refine g_istore (n := 43) dX8_shirkers_41 (by decide) rfl rfl ?_
  refine g_lsN (ls' := [_, _, _, _, _, _, _]) rfl ?_
  exact lp_X8_shirkers l _ ⟨Nat.zero_le _, Nat.zero_le _⟩ _ kc S V hV dn fb U un ub a ha hS hU hP x hx wh hwh (fun fell T ra lo pr rb lb pb hT => ⟨rfl, fell, T, ra, lo, pr, rb, lb, pb, hT, rfl⟩) 0 (Nat.zero_le _) _ _ hT _ _ _ _ _ _ _

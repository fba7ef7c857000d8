/-! 33.cwould: the class's own cells; what would be -/
abbrev xo (kc : Int32) : va_E := .inr (8, [.ref 32, .ref 33, .ref 21, .ref 1, .ref 34, .ref 10, .ref 35, .ref 36, .int kc, .ref 14, .ref 25])
abbrev xa (fell : Int32) (T : ST) (ra lo pr rb lb pb : Nat → Int32) (kc : Int32) (S : ST) (V : WT) (dn : Int32) (fb : Nat → Int32) (U : WT) (un : Int32) (ub : Nat → Int32) : List va_E := [xo kc, .inr (6, [.ref 2, .ref 6, .int fell]), so T 2, a6 (sbo T), a6 (sti T), a8 (sun T), co 6, a8 ra, a8 lo, a8 pr, so S 10, a6 (sbo S), a6 (sti S), a8 (sun S), wo V dn 14, a8 (vth V), a8 (vpa V), a6 (vki V), a6 (vsg V), a6 fb, a6 (vkn V), co 21, a8 rb, a8 lb, a8 pb, wo U un 25, a8 (vth U), a8 (vpa U), a6 (vki U), a6 (vsg U), a6 ub, a6 (vkn U)]
theorem bt_nI (t : Nat) {j : Nat} (hj : j < 32) : bt (nI t) j = t.testBit j := by
  show (BitVec.ofNat 32 t).getLsbD j = _
  rw [BitVec.getLsbD_ofNat, decide_eq_true hj, Bool.true_and]
theorem hb_nI (t : Nat) {j : Nat} (hj : j < 32) : hb (nI t) (nI j) = t.testBit j := by rw [hb_bt _ hj, bt_nI t hj]
theorem hb_hi {t n j : Nat} (ht : t < 2 ^ n) (hn : n ≤ j) (hj : j < 32) : hb (nI t) (nI j) = false := by
  rw [hb_nI t hj]
  exact Nat.testBit_lt_two_pow (Nat.lt_of_lt_of_le ht (Nat.pow_le_pow_right (by decide) hn))
theorem part_hb {x y : Int32} : (x &&& (y ^^^ (-1)) = 0) ↔ ∀ j, j < 32 → hb x (nI j) = true → hb y (nI j) = true := by
  constructor
  · intro h j hj hx
    have h2 := congrArg (fun q => hb q (nI j)) h
    simp only [hb_and _ _ hj, hb_not _ hj, hx, Bool.true_and] at h2
    rw [show (0 : Int32) = nI 0 from rfl, hb_0 hj] at h2
    cases hy : hb y (nI j) with
    | true => rfl
    | false => rw [hy] at h2; cases h2
  · intro h
    refine hb_ext (fun j hj => ?_)
    rw [show (0 : Int32) = nI 0 from rfl, hb_0 hj, hb_and _ _ hj, hb_not _ hj]
    cases hx : hb x (nI j) with
    | false => rfl
    | true => rw [h j hj hx]; rfl
theorem hb_usN (V : WT) (S : ST) {j : Nat} (hj : j < 32) : ∀ k, k ≤ 32 → hb (usN V S k) (nI j) = (decide (j < k) && !hb (sfa S) (sbo S j))
  | 0, _ => by rw [usN, hb_0 hj, decide_eq_false (Nat.not_lt_zero _)]; rfl
  | k + 1, hk => by
    rw [usN, hb_or _ _ hj, hb_usN V S hj k (by omega)]
    by_cases e : k = j
    · subst e
      rw [decide_eq_false (Nat.lt_irrefl _), decide_eq_true (Nat.lt_succ_self _), Bool.false_and, Bool.false_or, Bool.true_and]
      cases hx : hb (sfa S) (sbo S k) with
      | true => rw [if_pos rfl, hb_0 hj]; rfl
      | false => rw [if_neg Bool.false_ne_true, hb_shb (by omega) hj, decide_eq_true rfl]; rfl
    · have e2 : decide (j < k + 1) = decide (j < k) := decide_eq_decide.mpr (by omega)
      rw [e2]
      split
      · rw [hb_0 hj, Bool.or_false]
      · rw [hb_shb (by omega) hj, decide_eq_false e, Bool.or_false]
theorem asN_all (S : ST) (x : Int32) : ∀ k, asN S x k = true ↔ ∀ j, j < k → hb x (nI j) = true → hb (sfa S) (sbo S j) = false
  | 0 => ⟨fun _ j hj => absurd hj (Nat.not_lt_zero _), fun _ => rfl⟩
  | k + 1 => by
    rw [asN, Bool.and_eq_true, asN_all S x k]
    constructor
    · rintro ⟨h1, h2⟩ j hj hx
      by_cases e : j = k
      · subst e
        rw [hx, Bool.true_and, Bool.not_eq_true'] at h2
        exact h2
      · exact h1 j (by omega) hx
    · intro h
      refine ⟨fun j hj => h j (by omega), ?_⟩
      cases hx : hb x (nI k) with
      | false => rfl
      | true => rw [h k (Nat.lt_succ_self _) hx]; rfl
theorem as_us {V : WT} (hV : okV V) (S : ST) {t : Nat} (ht : t < 2 ^ vnf V) : asN S (nI t) (vnf V) = decide (nI t &&& (usN V S (vnf V) ^^^ (-1)) = 0) := by
  have h6 := hV.2.1
  rw [Bool.eq_iff_iff, asN_all, decide_eq_true_eq, part_hb]
  constructor
  · intro h j hj hx
    by_cases c : j < vnf V
    · rw [hb_usN V S hj _ (by omega), decide_eq_true c, h j c hx]; rfl
    · rw [hb_hi ht (by omega) hj] at hx; cases hx
  · intro h j hj hx
    have := h j (by omega) hx
    rw [hb_usN V S (by omega) _ (by omega), decide_eq_true hj, Bool.true_and, Bool.not_eq_true'] at this
    exact this
/-- none, or a set -/
def nS (fd : Int32) (t : Nat) : Prop := fd = (-4) ∨ ∃ k, k < t ∧ fd = nI k
theorem nS_nd (V : WT) (S : ST) : ∀ t, nS (ndN V S t) t
  | 0 => Or.inl rfl
  | t + 1 => by
    have ih := nS_nd V S t
    have ih2 : nS (ndN V S t) (t + 1) := ih.imp id (fun ⟨k, h1, h2⟩ => ⟨k, by omega, h2⟩)
    rw [ndN]
    unfold ndS
    split
    · split
      · exact ih2
      · exact Or.inr ⟨t, Nat.lt_succ_self _, rfl⟩
    · exact ih2
theorem nS_cu (V : WT) (S : ST) : ∀ t, nS (cuN V S t) t
  | 0 => Or.inl rfl
  | t + 1 => by
    have ih := nS_cu V S t
    have ih2 : nS (cuN V S t) (t + 1) := ih.imp id (fun ⟨k, h1, h2⟩ => ⟨k, by omega, h2⟩)
    rw [cuN]
    unfold cuS
    split
    · split
      · exact Or.inr ⟨t, Nat.lt_succ_self _, rfl⟩
      · exact ih2
    · exact ih2
def fewB (fd : Int32) (t : Nat) : Bool := decide (fd = (-4)) || !decide (on fd 8 ≤ on (nI t) 8)

set_option maxRecDepth 20000 in
theorem t_X8_isPart (l : Launch) (x y : Int32) : Fn l M_X8_isPart [.int x, .int y] [] (some (.int (bI (decide (x &&& (y ^^^ (-1)) = 0))))) [] := by
  refine con_of rfl rfl (Nat.le_of_ble_eq_true rfl) ?_
  refine g_lsN (ls' := [_, _]) rfl ?_
  refine g_iload_n (n := 1) dX8_isPart_0 rfl rfl ?_
  refine g_iload_n (n := 2) dX8_isPart_1 rfl rfl ?_
  refine g_iconst (v := (-1)) (n := 3) dX8_isPart_2 (by decide) rfl ?_
  refine g_ixor (n := 4) dX8_isPart_3 rfl ?_
  refine g_iand (n := 5) dX8_isPart_4 rfl ?_
  refine g_if_ne (tgt := 12) (n := 8) dX8_isPart_5 (by decide) rfl (fun c5 => ?_) (fun c5 => ?_)
  ·
    have hF : decide (x &&& (y ^^^ (-1)) = 0) = false := decide_eq_false c5
    refine g_iconst (v := nI 0) (n := 13) dX8_isPart_12 (by decide) rfl ?_
    exact g_iret (ty := .boolean) dX8_isPart_13 rfl (by first | exact bI_nar _ | decide) ⟨Nat.zero_le _, Nat.zero_le _⟩ ⟨by first | exact okT hT | exact okF hF, rfl⟩
  ·
    have hT : decide (x &&& (y ^^^ (-1)) = 0) = true := decide_eq_true c5
    refine g_iconst (v := nI 1) (n := 9) dX8_isPart_8 (by decide) rfl ?_
    refine g_goto (tgt := 13) dX8_isPart_9 (by decide) ?_
    exact g_iret (ty := .boolean) dX8_isPart_13 rfl (by first | exact bI_nar _ | decide) ⟨Nat.zero_le _, Nat.zero_le _⟩ ⟨by first | exact okT hT | exact okF hF, rfl⟩
set_option maxRecDepth 20000 in
theorem t_X8_isFewer_0 (l : Launch) (x : Int32) : Fn l M_X8_isFewer [.int x, .int (-4)] [] (some (.int (nI 1))) [] := by
  refine con_of rfl rfl (Nat.le_of_ble_eq_true rfl) ?_
  refine g_lsN (ls' := [_, _]) rfl ?_
  refine g_iload_n (n := 1) dX8_isFewer_0 rfl rfl ?_
  refine g_bipush (v := (-4)) (n := 3) dX8_isFewer_1 (by decide) rfl ?_
  refine g_icmp_eq (tgt := 17) (n := 6) dX8_isFewer_3 (by decide) rfl (fun c3 => ?_) (fun c3 => absurd rfl c3)
  refine g_iconst (v := nI 1) (n := 18) dX8_isFewer_17 (by decide) rfl ?_
  refine g_goto (tgt := 22) dX8_isFewer_18 (by decide) ?_
  exact g_iret (ty := .boolean) dX8_isFewer_22 rfl (by first | exact bI_nar _ | decide) ⟨Nat.zero_le _, Nat.zero_le _⟩ ⟨rfl, rfl⟩
set_option maxRecDepth 20000 in
theorem t_X8_isFewer_1 (l : Launch) (t k : Nat) (ht : t < 256) (hk : k < 256) : Fn l M_X8_isFewer [.int (nI t), .int (nI k)] [] (some (.int (bI (fewB (nI k) t)))) [] := by
  have e4 : ¬ nI k = (-4) := nI_m4 (by omega)
  have e5 : fewB (nI k) t = !decide (on (nI k) 8 ≤ on (nI t) 8) := by unfold fewB; rw [decide_eq_false e4]; rfl
  refine con_of rfl rfl (Nat.le_of_ble_eq_true rfl) ?_
  refine g_lsN (ls' := [_, _]) rfl ?_
  refine g_iload_n (n := 1) dX8_isFewer_0 rfl rfl ?_
  refine g_bipush (v := (-4)) (n := 3) dX8_isFewer_1 (by decide) rfl ?_
  refine g_icmp_eq (tgt := 17) (n := 6) dX8_isFewer_3 (by decide) rfl (fun c3 => absurd c3 e4) (fun c3 => ?_)
  refine g_iload_n (n := 7) dX8_isFewer_6 rfl rfl ?_
  refine g_callSi (n := 10) cs_X8_238 (t_J6_bitCount l t ht) dX8_isFewer_7 rfl rfl ⟨by decide, by decide, rfl, rfl, Nat.zero_le _, Nat.zero_le _⟩ rfl (Nat.le_of_ble_eq_true rfl) rfl ?_
  refine g_iload_n (n := 11) dX8_isFewer_10 rfl rfl ?_
  refine g_callSi (n := 14) cs_X8_238 (t_J6_bitCount l k hk) dX8_isFewer_11 rfl rfl ⟨by decide, by decide, rfl, rfl, Nat.zero_le _, Nat.zero_le _⟩ rfl (Nat.le_of_ble_eq_true rfl) rfl ?_
  refine g_icmp_ge (tgt := 21) (n := 17) dX8_isFewer_14 (by decide) rfl (fun c14 => ?_) (fun c14 => ?_)
  ·
    have hF : fewB (nI k) t = false := by rw [e5, decide_eq_true c14]; rfl
    refine g_iconst (v := nI 0) (n := 22) dX8_isFewer_21 (by decide) rfl ?_
    exact g_iret (ty := .boolean) dX8_isFewer_22 rfl (by first | exact bI_nar _ | decide) ⟨Nat.zero_le _, Nat.zero_le _⟩ ⟨by first | exact okT hT | exact okF hF, rfl⟩
  ·
    have hT : fewB (nI k) t = true := by rw [e5, decide_eq_false c14]; rfl
    refine g_iconst (v := nI 1) (n := 18) dX8_isFewer_17 (by decide) rfl ?_
    refine g_goto (tgt := 22) dX8_isFewer_18 (by decide) ?_
    exact g_iret (ty := .boolean) dX8_isFewer_22 rfl (by first | exact bI_nar _ | decide) ⟨Nat.zero_le _, Nat.zero_le _⟩ ⟨by first | exact okT hT | exact okF hF, rfl⟩
theorem t_X8_isFewer (l : Launch) (t : Nat) (fd : Int32) (ht : t < 256) (h : nS fd 256) : Fn l M_X8_isFewer [.int (nI t), .int fd] [] (some (.int (bI (fewB fd t)))) [] := by
  rcases h with h | ⟨k, hk, h⟩
  · subst h; exact t_X8_isFewer_0 l (nI t)
  · subst h; exact t_X8_isFewer_1 l t k ht hk
set_option maxRecDepth 20000 in
theorem t_X8_wouldHold (l : Launch) (fell : Int32) (T : ST) (hT : okZ T) (ra lo pr rb lb pb : Nat → Int32) (kc : Int32) (S : ST) (V : WT) (hV : okV V) (dn : Int32) (fb : Nat → Int32) (U : WT) (un : Int32) (ub : Nat → Int32) (a : Nat) (ha : a + 100 < 2 ^ 31) (hS : okS V S a) (x : Int32) : Con l M_X8_wouldHold [.ref 0, .int x] (xa fell T ra lo pr rb lb pb kc S V dn fb U un ub) (fun r u => r = some (.int (bI (!decide (fk V (sUp S x) 12 ≤ 12)))) ∧ ∃ fell T ra lo pr rb lb pb, okZ T ∧ u = xa fell T ra lo pr rb lb pb kc S V dn fb U un ub) := by
  refine con_of rfl rfl (Nat.le_of_ble_eq_true rfl) ?_
  refine g_lsN (ls' := [_, _]) rfl ?_
  refine g_aload_n (n := 1) dX8_wouldHold_0 rfl rfl ?_
  refine g_get (n := 4) fl_X8_33 dX8_wouldHold_1 rfl rfl rfl ?_
  refine g_aload_n (n := 5) dX8_wouldHold_4 rfl rfl ?_
  refine g_get (n := 8) fl_X8_47 dX8_wouldHold_5 rfl rfl rfl ?_
  refine g_cutVv (ps := [1, 2, 3, 4, 5, 10, 11, 12, 13, 6]) (w' := [_, _, _, _, _, _, _, _, _, _, _, _, _, _, _, _, _, _, _, _, _, _, _, _, _, _, _, _, _, _, _, _]) (n := 11) cv_X8_176 (t_X6_startFrom l _ _ S hT hS.1) dX8_wouldHold_8 rfl rfl rfl ⟨by decide, by decide, rfl, rfl, Nat.zero_le _, Nat.zero_le _⟩ rfl rfl rfl (Nat.le_of_ble_eq_true rfl) rfl rfl rfl ?_
  refine g_aload_n (n := 12) dX8_wouldHold_11 rfl rfl ?_
  refine g_get (n := 15) fl_X8_33 dX8_wouldHold_12 rfl rfl rfl ?_
  refine g_get (n := 18) fl_X8_262 dX8_wouldHold_15 rfl rfl rfl ?_
  refine g_iload_n (n := 19) dX8_wouldHold_18 rfl rfl ?_
  refine g_put (n := 22) pf_X8_198 dX8_wouldHold_19 rfl (Nat.le_of_ble_eq_true rfl) (fun _ => rfl) (fun _ => rfl) rfl ?_
  refine g_wN (w' := [_, _, _, _, _, _, _, _, _, _, _, _, _, _, _, _, _, _, _, _, _, _, _, _, _, _, _, _, _, _, _, _]) rfl ?_
  refine g_aload_n (n := 23) dX8_wouldHold_22 rfl rfl ?_
  refine g_get (n := 26) fl_X8_33 dX8_wouldHold_23 rfl rfl rfl ?_
  refine g_aload_n (n := 27) dX8_wouldHold_26 rfl rfl ?_
  refine g_get (n := 30) fl_X8_65 dX8_wouldHold_27 rfl rfl rfl ?_
  refine g_bipush (v := nI 12) (n := 32) dX8_wouldHold_30 (by decide) rfl ?_
  refine g_cutV (ps := [1, 2, 3, 4, 5, 6, 7, 8, 9, 14, 15, 16, 17, 18, 19, 20]) (n := 35) cv_X8_179 (t_X6_fallsBehind l V hV dn fb 12 (by decide) (sUp S x) _ _ _ _ a (by omega) hS) dX8_wouldHold_32 rfl rfl rfl ⟨by decide, by decide, rfl, rfl, Nat.zero_le _, Nat.zero_le _⟩ rfl rfl rfl (Nat.le_of_ble_eq_true rfl) rfl (fun r cw32 hq32 => ?_)
  obtain ⟨rfl, ra2, lo2, pr2, rfl⟩ := hq32
  refine ⟨rfl, ?_⟩
  refine g_stN (st' := .int _ :: []) rfl ?_
  refine g_wN (w' := [_, _, _, _, _, _, _, _, _, _, _, _, _, _, _, _, _, _, _, _, _, _, _, _, _, _, _, _, _, _, _, _]) rfl ?_
  refine g_bipush (v := (-4)) (n := 37) dX8_wouldHold_35 (by decide) rfl ?_
  refine g_icmp_ne (tgt := 44) (n := 40) dX8_wouldHold_37 (by decide) rfl (fun c37 => ?_) (fun c37 => ?_)
  ·
    rw [ff_fk hV] at c37
    have c : fk V (sUp S x) 12 ≤ 12 := Classical.byContradiction (fun q => c37 (if_neg q))
    have hF : (!decide (fk V (sUp S x) 12 ≤ 12)) = false := by rw [decide_eq_true c]; rfl
    refine g_iconst (v := nI 0) (n := 45) dX8_wouldHold_44 (by decide) rfl ?_
    exact g_iret (ty := .boolean) dX8_wouldHold_45 rfl (by first | exact bI_nar _ | decide) ⟨Nat.zero_le _, Nat.zero_le _⟩ ⟨by first | exact okT hT | exact okF hF, _, _, _, _, _, _, _, _, okZ_ff hV 12 0 (sUp S x) (nI 0) hS.1, rfl⟩
  ·
    rw [ff_fk hV] at c37
    have c : ¬ fk V (sUp S x) 12 ≤ 12 := fun q => absurd c37 (by rw [if_pos q]; exact nI_m4 (by omega))
    have hT : (!decide (fk V (sUp S x) 12 ≤ 12)) = true := by rw [decide_eq_false c]; rfl
    refine g_iconst (v := nI 1) (n := 41) dX8_wouldHold_40 (by decide) rfl ?_
    refine g_goto (tgt := 45) dX8_wouldHold_41 (by decide) ?_
    exact g_iret (ty := .boolean) dX8_wouldHold_45 rfl (by first | exact bI_nar _ | decide) ⟨Nat.zero_le _, Nat.zero_le _⟩ ⟨by first | exact okT hT | exact okF hF, _, _, _, _, _, _, _, _, okZ_ff hV 12 0 (sUp S x) (nI 0) hS.1, rfl⟩
set_option maxRecDepth 20000 in
theorem t_X8_wouldBreak (l : Launch) (fell : Int32) (T : ST) (hT : okZ T) (ra lo pr rb lb pb : Nat → Int32) (kc : Int32) (S : ST) (V : WT) (hV : okV V) (dn : Int32) (fb : Nat → Int32) (U : WT) (un : Int32) (ub : Nat → Int32) (a : Nat) (ha : a + 100 < 2 ^ 31) (hS : okS V S a) (x : Int32) : Con l M_X8_wouldBreak [.ref 0, .int x] (xa fell T ra lo pr rb lb pb kc S V dn fb U un ub) (fun r u => r = some (.int (bI (decide (fk V (sUp S (sup S &&& (x ^^^ (-1)))) 24 ≤ 24)))) ∧ ∃ fell T ra lo pr rb lb pb, okZ T ∧ u = xa fell T ra lo pr rb lb pb kc S V dn fb U un ub) := by
  refine con_of rfl rfl (Nat.le_of_ble_eq_true rfl) ?_
  refine g_lsN (ls' := [_, _]) rfl ?_
  refine g_aload_n (n := 1) dX8_wouldBreak_0 rfl rfl ?_
  refine g_get (n := 4) fl_X8_33 dX8_wouldBreak_1 rfl rfl rfl ?_
  refine g_aload_n (n := 5) dX8_wouldBreak_4 rfl rfl ?_
  refine g_get (n := 8) fl_X8_47 dX8_wouldBreak_5 rfl rfl rfl ?_
  refine g_cutVv (ps := [1, 2, 3, 4, 5, 10, 11, 12, 13, 6]) (w' := [_, _, _, _, _, _, _, _, _, _, _, _, _, _, _, _, _, _, _, _, _, _, _, _, _, _, _, _, _, _, _, _]) (n := 11) cv_X8_176 (t_X6_startFrom l _ _ S hT hS.1) dX8_wouldBreak_8 rfl rfl rfl ⟨by decide, by decide, rfl, rfl, Nat.zero_le _, Nat.zero_le _⟩ rfl rfl rfl (Nat.le_of_ble_eq_true rfl) rfl rfl rfl ?_
  refine g_aload_n (n := 12) dX8_wouldBreak_11 rfl rfl ?_
  refine g_get (n := 15) fl_X8_33 dX8_wouldBreak_12 rfl rfl rfl ?_
  refine g_get (n := 18) fl_X8_262 dX8_wouldBreak_15 rfl rfl rfl ?_
  refine g_aload_n (n := 19) dX8_wouldBreak_18 rfl rfl ?_
  refine g_get (n := 22) fl_X8_47 dX8_wouldBreak_19 rfl rfl rfl ?_
  refine g_get (n := 25) fl_X8_198 dX8_wouldBreak_22 rfl rfl rfl ?_
  refine g_iload_n (n := 26) dX8_wouldBreak_25 rfl rfl ?_
  refine g_iconst (v := (-1)) (n := 27) dX8_wouldBreak_26 (by decide) rfl ?_
  refine g_ixor (n := 28) dX8_wouldBreak_27 rfl ?_
  refine g_iand (n := 29) dX8_wouldBreak_28 rfl ?_
  refine g_put (n := 32) pf_X8_198 dX8_wouldBreak_29 rfl (Nat.le_of_ble_eq_true rfl) (fun _ => rfl) (fun _ => rfl) rfl ?_
  refine g_wN (w' := [_, _, _, _, _, _, _, _, _, _, _, _, _, _, _, _, _, _, _, _, _, _, _, _, _, _, _, _, _, _, _, _]) rfl ?_
  refine g_aload_n (n := 33) dX8_wouldBreak_32 rfl rfl ?_
  refine g_get (n := 36) fl_X8_33 dX8_wouldBreak_33 rfl rfl rfl ?_
  refine g_aload_n (n := 37) dX8_wouldBreak_36 rfl rfl ?_
  refine g_get (n := 40) fl_X8_65 dX8_wouldBreak_37 rfl rfl rfl ?_
  refine g_bipush (v := nI 24) (n := 42) dX8_wouldBreak_40 (by decide) rfl ?_
  refine g_cutV (ps := [1, 2, 3, 4, 5, 6, 7, 8, 9, 14, 15, 16, 17, 18, 19, 20]) (n := 45) cv_X8_179 (t_X6_fallsBehind l V hV dn fb 24 (by decide) (sUp S (sup S &&& (x ^^^ (-1)))) _ _ _ _ a (by omega) hS) dX8_wouldBreak_42 rfl rfl rfl ⟨by decide, by decide, rfl, rfl, Nat.zero_le _, Nat.zero_le _⟩ rfl rfl rfl (Nat.le_of_ble_eq_true rfl) rfl (fun r cw42 hq42 => ?_)
  obtain ⟨rfl, ra2, lo2, pr2, rfl⟩ := hq42
  refine ⟨rfl, ?_⟩
  refine g_stN (st' := .int _ :: []) rfl ?_
  refine g_wN (w' := [_, _, _, _, _, _, _, _, _, _, _, _, _, _, _, _, _, _, _, _, _, _, _, _, _, _, _, _, _, _, _, _]) rfl ?_
  refine g_bipush (v := (-4)) (n := 47) dX8_wouldBreak_45 (by decide) rfl ?_
  refine g_icmp_eq (tgt := 54) (n := 50) dX8_wouldBreak_47 (by decide) rfl (fun c47 => ?_) (fun c47 => ?_)
  ·
    rw [ff_fk hV] at c47
    have c : ¬ fk V (sUp S (sup S &&& (x ^^^ (-1)))) 24 ≤ 24 := fun q => absurd c47 (by rw [if_pos q]; exact nI_m4 (by omega))
    have hF : decide (fk V (sUp S (sup S &&& (x ^^^ (-1)))) 24 ≤ 24) = false := decide_eq_false c
    refine g_iconst (v := nI 0) (n := 55) dX8_wouldBreak_54 (by decide) rfl ?_
    exact g_iret (ty := .boolean) dX8_wouldBreak_55 rfl (by first | exact bI_nar _ | decide) ⟨Nat.zero_le _, Nat.zero_le _⟩ ⟨by first | exact okT hT | exact okF hF, _, _, _, _, _, _, _, _, okZ_ff hV 24 0 (sUp S (sup S &&& (x ^^^ (-1)))) (nI 0) hS.1, rfl⟩
  ·
    rw [ff_fk hV] at c47
    have c : fk V (sUp S (sup S &&& (x ^^^ (-1)))) 24 ≤ 24 := Classical.byContradiction (fun q => c47 (if_neg q))
    have hT : decide (fk V (sUp S (sup S &&& (x ^^^ (-1)))) 24 ≤ 24) = true := decide_eq_true c
    refine g_iconst (v := nI 1) (n := 51) dX8_wouldBreak_50 (by decide) rfl ?_
    refine g_goto (tgt := 55) dX8_wouldBreak_51 (by decide) ?_
    exact g_iret (ty := .boolean) dX8_wouldBreak_55 rfl (by first | exact bI_nar _ | decide) ⟨Nat.zero_le _, Nat.zero_le _⟩ ⟨by first | exact okT hT | exact okF hF, _, _, _, _, _, _, _, _, okZ_ff hV 24 0 (sUp S (sup S &&& (x ^^^ (-1)))) (nI 0) hS.1, rfl⟩
set_option maxRecDepth 20000 in
theorem t_X8_wouldBeHeld (l : Launch) (fell : Int32) (T : ST) (hT : okZ T) (ra lo pr rb lb pb : Nat → Int32) (kc : Int32) (S : ST) (V : WT) (hV : okV V) (dn : Int32) (fb : Nat → Int32) (U : WT) (un : Int32) (ub : Nat → Int32) (a : Nat) (ha : a + 100 < 2 ^ 31) (hS : okS V S a) (x : Int32) : Con l M_X8_wouldBeHeld [.ref 0, .int x] (xa fell T ra lo pr rb lb pb kc S V dn fb U un ub) (fun r u => r = some (.int (hdN V (sUp S x) (vnb V))) ∧ ∃ fell T ra lo pr rb lb pb, okZ T ∧ u = xa fell T ra lo pr rb lb pb kc S V dn fb U un ub) := by
  refine con_of rfl rfl (Nat.le_of_ble_eq_true rfl) ?_
  refine g_lsN (ls' := [_, _]) rfl ?_
  refine g_aload_n (n := 1) dX8_wouldBeHeld_0 rfl rfl ?_
  refine g_get (n := 4) fl_X8_33 dX8_wouldBeHeld_1 rfl rfl rfl ?_
  refine g_aload_n (n := 5) dX8_wouldBeHeld_4 rfl rfl ?_
  refine g_get (n := 8) fl_X8_47 dX8_wouldBeHeld_5 rfl rfl rfl ?_
  refine g_cutVv (ps := [1, 2, 3, 4, 5, 10, 11, 12, 13, 6]) (w' := [_, _, _, _, _, _, _, _, _, _, _, _, _, _, _, _, _, _, _, _, _, _, _, _, _, _, _, _, _, _, _, _]) (n := 11) cv_X8_176 (t_X6_startFrom l _ _ S hT hS.1) dX8_wouldBeHeld_8 rfl rfl rfl ⟨by decide, by decide, rfl, rfl, Nat.zero_le _, Nat.zero_le _⟩ rfl rfl rfl (Nat.le_of_ble_eq_true rfl) rfl rfl rfl ?_
  refine g_aload_n (n := 12) dX8_wouldBeHeld_11 rfl rfl ?_
  refine g_get (n := 15) fl_X8_33 dX8_wouldBeHeld_12 rfl rfl rfl ?_
  refine g_get (n := 18) fl_X8_262 dX8_wouldBeHeld_15 rfl rfl rfl ?_
  refine g_iload_n (n := 19) dX8_wouldBeHeld_18 rfl rfl ?_
  refine g_put (n := 22) pf_X8_198 dX8_wouldBeHeld_19 rfl (Nat.le_of_ble_eq_true rfl) (fun _ => rfl) (fun _ => rfl) rfl ?_
  refine g_wN (w' := [_, _, _, _, _, _, _, _, _, _, _, _, _, _, _, _, _, _, _, _, _, _, _, _, _, _, _, _, _, _, _, _]) rfl ?_
  refine g_aload_n (n := 23) dX8_wouldBeHeld_22 rfl rfl ?_
  refine g_get (n := 26) fl_X8_26 dX8_wouldBeHeld_23 rfl rfl rfl ?_
  refine g_aload_n (n := 27) dX8_wouldBeHeld_26 rfl rfl ?_
  refine g_get (n := 30) fl_X8_65 dX8_wouldBeHeld_27 rfl rfl rfl ?_
  refine g_aload_n (n := 31) dX8_wouldBeHeld_30 rfl rfl ?_
  refine g_get (n := 34) fl_X8_33 dX8_wouldBeHeld_31 rfl rfl rfl ?_
  refine g_get (n := 37) fl_X8_262 dX8_wouldBeHeld_34 rfl rfl rfl ?_
  refine g_cutVi (ps := [21, 22, 23, 24, 14, 15, 16, 17, 18, 19, 20, 2, 3, 4, 5]) (w' := [_, _, _, _, _, _, _, _, _, _, _, _, _, _, _, _, _, _, _, _, _, _, _, _, _, _, _, _, _, _, _, _]) (n := 40) cv_X8_279 (t_X0_heldBays l _ _ _ V hV dn fb (sUp S x) hS.2.1) dX8_wouldBeHeld_37 rfl rfl rfl ⟨by decide, by decide, rfl, rfl, Nat.zero_le _, Nat.zero_le _⟩ rfl rfl rfl (Nat.le_of_ble_eq_true rfl) rfl rfl rfl ?_
  exact g_iret (ty := .int) dX8_wouldBeHeld_40 rfl rfl ⟨Nat.zero_le _, Nat.zero_le _⟩ ⟨rfl, _, sUp S x, _, _, _, _, _, _, hS.1, rfl⟩
theorem okS_bo {V : WT} {S : ST} {a f b : Nat} (hV : okV V) (h : okS V S a) (hf : f < vnf V) (hbn : b < vnb V) : okS V (sBo S (upd (sbo S) f (nI b))) a := by
  have h6 := hV.2.1
  refine ⟨⟨h.1.1, fun j hj => ?_, h.1.2.2⟩, fun g hg => ?_, h.2.2.1, h.2.2.2⟩
  · show upd (sbo S) f (nI b) j = 0
    unfold upd
    rw [if_neg (by omega)]
    exact h.1.2.1 j hj
  · show ∃ b', b' < vnb V ∧ upd (sbo S) f (nI b) g = nI b'
    unfold upd
    by_cases e : g = f
    · rw [if_pos e]; exact ⟨b, hbn, rfl⟩
    · rw [if_neg e]; exact h.2.1 g hg
theorem okS_pl {V : WT} {S : ST} {a f b : Nat} (hV : okV V) (h : okS V S a) (hf : f < vnf V) (hbn : b < vnb V) : okS V (plT S f b) a := okS_bo hV h hf hbn
set_option maxRecDepth 20000 in
theorem t_X8_standsWithAt (l : Launch) (fell : Int32) (T : ST) (hT : okZ T) (ra lo pr rb lb pb : Nat → Int32) (kc : Int32) (S : ST) (V : WT) (hV : okV V) (dn : Int32) (fb : Nat → Int32) (U : WT) (un : Int32) (ub : Nat → Int32) (a : Nat) (ha : a + 100 < 2 ^ 31) (hS : okS V S a) (f b : Nat) (hf : f < vnf V) (hbn : b < vnb V) : Con l M_X8_standsWithAt [.ref 0, .int (nI f), .int (nI b)] (xa fell T ra lo pr rb lb pb kc S V dn fb U un ub) (fun r u => r = some (.int (nI (fk V (plT S f b) 60))) ∧ ∃ fell T ra lo pr rb lb pb, okZ T ∧ u = xa fell T ra lo pr rb lb pb kc S V dn fb U un ub) := by
  have hV1 := hV.1
  have hV2 := hV.2.1
  have hV3 := hV.2.2
  refine con_of rfl rfl (Nat.le_of_ble_eq_true rfl) ?_
  refine g_lsN (ls' := [_, _, _]) rfl ?_
  refine g_aload_n (n := 1) dX8_standsWithAt_0 rfl rfl ?_
  refine g_get (n := 4) fl_X8_33 dX8_standsWithAt_1 rfl rfl rfl ?_
  refine g_aload_n (n := 5) dX8_standsWithAt_4 rfl rfl ?_
  refine g_get (n := 8) fl_X8_47 dX8_standsWithAt_5 rfl rfl rfl ?_
  refine g_cutVv (ps := [1, 2, 3, 4, 5, 10, 11, 12, 13, 6]) (w' := [_, _, _, _, _, _, _, _, _, _, _, _, _, _, _, _, _, _, _, _, _, _, _, _, _, _, _, _, _, _, _, _]) (n := 11) cv_X8_176 (t_X6_startFrom l _ _ S hT hS.1) dX8_standsWithAt_8 rfl rfl rfl ⟨by decide, by decide, rfl, rfl, Nat.zero_le _, Nat.zero_le _⟩ rfl rfl rfl (Nat.le_of_ble_eq_true rfl) rfl rfl rfl ?_
  refine g_aload_n (n := 12) dX8_standsWithAt_11 rfl rfl ?_
  refine g_get (n := 15) fl_X8_33 dX8_standsWithAt_12 rfl rfl rfl ?_
  refine g_get (n := 18) fl_X8_262 dX8_standsWithAt_15 rfl rfl rfl ?_
  refine g_get (n := 21) fl_X8_125 dX8_standsWithAt_18 rfl rfl rfl ?_
  refine g_iload_n (n := 22) dX8_standsWithAt_21 rfl rfl ?_
  refine g_iload_n (n := 23) dX8_standsWithAt_22 rfl rfl ?_
  refine g_iastN (n := 24) dX8_standsWithAt_23 rfl rfl (by decide) (by omega) ?_
  refine g_wN (w' := [_, _, _, _, _, _, _, _, _, _, _, _, _, _, _, _, _, _, _, _, _, _, _, _, _, _, _, _, _, _, _, _]) rfl ?_
  refine g_aload_n (n := 25) dX8_standsWithAt_24 rfl rfl ?_
  refine g_get (n := 28) fl_X8_33 dX8_standsWithAt_25 rfl rfl rfl ?_
  refine g_get (n := 31) fl_X8_262 dX8_standsWithAt_28 rfl rfl rfl ?_
  refine g_iload_n (n := 32) dX8_standsWithAt_31 rfl rfl ?_
  refine g_cutVv (ps := [2, 3, 4, 5]) (w' := [_, _, _, _, _, _, _, _, _, _, _, _, _, _, _, _, _, _, _, _, _, _, _, _, _, _, _, _, _, _, _, _]) (n := 35) cv_X8_162 (t_X3_goUp l (sBo S (upd (sbo S) f (nI b))) f) dX8_standsWithAt_32 rfl rfl rfl ⟨by decide, by decide, rfl, rfl, Nat.zero_le _, Nat.zero_le _⟩ rfl rfl rfl (Nat.le_of_ble_eq_true rfl) rfl rfl rfl ?_
  refine g_aload_n (n := 36) dX8_standsWithAt_35 rfl rfl ?_
  refine g_get (n := 39) fl_X8_33 dX8_standsWithAt_36 rfl rfl rfl ?_
  refine g_aload_n (n := 40) dX8_standsWithAt_39 rfl rfl ?_
  refine g_get (n := 43) fl_X8_65 dX8_standsWithAt_40 rfl rfl rfl ?_
  refine g_cutV (ps := [1, 2, 3, 4, 5, 6, 7, 8, 9, 14, 15, 16, 17, 18, 19, 20]) (n := 46) cv_X8_297 (t_X6_standsFor l V hV dn fb (plT S f b) _ _ _ _ a (by omega) (okS_pl hV hS hf hbn)) dX8_standsWithAt_43 rfl rfl rfl ⟨by decide, by decide, rfl, rfl, Nat.zero_le _, Nat.zero_le _⟩ rfl rfl rfl (Nat.le_of_ble_eq_true rfl) rfl (fun r cw43 hq43 => ?_)
  obtain ⟨rfl, fell2, T2, ra2, lo2, pr2, hT2, rfl⟩ := hq43
  refine ⟨rfl, ?_⟩
  refine g_stN (st' := .int _ :: []) rfl ?_
  refine g_wN (w' := [_, _, _, _, _, _, _, _, _, _, _, _, _, _, _, _, _, _, _, _, _, _, _, _, _, _, _, _, _, _, _, _]) rfl ?_
  exact g_iret (ty := .int) dX8_standsWithAt_46 rfl rfl ⟨Nat.zero_le _, Nat.zero_le _⟩ ⟨rfl, _, _, _, _, _, _, _, _, hT2, rfl⟩
theorem nI_sub1 {k : Nat} (h : 1 ≤ k) : nI k - nI 1 = nI (k - 1) := by
  have : nI k = nI (k - 1) + nI 1 := by rw [nI_add, Nat.sub_add_cancel h]
  rw [this, Int32.add_sub_cancel]
theorem nI_sub_lt {t k : Nat} (h : k ≤ t) (h1 : 1 ≤ k) (h2 : t < 2 ^ 31) : nI k - nI 1 < nI t := by
  rw [nI_sub1 h1, Int32.lt_iff_toInt_lt, nI_toInt (by omega), nI_toInt h2]
  omega
theorem nI_sub_ge {t k : Nat} (h : t < k) (h1 : 1 ≤ k) (h2 : k < 2 ^ 31) : ¬ nI k - nI 1 < nI t := by
  rw [nI_sub1 h1, Int32.lt_iff_toInt_lt, nI_toInt (by omega), nI_toInt (by omega)]
  omega
theorem st_nd {V : WT} (hV : okV V) {S : ST} {t : Nat} (ht : t < 2 ^ vnf V) {fd : Int32} : ndS V S (usN V S (vnf V)) t fd = if fewB fd t && (asN S (nI t) (vnf V)) && (!decide (fk V (sUp S (nI t)) 12 ≤ 12)) then nI t else fd := by
  unfold ndS fewB
  rw [as_us hV S ht]
  generalize hA : decide (nI t &&& (usN V S (vnf V) ^^^ (-1)) = 0) = A
  generalize (decide (fd = (-4)) || !decide (on fd 8 ≤ on (nI t) 8)) = B
  by_cases c : fk V (sUp S (nI t)) 12 ≤ 12 <;> cases A <;> cases B <;> simp [c]
set_option maxRecDepth 20000 in
theorem lp_X8_needed (l : Launch) (z : Nat × Nat × Nat) (hz : z.2.1 ≤ 0 ∧ z.2.2 ≤ 0) (Q : Option Value → List va_E → Prop)  (kc : Int32) (S : ST) (V : WT) (hV : okV V) (dn : Int32) (fb : Nat → Int32) (U : WT) (un : Int32) (ub : Nat → Int32) (a : Nat) (ha : a + 100 < 2 ^ 31) (hS : okS V S a) (hQ : ∀ fell T ra lo pr rb lb pb, okZ T → Q (some (.int (ndN V S (2 ^ vnf V)))) (xa fell T ra lo pr rb lb pb kc S V dn fb U un ub)) : ∀ t, t ≤ 2 ^ vnf V → ∀ (fell : Int32) (T : ST) (hT : okZ T) (ra lo pr rb lb pb : Nat → Int32), G l M_X8_needed z Q 5 [some (.ref 0), some (.int (ndN V S t)), some (.int (nI t))] [] (xa fell T ra lo pr rb lb pb kc S V dn fb U un ub) := by
  have hV1 := hV.1
  have hV2 := hV.2.1
  have hV3 := hV.2.2
  have hp := pow6 hV2
  refine loopN (2 ^ vnf V) ?_ (fun t ht ih => ?_)
  ·
    intro fell T hT ra lo pr rb lb pb
    refine g_iload_n (n := 6) dX8_needed_5 rfl rfl ?_
    refine g_aload_n (n := 7) dX8_needed_6 rfl rfl ?_
    refine g_get (n := 10) fl_X8_65 dX8_needed_7 rfl rfl rfl ?_
    refine g_cutVi (ps := [14, 15, 16, 17, 18, 19, 20]) (w' := [_, _, _, _, _, _, _, _, _, _, _, _, _, _, _, _, _, _, _, _, _, _, _, _, _, _, _, _, _, _, _, _]) (n := 13) cv_X8_185 (t_X7_allButtresses l V hV dn) dX8_needed_10 rfl rfl rfl ⟨by decide, by decide, rfl, rfl, hz.1, hz.2⟩ rfl rfl rfl (Nat.le_of_ble_eq_true rfl) rfl rfl rfl ?_
    refine g_icmp_gt (tgt := 55) (n := 16) dX8_needed_13 (by decide) rfl (fun c13 => ?_) (fun c13 => absurd (nI_sub_lt (Nat.le_refl _) (Nat.one_le_two_pow) (by omega)) c13)
    refine g_iload_n (n := 56) dX8_needed_55 rfl rfl ?_
    exact g_iret (ty := .int) dX8_needed_56 rfl rfl hz (hQ _ _ _ _ _ _ _ _ hT)
  ·
    intro fell T hT ra lo pr rb lb pb
    refine g_iload_n (n := 6) dX8_needed_5 rfl rfl ?_
    refine g_aload_n (n := 7) dX8_needed_6 rfl rfl ?_
    refine g_get (n := 10) fl_X8_65 dX8_needed_7 rfl rfl rfl ?_
    refine g_cutVi (ps := [14, 15, 16, 17, 18, 19, 20]) (w' := [_, _, _, _, _, _, _, _, _, _, _, _, _, _, _, _, _, _, _, _, _, _, _, _, _, _, _, _, _, _, _, _]) (n := 13) cv_X8_185 (t_X7_allButtresses l V hV dn) dX8_needed_10 rfl rfl rfl ⟨by decide, by decide, rfl, rfl, hz.1, hz.2⟩ rfl rfl rfl (Nat.le_of_ble_eq_true rfl) rfl rfl rfl ?_
    refine g_icmp_gt (tgt := 55) (n := 16) dX8_needed_13 (by decide) rfl (fun c13 => absurd c13 (nI_sub_ge ht (Nat.one_le_two_pow) (by omega))) (fun c13 => ?_)
    refine g_iload_n (n := 17) dX8_needed_16 rfl rfl ?_
    refine g_iload_n (n := 18) dX8_needed_17 rfl rfl ?_
    refine g_callSi (n := 21) cs_X8_188 (t_X8_isFewer l t (ndN V S t) (by omega) ((nS_nd V S t).imp id (fun ⟨k, h1, h2⟩ => ⟨k, by omega, h2⟩))) dX8_needed_18 rfl rfl ⟨by decide, by decide, rfl, rfl, hz.1, hz.2⟩ rfl (Nat.le_of_ble_eq_true rfl) rfl ?_
    refine g_if_eq (tgt := 49) (n := 24) dX8_needed_21 (by decide) rfl (fun c21 => ?_) (fun c21 => ?_)
    ·
      have e9 : ndN V S (t + 1) = ndN V S t := by rw [ndN, st_nd hV ht, bI_0.mp c21, Bool.false_and, Bool.false_and]; rfl
      refine g_iincN (k := 1) (n := 52) dX8_needed_49 rfl (by decide) rfl rfl ?_
      refine g_lsN (ls' := [_, _, _]) rfl ?_
      refine g_lsN (ls' := [some (.ref 0), some (.int (ndN V S (t + 1))), some (.int (nI (t + 1)))]) (by rw [e9]) ?_
      refine g_goto (tgt := 5) dX8_needed_52 (by decide) ?_
      exact ih _ _ (by assumption) _ _ _ _ _ _
    ·
      have b1 := bI_n0.mp c21
      refine g_aload_n (n := 25) dX8_needed_24 rfl rfl ?_
      refine g_get (n := 28) fl_X8_47 dX8_needed_25 rfl rfl rfl ?_
      refine g_aload_n (n := 29) dX8_needed_28 rfl rfl ?_
      refine g_get (n := 32) fl_X8_65 dX8_needed_29 rfl rfl rfl ?_
      refine g_iload_n (n := 33) dX8_needed_32 rfl rfl ?_
      refine g_cutVi (ps := [14, 15, 16, 17, 18, 19, 20, 10, 11, 12, 13]) (w' := [_, _, _, _, _, _, _, _, _, _, _, _, _, _, _, _, _, _, _, _, _, _, _, _, _, _, _, _, _, _, _, _]) (n := 36) cv_X8_192 (t_X3_allAtStanding l V hV dn fb S _) dX8_needed_33 rfl rfl rfl ⟨by decide, by decide, rfl, rfl, hz.1, hz.2⟩ rfl rfl rfl (Nat.le_of_ble_eq_true rfl) rfl rfl rfl ?_
      refine g_if_eq (tgt := 49) (n := 39) dX8_needed_36 (by decide) rfl (fun c36 => ?_) (fun c36 => ?_)
      ·
        have e9 : ndN V S (t + 1) = ndN V S t := by rw [ndN, st_nd hV ht, b1, bI_0.mp c36, Bool.and_false, Bool.false_and]; rfl
        refine g_iincN (k := 1) (n := 52) dX8_needed_49 rfl (by decide) rfl rfl ?_
        refine g_lsN (ls' := [_, _, _]) rfl ?_
        refine g_lsN (ls' := [some (.ref 0), some (.int (ndN V S (t + 1))), some (.int (nI (t + 1)))]) (by rw [e9]) ?_
        refine g_goto (tgt := 5) dX8_needed_52 (by decide) ?_
        exact ih _ _ (by assumption) _ _ _ _ _ _
      ·
        have b2 := bI_n0.mp c36
        refine g_aload_n (n := 40) dX8_needed_39 rfl rfl ?_
        refine g_iload_n (n := 41) dX8_needed_40 rfl rfl ?_
        refine g_callW (n := 44) cv_X8_195 (t_X8_wouldHold l fell T hT ra lo pr rb lb pb kc S V hV dn fb U un ub a ha hS (nI t)) dX8_needed_41 rfl ⟨by decide, by decide, rfl, rfl, hz.1, hz.2⟩ rfl rfl rfl (Nat.le_of_ble_eq_true rfl) rfl (fun r cw41 hq41 => ?_)
        obtain ⟨rfl, fell2, T2, ra2, lo2, pr2, rb2, lb2, pb2, hT2, rfl⟩ := hq41
        refine ⟨rfl, ?_⟩
        refine g_stN (st' := .int _ :: []) rfl ?_
        refine g_wN (w' := [_, _, _, _, _, _, _, _, _, _, _, _, _, _, _, _, _, _, _, _, _, _, _, _, _, _, _, _, _, _, _, _]) rfl ?_
        refine g_if_eq (tgt := 49) (n := 47) dX8_needed_44 (by decide) rfl (fun c44 => ?_) (fun c44 => ?_)
        ·
          have e9 : ndN V S (t + 1) = ndN V S t := by rw [ndN, st_nd hV ht, b1, b2, bI_0.mp c44]; rfl
          refine g_iincN (k := 1) (n := 52) dX8_needed_49 rfl (by decide) rfl rfl ?_
          refine g_lsN (ls' := [_, _, _]) rfl ?_
          refine g_lsN (ls' := [some (.ref 0), some (.int (ndN V S (t + 1))), some (.int (nI (t + 1)))]) (by rw [e9]) ?_
          refine g_goto (tgt := 5) dX8_needed_52 (by decide) ?_
          exact ih _ _ (by assumption) _ _ _ _ _ _
        ·
          have e9 : ndN V S (t + 1) = nI t := by rw [ndN, st_nd hV ht, b1, b2, bI_n0.mp c44]; rfl
          refine g_iload_n (n := 48) dX8_needed_47 rfl rfl ?_
          refine g_istore_n (n := 49) dX8_needed_48 (by decide) rfl rfl ?_
          refine g_lsN (ls' := [_, _, _]) rfl ?_
          refine g_iincN (k := 1) (n := 52) dX8_needed_49 rfl (by decide) rfl rfl ?_
          refine g_lsN (ls' := [_, _, _]) rfl ?_
          refine g_lsN (ls' := [some (.ref 0), some (.int (ndN V S (t + 1))), some (.int (nI (t + 1)))]) (by rw [e9]) ?_
          refine g_goto (tgt := 5) dX8_needed_52 (by decide) ?_
          exact ih _ _ (by assumption) _ _ _ _ _ _
set_option maxRecDepth 20000 in
theorem t_X8_needed (l : Launch) (fell : Int32) (T : ST) (hT : okZ T) (ra lo pr rb lb pb : Nat → Int32) (kc : Int32) (S : ST) (V : WT) (hV : okV V) (dn : Int32) (fb : Nat → Int32) (U : WT) (un : Int32) (ub : Nat → Int32) (a : Nat) (ha : a + 100 < 2 ^ 31) (hS : okS V S a) : Con l M_X8_needed [.ref 0] (xa fell T ra lo pr rb lb pb kc S V dn fb U un ub) (fun r u => r = some (.int (ndN V S (2 ^ vnf V))) ∧ ∃ fell T ra lo pr rb lb pb, okZ T ∧ u = xa fell T ra lo pr rb lb pb kc S V dn fb U un ub) := by
  refine con_of rfl rfl (Nat.le_of_ble_eq_true rfl) ?_
  refine g_lsN (ls' := [_, _, _]) rfl ?_
  refine g_bipush (v := (-4)) (n := 2) dX8_needed_0 (by decide) rfl ?_
  refine g_istore_n (n := 3) dX8_needed_2 (by decide) rfl rfl ?_
  refine g_lsN (ls' := [_, _, _]) rfl ?_
  refine g_iconst (v := nI 0) (n := 4) dX8_needed_3 (by decide) rfl ?_
  refine g_istore_n (n := 5) dX8_needed_4 (by decide) rfl rfl ?_
  refine g_lsN (ls' := [_, _, _]) rfl ?_
  exact lp_X8_needed l _ ⟨Nat.zero_le _, Nat.zero_le _⟩ _ kc S V hV dn fb U un ub a ha hS (fun fell T ra lo pr rb lb pb hT => ⟨rfl, fell, T, ra, lo, pr, rb, lb, pb, hT, rfl⟩) 0 (Nat.zero_le _) fell T hT ra lo pr rb lb pb
theorem st_cu {V : WT} (hV : okV V) {S : ST} {t : Nat} (ht : t < 2 ^ vnf V) {fd : Int32} : cuS V S t fd = if fewB fd t && (decide (nI t &&& (sup S ^^^ (-1)) = 0)) && (decide (fk V (sUp S (sup S &&& (nI t ^^^ (-1)))) 24 ≤ 24)) then nI t else fd := by
  unfold cuS fewB
  generalize hA : decide (nI t &&& (sup S ^^^ (-1)) = 0) = A
  generalize (decide (fd = (-4)) || !decide (on fd 8 ≤ on (nI t) 8)) = B
  by_cases c : fk V (sUp S (sup S &&& (nI t ^^^ (-1)))) 24 ≤ 24 <;> cases A <;> cases B <;> simp [c]
set_option maxRecDepth 20000 in
theorem lp_X8_cuts (l : Launch) (z : Nat × Nat × Nat) (hz : z.2.1 ≤ 0 ∧ z.2.2 ≤ 0) (Q : Option Value → List va_E → Prop)  (kc : Int32) (S : ST) (V : WT) (hV : okV V) (dn : Int32) (fb : Nat → Int32) (U : WT) (un : Int32) (ub : Nat → Int32) (a : Nat) (ha : a + 100 < 2 ^ 31) (hS : okS V S a) (hQ : ∀ fell T ra lo pr rb lb pb, okZ T → Q (some (.int (cuN V S (2 ^ vnf V)))) (xa fell T ra lo pr rb lb pb kc S V dn fb U un ub)) : ∀ t, t ≤ 2 ^ vnf V → ∀ (fell : Int32) (T : ST) (hT : okZ T) (ra lo pr rb lb pb : Nat → Int32), G l M_X8_cuts z Q 5 [some (.ref 0), some (.int (cuN V S t)), some (.int (nI t))] [] (xa fell T ra lo pr rb lb pb kc S V dn fb U un ub) := by
  have hV1 := hV.1
  have hV2 := hV.2.1
  have hV3 := hV.2.2
  have hp := pow6 hV2
  refine loopN (2 ^ vnf V) ?_ (fun t ht ih => ?_)
  ·
    intro fell T hT ra lo pr rb lb pb
    refine g_iload_n (n := 6) dX8_cuts_5 rfl rfl ?_
    refine g_aload_n (n := 7) dX8_cuts_6 rfl rfl ?_
    refine g_get (n := 10) fl_X8_65 dX8_cuts_7 rfl rfl rfl ?_
    refine g_cutVi (ps := [14, 15, 16, 17, 18, 19, 20]) (w' := [_, _, _, _, _, _, _, _, _, _, _, _, _, _, _, _, _, _, _, _, _, _, _, _, _, _, _, _, _, _, _, _]) (n := 13) cv_X8_185 (t_X7_allButtresses l V hV dn) dX8_cuts_10 rfl rfl rfl ⟨by decide, by decide, rfl, rfl, hz.1, hz.2⟩ rfl rfl rfl (Nat.le_of_ble_eq_true rfl) rfl rfl rfl ?_
    refine g_icmp_gt (tgt := 54) (n := 16) dX8_cuts_13 (by decide) rfl (fun c13 => ?_) (fun c13 => absurd (nI_sub_lt (Nat.le_refl _) (Nat.one_le_two_pow) (by omega)) c13)
    refine g_iload_n (n := 55) dX8_cuts_54 rfl rfl ?_
    exact g_iret (ty := .int) dX8_cuts_55 rfl rfl hz (hQ _ _ _ _ _ _ _ _ hT)
  ·
    intro fell T hT ra lo pr rb lb pb
    refine g_iload_n (n := 6) dX8_cuts_5 rfl rfl ?_
    refine g_aload_n (n := 7) dX8_cuts_6 rfl rfl ?_
    refine g_get (n := 10) fl_X8_65 dX8_cuts_7 rfl rfl rfl ?_
    refine g_cutVi (ps := [14, 15, 16, 17, 18, 19, 20]) (w' := [_, _, _, _, _, _, _, _, _, _, _, _, _, _, _, _, _, _, _, _, _, _, _, _, _, _, _, _, _, _, _, _]) (n := 13) cv_X8_185 (t_X7_allButtresses l V hV dn) dX8_cuts_10 rfl rfl rfl ⟨by decide, by decide, rfl, rfl, hz.1, hz.2⟩ rfl rfl rfl (Nat.le_of_ble_eq_true rfl) rfl rfl rfl ?_
    refine g_icmp_gt (tgt := 54) (n := 16) dX8_cuts_13 (by decide) rfl (fun c13 => absurd c13 (nI_sub_ge ht (Nat.one_le_two_pow) (by omega))) (fun c13 => ?_)
    refine g_iload_n (n := 17) dX8_cuts_16 rfl rfl ?_
    refine g_iload_n (n := 18) dX8_cuts_17 rfl rfl ?_
    refine g_callSi (n := 21) cs_X8_188 (t_X8_isFewer l t (cuN V S t) (by omega) ((nS_cu V S t).imp id (fun ⟨k, h1, h2⟩ => ⟨k, by omega, h2⟩))) dX8_cuts_18 rfl rfl ⟨by decide, by decide, rfl, rfl, hz.1, hz.2⟩ rfl (Nat.le_of_ble_eq_true rfl) rfl ?_
    refine g_if_eq (tgt := 48) (n := 24) dX8_cuts_21 (by decide) rfl (fun c21 => ?_) (fun c21 => ?_)
    ·
      have e9 : cuN V S (t + 1) = cuN V S t := by rw [cuN, st_cu hV ht, bI_0.mp c21, Bool.false_and, Bool.false_and]; rfl
      refine g_iincN (k := 1) (n := 51) dX8_cuts_48 rfl (by decide) rfl rfl ?_
      refine g_lsN (ls' := [_, _, _]) rfl ?_
      refine g_lsN (ls' := [some (.ref 0), some (.int (cuN V S (t + 1))), some (.int (nI (t + 1)))]) (by rw [e9]) ?_
      refine g_goto (tgt := 5) dX8_cuts_51 (by decide) ?_
      exact ih _ _ (by assumption) _ _ _ _ _ _
    ·
      have b1 := bI_n0.mp c21
      refine g_iload_n (n := 25) dX8_cuts_24 rfl rfl ?_
      refine g_aload_n (n := 26) dX8_cuts_25 rfl rfl ?_
      refine g_get (n := 29) fl_X8_47 dX8_cuts_26 rfl rfl rfl ?_
      refine g_get (n := 32) fl_X8_198 dX8_cuts_29 rfl rfl rfl ?_
      refine g_callSi (n := 35) cs_X8_201 (t_X8_isPart l _ _) dX8_cuts_32 rfl rfl ⟨by decide, by decide, rfl, rfl, hz.1, hz.2⟩ rfl (Nat.le_of_ble_eq_true rfl) rfl ?_
      refine g_if_eq (tgt := 48) (n := 38) dX8_cuts_35 (by decide) rfl (fun c35 => ?_) (fun c35 => ?_)
      ·
        have e9 : cuN V S (t + 1) = cuN V S t := by rw [cuN, st_cu hV ht, b1, bI_0.mp c35, Bool.and_false, Bool.false_and]; rfl
        refine g_iincN (k := 1) (n := 51) dX8_cuts_48 rfl (by decide) rfl rfl ?_
        refine g_lsN (ls' := [_, _, _]) rfl ?_
        refine g_lsN (ls' := [some (.ref 0), some (.int (cuN V S (t + 1))), some (.int (nI (t + 1)))]) (by rw [e9]) ?_
        refine g_goto (tgt := 5) dX8_cuts_51 (by decide) ?_
        exact ih _ _ (by assumption) _ _ _ _ _ _
      ·
        have b2 := bI_n0.mp c35
        refine g_aload_n (n := 39) dX8_cuts_38 rfl rfl ?_
        refine g_iload_n (n := 40) dX8_cuts_39 rfl rfl ?_
        refine g_callW (n := 43) cv_X8_204 (t_X8_wouldBreak l fell T hT ra lo pr rb lb pb kc S V hV dn fb U un ub a ha hS (nI t)) dX8_cuts_40 rfl ⟨by decide, by decide, rfl, rfl, hz.1, hz.2⟩ rfl rfl rfl (Nat.le_of_ble_eq_true rfl) rfl (fun r cw40 hq40 => ?_)
        obtain ⟨rfl, fell2, T2, ra2, lo2, pr2, rb2, lb2, pb2, hT2, rfl⟩ := hq40
        refine ⟨rfl, ?_⟩
        refine g_stN (st' := .int _ :: []) rfl ?_
        refine g_wN (w' := [_, _, _, _, _, _, _, _, _, _, _, _, _, _, _, _, _, _, _, _, _, _, _, _, _, _, _, _, _, _, _, _]) rfl ?_
        refine g_if_eq (tgt := 48) (n := 46) dX8_cuts_43 (by decide) rfl (fun c43 => ?_) (fun c43 => ?_)
        ·
          have e9 : cuN V S (t + 1) = cuN V S t := by rw [cuN, st_cu hV ht, b1, b2, bI_0.mp c43]; rfl
          refine g_iincN (k := 1) (n := 51) dX8_cuts_48 rfl (by decide) rfl rfl ?_
          refine g_lsN (ls' := [_, _, _]) rfl ?_
          refine g_lsN (ls' := [some (.ref 0), some (.int (cuN V S (t + 1))), some (.int (nI (t + 1)))]) (by rw [e9]) ?_
          refine g_goto (tgt := 5) dX8_cuts_51 (by decide) ?_
          exact ih _ _ (by assumption) _ _ _ _ _ _
        ·
          have e9 : cuN V S (t + 1) = nI t := by rw [cuN, st_cu hV ht, b1, b2, bI_n0.mp c43]; rfl
          refine g_iload_n (n := 47) dX8_cuts_46 rfl rfl ?_
          refine g_istore_n (n := 48) dX8_cuts_47 (by decide) rfl rfl ?_
          refine g_lsN (ls' := [_, _, _]) rfl ?_
          refine g_iincN (k := 1) (n := 51) dX8_cuts_48 rfl (by decide) rfl rfl ?_
          refine g_lsN (ls' := [_, _, _]) rfl ?_
          refine g_lsN (ls' := [some (.ref 0), some (.int (cuN V S (t + 1))), some (.int (nI (t + 1)))]) (by rw [e9]) ?_
          refine g_goto (tgt := 5) dX8_cuts_51 (by decide) ?_
          exact ih _ _ (by assumption) _ _ _ _ _ _
set_option maxRecDepth 20000 in
theorem t_X8_cuts (l : Launch) (fell : Int32) (T : ST) (hT : okZ T) (ra lo pr rb lb pb : Nat → Int32) (kc : Int32) (S : ST) (V : WT) (hV : okV V) (dn : Int32) (fb : Nat → Int32) (U : WT) (un : Int32) (ub : Nat → Int32) (a : Nat) (ha : a + 100 < 2 ^ 31) (hS : okS V S a) : Con l M_X8_cuts [.ref 0] (xa fell T ra lo pr rb lb pb kc S V dn fb U un ub) (fun r u => r = some (.int (cuN V S (2 ^ vnf V))) ∧ ∃ fell T ra lo pr rb lb pb, okZ T ∧ u = xa fell T ra lo pr rb lb pb kc S V dn fb U un ub) := by
  refine con_of rfl rfl (Nat.le_of_ble_eq_true rfl) ?_
  refine g_lsN (ls' := [_, _, _]) rfl ?_
  refine g_bipush (v := (-4)) (n := 2) dX8_cuts_0 (by decide) rfl ?_
  refine g_istore_n (n := 3) dX8_cuts_2 (by decide) rfl rfl ?_
  refine g_lsN (ls' := [_, _, _]) rfl ?_
  refine g_iconst (v := nI 0) (n := 4) dX8_cuts_3 (by decide) rfl ?_
  refine g_istore_n (n := 5) dX8_cuts_4 (by decide) rfl rfl ?_
  refine g_lsN (ls' := [_, _, _]) rfl ?_
  exact lp_X8_cuts l _ ⟨Nat.zero_le _, Nat.zero_le _⟩ _ kc S V hV dn fb U un ub a ha hS (fun fell T ra lo pr rb lb pb hT => ⟨rfl, fell, T, ra, lo, pr, rb, lb, pb, hT, rfl⟩) 0 (Nat.zero_le _) fell T hT ra lo pr rb lb pb

/-! 34.cstands: the class's stands, place -/
theorem inB_t {x lo hi : Int32} (h1 : ¬ x < lo) (h2 : x ≤ hi) : inB x lo hi = true := by
  unfold inB
  rw [decide_eq_true (Int32.not_lt.mp h1), decide_eq_true h2]; rfl
theorem inB_ge {x lo hi : Int32} (h : inB x lo hi = true) : ¬ x < lo := by
  unfold inB at h
  rw [Bool.and_eq_true, decide_eq_true_eq, decide_eq_true_eq] at h
  exact Int32.not_lt.mpr h.1
theorem inB_le {x lo hi : Int32} (h : inB x lo hi = true) : x ≤ hi := by
  unfold inB at h
  rw [Bool.and_eq_true, decide_eq_true_eq, decide_eq_true_eq] at h
  exact h.2
theorem inB_x {x lo hi : Int32} {P : Prop} (h : inB x lo hi = false) (h1 : ¬ x < lo) (h2 : x ≤ hi) : P := absurd h (by rw [inB_t h1 h2]; exact Bool.noConfusion)
/-- bits of bays or buttresses alone -/
def okN (x : Int32) : Prop := ∃ k, k < 256 ∧ x = nI k
theorem okN_of {x : Int32} (h : ∀ j, 8 ≤ j → j < 32 → hb x (nI j) = false) : okN x := by
  refine ⟨x.toBitVec.toNat, ?_, ?_⟩
  · refine Nat.lt_pow_two_of_testBit (n := 8) _ (fun i hi => ?_)
    rcases Nat.lt_or_ge i 32 with h2 | h2
    · have := h i hi h2
      rw [hb_bt _ h2] at this
      exact this
    · exact Nat.testBit_lt_two_pow (Nat.lt_of_lt_of_le x.toBitVec.isLt (Nat.pow_le_pow_right (by decide) h2))
  · apply Int32.toBitVec_inj.mp
    show x.toBitVec = BitVec.ofNat 32 x.toBitVec.toNat
    rw [BitVec.ofNat_toNat]
    simp
theorem okN_hb {x : Int32} (h : okN x) {j : Nat} (h8 : 8 ≤ j) (hj : j < 32) : hb x (nI j) = false := by
  obtain ⟨k, hk, rfl⟩ := h
  exact hb_hi (n := 8) hk h8 hj
theorem okN_flN (V : WT) (S : ST) : ∀ k, k ≤ 8 → okN (flN V S k)
  | 0, _ => ⟨0, by decide, rfl⟩
  | k + 1, hk => by
    refine okN_of (fun j h8 hj => ?_)
    have ih := okN_hb (okN_flN V S k (by omega)) h8 hj
    rw [flN]
    split
    · exact ih
    · rw [hb_or _ _ hj, ih, Bool.false_or]
      split
      · exact hb_0 hj
      · rw [hb_shb (by omega) hj, decide_eq_false (by omega)]
/-- what has fallen anew when a trial ends -/
theorem new_fl {V : WT} (hV : okV V) {S T : ST} (h : sfa T = sfa S) : sfa (psF V T) &&& (sfa S ^^^ (-1)) = flN V T (vnb V) := by
  have h8 := hV.1
  refine hb_ext (fun j hj => ?_)
  show hb ((sfa T ||| flN V T (vnb V)) &&& _) _ = _
  rw [hb_and _ _ hj, hb_not _ hj, hb_or _ _ hj, h]
  cases hx : hb (sfa S) (nI j) with
  | true => rw [hb_flN V T hj (by rw [h]; exact hx) _ (by omega)]; rfl
  | false => rw [Bool.false_or, Bool.not_false, Bool.and_true]
/-- a trial in which nothing falls: nothing fell anew -/
theorem ff_no0 {V : WT} : ∀ (n h : Nat) (S : ST) (fl : Int32), fl = 0 → h + n < 1000 → (ffR V n h S fl).1 = (-4) → (ffR V n h S fl).2.2 = 0
  | 0, _, _, _, h0, _, _ => h0
  | n + 1, h, S, fl, _, hn, c => by
    rw [ffR] at c ⊢
    by_cases q : flN V S (vnb V) = 0
    · rw [if_pos q] at c ⊢; exact ff_no0 n _ _ _ q (by omega) c
    · rw [if_neg q] at c
      exact absurd c ((by decide +kernel : ∀ k, k < 1000 → ¬ nI (k + 1) = (-4)) h (by omega))
theorem pl_le (V : WT) (S : ST) (f : Nat) : ∀ b, ∃ m : Nat, m ≤ 61 ∧ (plN V S f b).2 = nI m
  | 0 => ⟨0, by decide, rfl⟩
  | b + 1 => by
    obtain ⟨m, h1, h2⟩ := pl_le V S f b
    rw [plN]
    unfold plS
    split
    · exact ⟨m, h1, h2⟩
    · split
      · exact ⟨m, h1, h2⟩
      · exact ⟨_, fk_le V _ 60, rfl⟩

set_option maxRecDepth 20000 in
theorem t_X8_stands_bad (l : Launch) (fell : Int32) (T : ST) (hT : okZ T) (ra lo pr rb lb pb : Nat → Int32) (kc : Int32) (S : ST) (V : WT) (hV : okV V) (dn : Int32) (fb : Nat → Int32) (U : WT) (un : Int32) (ub : Nat → Int32) (a : Nat) (ha : a + 100 < 2 ^ 31) (hS : okS V S a) (x : Int32) (h : inB x (nI 0) (nI 1) = false) : Con l M_X8_stands [.ref 0, .int x] (xa fell T ra lo pr rb lb pb kc S V dn fb U un ub) (fun r u => r = some (.int (-1)) ∧ ∃ fell T ra lo pr rb lb pb, okZ T ∧ u = xa fell T ra lo pr rb lb pb kc S V dn fb U un ub) := by
  refine con_of rfl rfl (Nat.le_of_ble_eq_true rfl) ?_
  refine g_lsN (ls' := [_, _, _]) rfl ?_
  refine g_iload_n (n := 1) dX8_stands_0 rfl rfl ?_
  refine g_if_lt (tgt := 9) (n := 4) dX8_stands_1 (by decide) rfl (fun c1 => ?_) (fun c1 => ?_)
  ·
    refine g_iconst (v := (-1)) (n := 10) dX8_stands_9 (by decide) rfl ?_
    exact g_iret (ty := .int) dX8_stands_10 rfl rfl ⟨Nat.zero_le _, Nat.zero_le _⟩ ⟨rfl, _, _, _, _, _, _, _, _, hT, rfl⟩
  ·
    refine g_iload_n (n := 5) dX8_stands_4 rfl rfl ?_
    refine g_iconst (v := nI 1) (n := 6) dX8_stands_5 (by decide) rfl ?_
    refine g_icmp_le (tgt := 11) (n := 9) dX8_stands_6 (by decide) rfl (fun c6 => ?_) (fun c6 => ?_)
    ·
      exact inB_x h c1 c6
    ·
      refine g_iconst (v := (-1)) (n := 10) dX8_stands_9 (by decide) rfl ?_
      exact g_iret (ty := .int) dX8_stands_10 rfl rfl ⟨Nat.zero_le _, Nat.zero_le _⟩ ⟨rfl, _, _, _, _, _, _, _, _, hT, rfl⟩
set_option maxRecDepth 20000 in
theorem t_X8_stands_none (l : Launch) (fell : Int32) (T : ST) (hT : okZ T) (ra lo pr rb lb pb : Nat → Int32) (kc : Int32) (S : ST) (V : WT) (hV : okV V) (dn : Int32) (fb : Nat → Int32) (U : WT) (un : Int32) (ub : Nat → Int32) (a : Nat) (ha : a + 100 < 2 ^ 31) (hS : okS V S a) (x : Int32) (h : inB x (nI 0) (nI 1) = true) (hf : 60 < fk V S 60) : Con l M_X8_stands [.ref 0, .int x] (xa fell T ra lo pr rb lb pb kc S V dn fb U un ub) (fun r u => r = some (.int (-4)) ∧ ∃ fell T ra lo pr rb lb pb, okZ T ∧ u = xa fell T ra lo pr rb lb pb kc S V dn fb U un ub) := by
  have e9 : (ffR V 60 0 S (nI 0)).1 = (-4) := by rw [ff_fk hV, if_neg (by omega)]
  have e7 : (ffR V 60 0 S (nI 0)).2.2 = 0 := ff_no0 60 0 S (nI 0) rfl (by decide) e9
  refine con_of rfl rfl (Nat.le_of_ble_eq_true rfl) ?_
  refine g_lsN (ls' := [_, _, _]) rfl ?_
  refine g_iload_n (n := 1) dX8_stands_0 rfl rfl ?_
  refine g_if_lt (tgt := 9) (n := 4) dX8_stands_1 (by decide) rfl (fun c1 => absurd c1 (inB_ge h)) (fun c1 => ?_)
  refine g_iload_n (n := 5) dX8_stands_4 rfl rfl ?_
  refine g_iconst (v := nI 1) (n := 6) dX8_stands_5 (by decide) rfl ?_
  refine g_icmp_le (tgt := 11) (n := 9) dX8_stands_6 (by decide) rfl (fun c6 => ?_) (fun c6 => absurd (inB_le h) c6)
  refine g_aload_n (n := 12) dX8_stands_11 rfl rfl ?_
  refine g_get (n := 15) fl_X8_33 dX8_stands_12 rfl rfl rfl ?_
  refine g_aload_n (n := 16) dX8_stands_15 rfl rfl ?_
  refine g_get (n := 19) fl_X8_47 dX8_stands_16 rfl rfl rfl ?_
  refine g_cutVv (ps := [1, 2, 3, 4, 5, 10, 11, 12, 13, 6]) (w' := [_, _, _, _, _, _, _, _, _, _, _, _, _, _, _, _, _, _, _, _, _, _, _, _, _, _, _, _, _, _, _, _]) (n := 22) cv_X8_176 (t_X6_startFrom l _ _ S hT hS.1) dX8_stands_19 rfl rfl rfl ⟨by decide, by decide, rfl, rfl, Nat.zero_le _, Nat.zero_le _⟩ rfl rfl rfl (Nat.le_of_ble_eq_true rfl) rfl rfl rfl ?_
  refine g_aload_n (n := 23) dX8_stands_22 rfl rfl ?_
  refine g_get (n := 26) fl_X8_33 dX8_stands_23 rfl rfl rfl ?_
  refine g_aload_n (n := 27) dX8_stands_26 rfl rfl ?_
  refine g_get (n := 30) fl_X8_65 dX8_stands_27 rfl rfl rfl ?_
  refine g_bipush (v := nI 60) (n := 32) dX8_stands_30 (by decide) rfl ?_
  refine g_cutV (ps := [1, 2, 3, 4, 5, 6, 7, 8, 9, 14, 15, 16, 17, 18, 19, 20]) (n := 35) cv_X8_179 (t_X6_fallsBehind l V hV dn fb 60 (by decide) S _ _ _ _ a (by omega) hS) dX8_stands_32 rfl rfl rfl ⟨by decide, by decide, rfl, rfl, Nat.zero_le _, Nat.zero_le _⟩ rfl rfl rfl (Nat.le_of_ble_eq_true rfl) rfl (fun r cw32 hq32 => ?_)
  obtain ⟨rfl, ra2, lo2, pr2, rfl⟩ := hq32
  refine ⟨rfl, ?_⟩
  refine g_stN (st' := .int _ :: []) rfl ?_
  refine g_wN (w' := [_, _, _, _, _, _, _, _, _, _, _, _, _, _, _, _, _, _, _, _, _, _, _, _, _, _, _, _, _, _, _, _]) rfl ?_
  refine g_istore_n (n := 36) dX8_stands_35 (by decide) rfl rfl ?_
  refine g_lsN (ls' := [_, _, _]) rfl ?_
  refine g_iload_n (n := 37) dX8_stands_36 rfl rfl ?_
  refine g_if_ne (tgt := 44) (n := 40) dX8_stands_37 (by decide) rfl (fun c37 => ?_) (fun c37 => ?_)
  ·
    rw [e7]
    refine g_aload_n (n := 45) dX8_stands_44 rfl rfl ?_
    refine g_get (n := 48) fl_X8_33 dX8_stands_45 rfl rfl rfl ?_
    refine g_cutVi (ps := [1, 2, 6]) (w' := [_, _, _, _, _, _, _, _, _, _, _, _, _, _, _, _, _, _, _, _, _, _, _, _, _, _, _, _, _, _, _, _]) (n := 51) cv_X8_182 (t_X6_lowestFell_0 l) dX8_stands_48 rfl rfl rfl ⟨by decide, by decide, rfl, rfl, Nat.zero_le _, Nat.zero_le _⟩ rfl rfl rfl (Nat.le_of_ble_eq_true rfl) rfl rfl rfl ?_
    exact g_iret (ty := .int) dX8_stands_51 rfl rfl ⟨Nat.zero_le _, Nat.zero_le _⟩ ⟨by first | rw [e9] | rfl, _, _, _, _, _, _, _, _, (okZ_ff hV 60 0 S (nI 0) hS.1), rfl⟩
  ·
    refine g_iload_n (n := 41) dX8_stands_40 rfl rfl ?_
    refine g_goto (tgt := 51) dX8_stands_41 (by decide) ?_
    exact g_iret (ty := .int) dX8_stands_51 rfl rfl ⟨Nat.zero_le _, Nat.zero_le _⟩ ⟨by first | rw [e9] | rfl, _, _, _, _, _, _, _, _, (okZ_ff hV 60 0 S (nI 0) hS.1), rfl⟩
set_option maxRecDepth 20000 in
theorem t_X8_stands_0 (l : Launch) (fell : Int32) (T : ST) (hT : okZ T) (ra lo pr rb lb pb : Nat → Int32) (kc : Int32) (S : ST) (V : WT) (hV : okV V) (dn : Int32) (fb : Nat → Int32) (U : WT) (un : Int32) (ub : Nat → Int32) (a : Nat) (ha : a + 100 < 2 ^ 31) (hS : okS V S a) (hf : fk V S 60 ≤ 60) : Con l M_X8_stands [.ref 0, .int (nI 0)] (xa fell T ra lo pr rb lb pb kc S V dn fb U un ub) (fun r u => r = some (.int (nI (fk V S 60))) ∧ ∃ fell T ra lo pr rb lb pb, okZ T ∧ u = xa fell T ra lo pr rb lb pb kc S V dn fb U un ub) := by
  have e9 : (ffR V 60 0 S (nI 0)).1 = nI (fk V S 60) := by rw [ff_fk hV, if_pos hf]
  refine con_of rfl rfl (Nat.le_of_ble_eq_true rfl) ?_
  refine g_lsN (ls' := [_, _, _]) rfl ?_
  refine g_iload_n (n := 1) dX8_stands_0 rfl rfl ?_
  refine g_if_lt (tgt := 9) (n := 4) dX8_stands_1 (by decide) rfl (fun c1 => absurd c1 (by decide)) (fun c1 => ?_)
  refine g_iload_n (n := 5) dX8_stands_4 rfl rfl ?_
  refine g_iconst (v := nI 1) (n := 6) dX8_stands_5 (by decide) rfl ?_
  refine g_icmp_le (tgt := 11) (n := 9) dX8_stands_6 (by decide) rfl (fun c6 => ?_) (fun c6 => absurd (by decide) c6)
  refine g_aload_n (n := 12) dX8_stands_11 rfl rfl ?_
  refine g_get (n := 15) fl_X8_33 dX8_stands_12 rfl rfl rfl ?_
  refine g_aload_n (n := 16) dX8_stands_15 rfl rfl ?_
  refine g_get (n := 19) fl_X8_47 dX8_stands_16 rfl rfl rfl ?_
  refine g_cutVv (ps := [1, 2, 3, 4, 5, 10, 11, 12, 13, 6]) (w' := [_, _, _, _, _, _, _, _, _, _, _, _, _, _, _, _, _, _, _, _, _, _, _, _, _, _, _, _, _, _, _, _]) (n := 22) cv_X8_176 (t_X6_startFrom l _ _ S hT hS.1) dX8_stands_19 rfl rfl rfl ⟨by decide, by decide, rfl, rfl, Nat.zero_le _, Nat.zero_le _⟩ rfl rfl rfl (Nat.le_of_ble_eq_true rfl) rfl rfl rfl ?_
  refine g_aload_n (n := 23) dX8_stands_22 rfl rfl ?_
  refine g_get (n := 26) fl_X8_33 dX8_stands_23 rfl rfl rfl ?_
  refine g_aload_n (n := 27) dX8_stands_26 rfl rfl ?_
  refine g_get (n := 30) fl_X8_65 dX8_stands_27 rfl rfl rfl ?_
  refine g_bipush (v := nI 60) (n := 32) dX8_stands_30 (by decide) rfl ?_
  refine g_cutV (ps := [1, 2, 3, 4, 5, 6, 7, 8, 9, 14, 15, 16, 17, 18, 19, 20]) (n := 35) cv_X8_179 (t_X6_fallsBehind l V hV dn fb 60 (by decide) S _ _ _ _ a (by omega) hS) dX8_stands_32 rfl rfl rfl ⟨by decide, by decide, rfl, rfl, Nat.zero_le _, Nat.zero_le _⟩ rfl rfl rfl (Nat.le_of_ble_eq_true rfl) rfl (fun r cw32 hq32 => ?_)
  obtain ⟨rfl, ra2, lo2, pr2, rfl⟩ := hq32
  refine ⟨rfl, ?_⟩
  refine g_stN (st' := .int _ :: []) rfl ?_
  refine g_wN (w' := [_, _, _, _, _, _, _, _, _, _, _, _, _, _, _, _, _, _, _, _, _, _, _, _, _, _, _, _, _, _, _, _]) rfl ?_
  refine g_istore_n (n := 36) dX8_stands_35 (by decide) rfl rfl ?_
  refine g_lsN (ls' := [_, _, _]) rfl ?_
  refine g_iload_n (n := 37) dX8_stands_36 rfl rfl ?_
  refine g_if_ne (tgt := 44) (n := 40) dX8_stands_37 (by decide) rfl (fun c37 => absurd rfl c37) (fun c37 => ?_)
  refine g_iload_n (n := 41) dX8_stands_40 rfl rfl ?_
  refine g_goto (tgt := 51) dX8_stands_41 (by decide) ?_
  exact g_iret (ty := .int) dX8_stands_51 rfl rfl ⟨Nat.zero_le _, Nat.zero_le _⟩ ⟨by rw [e9], _, _, _, _, _, _, _, _, (okZ_ff hV 60 0 S (nI 0) hS.1), rfl⟩
set_option maxRecDepth 20000 in
theorem t_X8_stands_1 (l : Launch) (fell : Int32) (T : ST) (hT : okZ T) (ra lo pr rb lb pb : Nat → Int32) (kc : Int32) (S : ST) (V : WT) (hV : okV V) (dn : Int32) (fb : Nat → Int32) (U : WT) (un : Int32) (ub : Nat → Int32) (a : Nat) (ha : a + 100 < 2 ^ 31) (hS : okS V S a) (hf : fk V S 60 ≤ 60) (j : Nat) (hj : j < 32) (h1 : hb (sfa (fS V S 60) &&& (sfa S ^^^ (-1))) (nI j) = true) (h2 : ∀ i, i < j → hb (sfa (fS V S 60) &&& (sfa S ^^^ (-1))) (nI i) = false) : Con l M_X8_stands [.ref 0, .int (nI 1)] (xa fell T ra lo pr rb lb pb kc S V dn fb U un ub) (fun r u => r = some (.int (nI j)) ∧ ∃ fell T ra lo pr rb lb pb, okZ T ∧ u = xa fell T ra lo pr rb lb pb kc S V dn fb U un ub) := by
  have e9 : (ffR V 60 0 S (nI 0)).1 = nI (fk V S 60) := by rw [ff_fk hV, if_pos hf]
  obtain ⟨e1, T1, e2, e3, e4⟩ := ff_end hV 60 0 S (nI 0) hf
  have e5 : sfa (fS V S 60) &&& (sfa S ^^^ (-1)) = flN V T1 (vnb V) := by rw [← new_fl hV e3, e2]; rfl
  rw [e5] at h1 h2
  obtain ⟨k, hk, e6⟩ := okN_flN V T1 (vnb V) hV.1
  rw [e6] at h1 h2
  have hj8 : j < 8 := Nat.lt_of_not_le (fun q => by rw [hb_hi (n := 8) hk q hj] at h1; cases h1)
  have hz : nzH k j = true := by
    unfold nzH
    rw [h1, Bool.true_and, List.all_eq_true]
    intro i hi
    rw [h2 i (List.mem_range.mp hi)]; rfl
  have hk0 : ¬ nI k = 0 := fun q => by rw [q, show (0 : Int32) = nI 0 from rfl, hb_0 hj] at h1; cases h1
  rw [e6] at e4
  refine con_of rfl rfl (Nat.le_of_ble_eq_true rfl) ?_
  refine g_lsN (ls' := [_, _, _]) rfl ?_
  refine g_iload_n (n := 1) dX8_stands_0 rfl rfl ?_
  refine g_if_lt (tgt := 9) (n := 4) dX8_stands_1 (by decide) rfl (fun c1 => absurd c1 (by decide)) (fun c1 => ?_)
  refine g_iload_n (n := 5) dX8_stands_4 rfl rfl ?_
  refine g_iconst (v := nI 1) (n := 6) dX8_stands_5 (by decide) rfl ?_
  refine g_icmp_le (tgt := 11) (n := 9) dX8_stands_6 (by decide) rfl (fun c6 => ?_) (fun c6 => absurd (by decide) c6)
  refine g_aload_n (n := 12) dX8_stands_11 rfl rfl ?_
  refine g_get (n := 15) fl_X8_33 dX8_stands_12 rfl rfl rfl ?_
  refine g_aload_n (n := 16) dX8_stands_15 rfl rfl ?_
  refine g_get (n := 19) fl_X8_47 dX8_stands_16 rfl rfl rfl ?_
  refine g_cutVv (ps := [1, 2, 3, 4, 5, 10, 11, 12, 13, 6]) (w' := [_, _, _, _, _, _, _, _, _, _, _, _, _, _, _, _, _, _, _, _, _, _, _, _, _, _, _, _, _, _, _, _]) (n := 22) cv_X8_176 (t_X6_startFrom l _ _ S hT hS.1) dX8_stands_19 rfl rfl rfl ⟨by decide, by decide, rfl, rfl, Nat.zero_le _, Nat.zero_le _⟩ rfl rfl rfl (Nat.le_of_ble_eq_true rfl) rfl rfl rfl ?_
  refine g_aload_n (n := 23) dX8_stands_22 rfl rfl ?_
  refine g_get (n := 26) fl_X8_33 dX8_stands_23 rfl rfl rfl ?_
  refine g_aload_n (n := 27) dX8_stands_26 rfl rfl ?_
  refine g_get (n := 30) fl_X8_65 dX8_stands_27 rfl rfl rfl ?_
  refine g_bipush (v := nI 60) (n := 32) dX8_stands_30 (by decide) rfl ?_
  refine g_cutV (ps := [1, 2, 3, 4, 5, 6, 7, 8, 9, 14, 15, 16, 17, 18, 19, 20]) (n := 35) cv_X8_179 (t_X6_fallsBehind l V hV dn fb 60 (by decide) S _ _ _ _ a (by omega) hS) dX8_stands_32 rfl rfl rfl ⟨by decide, by decide, rfl, rfl, Nat.zero_le _, Nat.zero_le _⟩ rfl rfl rfl (Nat.le_of_ble_eq_true rfl) rfl (fun r cw32 hq32 => ?_)
  obtain ⟨rfl, ra2, lo2, pr2, rfl⟩ := hq32
  refine ⟨rfl, ?_⟩
  refine g_stN (st' := .int _ :: []) rfl ?_
  refine g_wN (w' := [_, _, _, _, _, _, _, _, _, _, _, _, _, _, _, _, _, _, _, _, _, _, _, _, _, _, _, _, _, _, _, _]) rfl ?_
  refine g_istore_n (n := 36) dX8_stands_35 (by decide) rfl rfl ?_
  refine g_lsN (ls' := [_, _, _]) rfl ?_
  refine g_iload_n (n := 37) dX8_stands_36 rfl rfl ?_
  refine g_if_ne (tgt := 44) (n := 40) dX8_stands_37 (by decide) rfl (fun c37 => ?_) (fun c37 => absurd c37 (by decide))
  rw [e4]
  refine g_aload_n (n := 45) dX8_stands_44 rfl rfl ?_
  refine g_get (n := 48) fl_X8_33 dX8_stands_45 rfl rfl rfl ?_
  refine g_cutVi (ps := [1, 2, 6]) (w' := [_, _, _, _, _, _, _, _, _, _, _, _, _, _, _, _, _, _, _, _, _, _, _, _, _, _, _, _, _, _, _, _]) (n := 51) cv_X8_182 (t_X6_lowestFell l k j hk hj8 hz hk0) dX8_stands_48 rfl rfl rfl ⟨by decide, by decide, rfl, rfl, Nat.zero_le _, Nat.zero_le _⟩ rfl rfl rfl (Nat.le_of_ble_eq_true rfl) rfl rfl rfl ?_
  exact g_iret (ty := .int) dX8_stands_51 rfl rfl ⟨Nat.zero_le _, Nat.zero_le _⟩ ⟨rfl, _, _, _, _, _, _, _, _, (okZ_ff hV 60 0 S (nI 0) hS.1), rfl⟩
set_option maxRecDepth 20000 in
theorem t_X8_place_bad (l : Launch) (fell : Int32) (T : ST) (hT : okZ T) (ra lo pr rb lb pb : Nat → Int32) (kc : Int32) (S : ST) (V : WT) (hV : okV V) (dn : Int32) (fb : Nat → Int32) (U : WT) (un : Int32) (ub : Nat → Int32) (a : Nat) (ha : a + 100 < 2 ^ 31) (hS : okS V S a) (x : Int32) (h : isB (vnf V) x = false) : Con l M_X8_place [.ref 0, .int x] (xa fell T ra lo pr rb lb pb kc S V dn fb U un ub) (fun r u => r = some (.int (-1)) ∧ ∃ fell T ra lo pr rb lb pb, okZ T ∧ u = xa fell T ra lo pr rb lb pb kc S V dn fb U un ub) := by
  refine con_of rfl rfl (Nat.le_of_ble_eq_true rfl) ?_
  refine g_lsN (ls' := [_, _, _, _, _, _]) rfl ?_
  refine g_aload_n (n := 1) dX8_place_0 rfl rfl ?_
  refine g_get (n := 4) fl_X8_65 dX8_place_1 rfl rfl rfl ?_
  refine g_iload_n (n := 5) dX8_place_4 rfl rfl ?_
  refine g_cutVi (ps := [14, 15, 16, 17, 18, 19, 20]) (w' := [_, _, _, _, _, _, _, _, _, _, _, _, _, _, _, _, _, _, _, _, _, _, _, _, _, _, _, _, _, _, _, _]) (n := 8) cv_X8_116 (t_X7_hasButtress l V hV dn _) dX8_place_5 rfl rfl rfl ⟨by decide, by decide, rfl, rfl, Nat.zero_le _, Nat.zero_le _⟩ rfl rfl rfl (Nat.le_of_ble_eq_true rfl) rfl rfl rfl ?_
  refine g_if_ne (tgt := 13) (n := 11) dX8_place_8 (by decide) rfl (fun c8 => absurd (bI_0.mpr h) c8) (fun c8 => ?_)
  refine g_iconst (v := (-1)) (n := 12) dX8_place_11 (by decide) rfl ?_
  exact g_iret (ty := .int) dX8_place_12 rfl rfl ⟨Nat.zero_le _, Nat.zero_le _⟩ ⟨rfl, _, _, _, _, _, _, _, _, hT, rfl⟩
set_option maxRecDepth 20000 in
theorem t_X8_place_no (l : Launch) (fell : Int32) (T : ST) (hT : okZ T) (ra lo pr rb lb pb : Nat → Int32) (kc : Int32) (S : ST) (V : WT) (hV : okV V) (dn : Int32) (fb : Nat → Int32) (U : WT) (un : Int32) (ub : Nat → Int32) (a : Nat) (ha : a + 100 < 2 ^ 31) (hS : okS V S a) (f : Nat) (hf : f < vnf V) (h : hb (sup S) (nI f) = true) : Con l M_X8_place [.ref 0, .int (nI f)] (xa fell T ra lo pr rb lb pb kc S V dn fb U un ub) (fun r u => r = some (.int (-2)) ∧ ∃ fell T ra lo pr rb lb pb, okZ T ∧ u = xa fell T ra lo pr rb lb pb kc S V dn fb U un ub) := by
  have hV1 := hV.1
  have hV2 := hV.2.1
  have hV3 := hV.2.2
  refine con_of rfl rfl (Nat.le_of_ble_eq_true rfl) ?_
  refine g_lsN (ls' := [_, _, _, _, _, _]) rfl ?_
  refine g_aload_n (n := 1) dX8_place_0 rfl rfl ?_
  refine g_get (n := 4) fl_X8_65 dX8_place_1 rfl rfl rfl ?_
  refine g_iload_n (n := 5) dX8_place_4 rfl rfl ?_
  refine g_cutVi (ps := [14, 15, 16, 17, 18, 19, 20]) (w' := [_, _, _, _, _, _, _, _, _, _, _, _, _, _, _, _, _, _, _, _, _, _, _, _, _, _, _, _, _, _, _, _]) (n := 8) cv_X8_116 (t_X7_hasButtress l V hV dn _) dX8_place_5 rfl rfl rfl ⟨by decide, by decide, rfl, rfl, Nat.zero_le _, Nat.zero_le _⟩ rfl rfl rfl (Nat.le_of_ble_eq_true rfl) rfl rfl rfl ?_
  refine g_if_ne (tgt := 13) (n := 11) dX8_place_8 (by decide) rfl (fun c8 => ?_) (fun c8 => absurd c8 (bI_n0.mpr (show isB (vnf V) (nI f) = true by rw [isB_nI (by omega) (by omega)]; exact decide_eq_true hf)))
  refine g_aload_n (n := 14) dX8_place_13 rfl rfl ?_
  refine g_get (n := 17) fl_X8_47 dX8_place_14 rfl rfl rfl ?_
  refine g_iload_n (n := 18) dX8_place_17 rfl rfl ?_
  refine g_cutVi (ps := [10, 11, 12, 13]) (w' := [_, _, _, _, _, _, _, _, _, _, _, _, _, _, _, _, _, _, _, _, _, _, _, _, _, _, _, _, _, _, _, _]) (n := 21) cv_X8_134 (t_X3_isUp l _ _) dX8_place_18 rfl rfl rfl ⟨by decide, by decide, rfl, rfl, Nat.zero_le _, Nat.zero_le _⟩ rfl rfl rfl (Nat.le_of_ble_eq_true rfl) rfl rfl rfl ?_
  refine g_if_eq (tgt := 27) (n := 24) dX8_place_21 (by decide) rfl (fun c21 => absurd c21 (bI_n0.mpr h)) (fun c21 => ?_)
  refine g_bipush (v := (-2)) (n := 26) dX8_place_24 (by decide) rfl ?_
  exact g_iret (ty := .int) dX8_place_26 rfl rfl ⟨Nat.zero_le _, Nat.zero_le _⟩ ⟨rfl, _, _, _, _, _, _, _, _, hT, rfl⟩
set_option maxRecDepth 20000 in
theorem lp_X8_place (l : Launch) (z : Nat × Nat × Nat) (hz : z.2.1 ≤ 0 ∧ z.2.2 ≤ 0) (Q : Option Value → List va_E → Prop)  (kc : Int32) (S : ST) (V : WT) (hV : okV V) (dn : Int32) (fb : Nat → Int32) (U : WT) (un : Int32) (ub : Nat → Int32) (a : Nat) (ha : a + 100 < 2 ^ 31) (hS : okS V S a) (f : Nat) (hf : f < vnf V) (hQ : ∀ fell T ra lo pr rb lb pb, okZ T → Q (some (.int (plN V S f (vnb V)).1)) (xa fell T ra lo pr rb lb pb kc S V dn fb U un ub)) : ∀ b, b ≤ vnb V → ∀ (fell : Int32) (T : ST) (hT : okZ T) (ra lo pr rb lb pb : Nat → Int32) (o5 : Option Value), G l M_X8_place z Q 35 [some (.ref 0), some (.int (nI f)), some (.int (plN V S f b).1), some (.int (plN V S f b).2), some (.int (nI b)), o5] [] (xa fell T ra lo pr rb lb pb kc S V dn fb U un ub) := by
  have hV1 := hV.1
  have hV2 := hV.2.1
  have hV3 := hV.2.2
  refine loopN (vnb V) ?_ (fun b hbn ih => ?_)
  ·
    intro fell T hT ra lo pr rb lb pb o5
    refine g_iload (n := 37) dX8_place_35 rfl rfl ?_
    refine g_aload_n (n := 38) dX8_place_37 rfl rfl ?_
    refine g_get (n := 41) fl_X8_65 dX8_place_38 rfl rfl rfl ?_
    refine g_get (n := 44) fl_X8_215 dX8_place_41 rfl rfl rfl ?_
    refine g_icmp_ge (tgt := 90) (n := 47) dX8_place_44 (by decide) rfl (fun c44 => ?_) (fun c44 => absurd (nI_le (Nat.le_refl _) (by omega)) c44)
    refine g_iload_n (n := 91) dX8_place_90 rfl rfl ?_
    exact g_iret (ty := .int) dX8_place_91 rfl rfl hz (hQ _ _ _ _ _ _ _ _ hT)
  ·
    intro fell T hT ra lo pr rb lb pb o5
    obtain ⟨m, hm, hm2⟩ := pl_le V S f b
    have J70 : ∀ (h : Int32) (fell : Int32) (T : ST) (hT : okZ T) (ra lo pr rb lb pb : Nat → Int32) (o5 : Option Value), plN V S f (b + 1) = (if h ≤ (plN V S f b).2 then (plN V S f b) else (nI b, h)) → G l M_X8_place z Q 70 [some (.ref 0), some (.int (nI f)), some (.int (plN V S f b).1), some (.int (plN V S f b).2), some (.int (nI b)), o5] [.int h] (xa fell T ra lo pr rb lb pb kc S V dn fb U un ub) := by
      intro h fell T hT ra lo pr rb lb pb o5 e9
      refine g_istore (n := 72) dX8_place_70 (by decide) rfl rfl ?_
      refine g_lsN (ls' := [_, _, _, _, _, _]) rfl ?_
      refine g_iload (n := 74) dX8_place_72 rfl rfl ?_
      refine g_iload_n (n := 75) dX8_place_74 rfl rfl ?_
      refine g_icmp_le (tgt := 84) (n := 78) dX8_place_75 (by decide) rfl (fun c75 => ?_) (fun c75 => ?_)
      ·
        rw [if_pos c75] at e9
        refine g_iincN (k := 1) (n := 87) dX8_place_84 rfl (by decide) rfl rfl ?_
        refine g_lsN (ls' := [_, _, _, _, _, _]) rfl ?_
        refine g_lsN (ls' := [some (.ref 0), some (.int (nI f)), some (.int (plN V S f (b + 1)).1), some (.int (plN V S f (b + 1)).2), some (.int (nI (b + 1))), some (.int h)]) (by rw [e9]) ?_
        refine g_goto (tgt := 35) dX8_place_87 (by decide) ?_
        exact ih _ _ hT _ _ _ _ _ _ _
      ·
        rw [if_neg c75] at e9
        refine g_iload (n := 80) dX8_place_78 rfl rfl ?_
        refine g_istore_n (n := 81) dX8_place_80 (by decide) rfl rfl ?_
        refine g_lsN (ls' := [_, _, _, _, _, _]) rfl ?_
        refine g_iload (n := 83) dX8_place_81 rfl rfl ?_
        refine g_istore_n (n := 84) dX8_place_83 (by decide) rfl rfl ?_
        refine g_lsN (ls' := [_, _, _, _, _, _]) rfl ?_
        refine g_iincN (k := 1) (n := 87) dX8_place_84 rfl (by decide) rfl rfl ?_
        refine g_lsN (ls' := [_, _, _, _, _, _]) rfl ?_
        refine g_lsN (ls' := [some (.ref 0), some (.int (nI f)), some (.int (plN V S f (b + 1)).1), some (.int (plN V S f (b + 1)).2), some (.int (nI (b + 1))), some (.int h)]) (by rw [e9]) ?_
        refine g_goto (tgt := 35) dX8_place_87 (by decide) ?_
        exact ih _ _ hT _ _ _ _ _ _ _
    refine g_iload (n := 37) dX8_place_35 rfl rfl ?_
    refine g_aload_n (n := 38) dX8_place_37 rfl rfl ?_
    refine g_get (n := 41) fl_X8_65 dX8_place_38 rfl rfl rfl ?_
    refine g_get (n := 44) fl_X8_215 dX8_place_41 rfl rfl rfl ?_
    refine g_icmp_ge (tgt := 90) (n := 47) dX8_place_44 (by decide) rfl (fun c44 => absurd c44 (nI_ge hbn (by omega))) (fun c44 => ?_)
    refine g_aload_n (n := 48) dX8_place_47 rfl rfl ?_
    refine g_get (n := 51) fl_X8_47 dX8_place_48 rfl rfl rfl ?_
    refine g_iload (n := 53) dX8_place_51 rfl rfl ?_
    refine g_cutVi (ps := [10, 11, 12, 13]) (w' := [_, _, _, _, _, _, _, _, _, _, _, _, _, _, _, _, _, _, _, _, _, _, _, _, _, _, _, _, _, _, _, _]) (n := 56) cv_X8_102 (t_X3_hasFallen l _ _) dX8_place_53 rfl rfl rfl ⟨by decide, by decide, rfl, rfl, hz.1, hz.2⟩ rfl rfl rfl (Nat.le_of_ble_eq_true rfl) rfl rfl rfl ?_
    refine g_if_eq (tgt := 63) (n := 59) dX8_place_56 (by decide) rfl (fun c56 => ?_) (fun c56 => ?_)
    ·
      have b1 : ¬ hb (sfa S) (nI b) = true := by rw [bI_0.mp c56]; exact Bool.false_ne_true
      have e9 : plN V S f (b + 1) = (if nI (fk V (plT S f b) 60) ≤ (plN V S f b).2 then (plN V S f b) else (nI b, nI (fk V (plT S f b) 60))) := by rw [plN, plS, if_neg b1]
      refine g_aload_n (n := 64) dX8_place_63 rfl rfl ?_
      refine g_iload_n (n := 65) dX8_place_64 rfl rfl ?_
      refine g_iload (n := 67) dX8_place_65 rfl rfl ?_
      refine g_callW (n := 70) cv_X8_218 (t_X8_standsWithAt l fell T hT ra lo pr rb lb pb kc S V hV dn fb U un ub a ha hS f b hf hbn) dX8_place_67 rfl ⟨by decide, by decide, rfl, rfl, hz.1, hz.2⟩ rfl rfl rfl (Nat.le_of_ble_eq_true rfl) rfl (fun r cw67 hq67 => ?_)
      obtain ⟨rfl, fell2, T2, ra2, lo2, pr2, rb2, lb2, pb2, hT2, rfl⟩ := hq67
      refine ⟨rfl, ?_⟩
      refine g_stN (st' := .int _ :: []) rfl ?_
      refine g_wN (w' := [_, _, _, _, _, _, _, _, _, _, _, _, _, _, _, _, _, _, _, _, _, _, _, _, _, _, _, _, _, _, _, _]) rfl ?_
      exact J70 _ _ _ (by assumption) _ _ _ _ _ _ _ e9
    ·
      have b1 : hb (sfa S) (nI b) = true := bI_n0.mp c56
      have e9 : plN V S f (b + 1) = (if nI 0 ≤ (plN V S f b).2 then (plN V S f b) else (nI b, nI 0)) := by rw [plN, plS, if_pos b1, if_pos (show nI 0 ≤ (plN V S f b).2 by rw [hm2]; exact nI_le (Nat.zero_le _) (by omega))]
      refine g_iconst (v := nI 0) (n := 60) dX8_place_59 (by decide) rfl ?_
      refine g_goto (tgt := 70) dX8_place_60 (by decide) ?_
      exact J70 _ _ _ (by assumption) _ _ _ _ _ _ _ e9
set_option maxRecDepth 20000 in
theorem t_X8_place_ok (l : Launch) (fell : Int32) (T : ST) (hT : okZ T) (ra lo pr rb lb pb : Nat → Int32) (kc : Int32) (S : ST) (V : WT) (hV : okV V) (dn : Int32) (fb : Nat → Int32) (U : WT) (un : Int32) (ub : Nat → Int32) (a : Nat) (ha : a + 100 < 2 ^ 31) (hS : okS V S a) (f : Nat) (hf : f < vnf V) (h : hb (sup S) (nI f) = false) : Con l M_X8_place [.ref 0, .int (nI f)] (xa fell T ra lo pr rb lb pb kc S V dn fb U un ub) (fun r u => r = some (.int (plN V S f (vnb V)).1) ∧ ∃ fell T ra lo pr rb lb pb, okZ T ∧ u = xa fell T ra lo pr rb lb pb kc S V dn fb U un ub) := by
  have hV1 := hV.1
  have hV2 := hV.2.1
  have hV3 := hV.2.2
  refine con_of rfl rfl (Nat.le_of_ble_eq_true rfl) ?_
  refine g_lsN (ls' := [_, _, _, _, _, _]) rfl ?_
  refine g_aload_n (n := 1) dX8_place_0 rfl rfl ?_
  refine g_get (n := 4) fl_X8_65 dX8_place_1 rfl rfl rfl ?_
  refine g_iload_n (n := 5) dX8_place_4 rfl rfl ?_
  refine g_cutVi (ps := [14, 15, 16, 17, 18, 19, 20]) (w' := [_, _, _, _, _, _, _, _, _, _, _, _, _, _, _, _, _, _, _, _, _, _, _, _, _, _, _, _, _, _, _, _]) (n := 8) cv_X8_116 (t_X7_hasButtress l V hV dn _) dX8_place_5 rfl rfl rfl ⟨by decide, by decide, rfl, rfl, Nat.zero_le _, Nat.zero_le _⟩ rfl rfl rfl (Nat.le_of_ble_eq_true rfl) rfl rfl rfl ?_
  refine g_if_ne (tgt := 13) (n := 11) dX8_place_8 (by decide) rfl (fun c8 => ?_) (fun c8 => absurd c8 (bI_n0.mpr (show isB (vnf V) (nI f) = true by rw [isB_nI (by omega) (by omega)]; exact decide_eq_true hf)))
  refine g_aload_n (n := 14) dX8_place_13 rfl rfl ?_
  refine g_get (n := 17) fl_X8_47 dX8_place_14 rfl rfl rfl ?_
  refine g_iload_n (n := 18) dX8_place_17 rfl rfl ?_
  refine g_cutVi (ps := [10, 11, 12, 13]) (w' := [_, _, _, _, _, _, _, _, _, _, _, _, _, _, _, _, _, _, _, _, _, _, _, _, _, _, _, _, _, _, _, _]) (n := 21) cv_X8_134 (t_X3_isUp l _ _) dX8_place_18 rfl rfl rfl ⟨by decide, by decide, rfl, rfl, Nat.zero_le _, Nat.zero_le _⟩ rfl rfl rfl (Nat.le_of_ble_eq_true rfl) rfl rfl rfl ?_
  refine g_if_eq (tgt := 27) (n := 24) dX8_place_21 (by decide) rfl (fun c21 => ?_) (fun c21 => absurd (bI_0.mpr h) c21)
  refine g_bipush (v := (-4)) (n := 29) dX8_place_27 (by decide) rfl ?_
  refine g_istore_n (n := 30) dX8_place_29 (by decide) rfl rfl ?_
  refine g_lsN (ls' := [_, _, _, _, _, _]) rfl ?_
  refine g_iconst (v := nI 0) (n := 31) dX8_place_30 (by decide) rfl ?_
  refine g_istore_n (n := 32) dX8_place_31 (by decide) rfl rfl ?_
  refine g_lsN (ls' := [_, _, _, _, _, _]) rfl ?_
  refine g_iconst (v := nI 0) (n := 33) dX8_place_32 (by decide) rfl ?_
  refine g_istore (n := 35) dX8_place_33 (by decide) rfl rfl ?_
  refine g_lsN (ls' := [_, _, _, _, _, _]) rfl ?_
  exact lp_X8_place l _ ⟨Nat.zero_le _, Nat.zero_le _⟩ _ kc S V hV dn fb U un ub a ha hS f hf (fun fell T ra lo pr rb lb pb hT => ⟨rfl, fell, T, ra, lo, pr, rb, lb, pb, hT, rfl⟩) 0 (Nat.zero_le _) fell T hT ra lo pr rb lb pb _

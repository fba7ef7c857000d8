/-! 38.cask: the class's bay, buttress, carts, count -/
theorem hb_hdN (V : WT) (S : ST) {j : Nat} (hj : j < 32) : ∀ k, k ≤ 32 → hb (hdN V S k) (nI j) = (decide (j < k) && isH V S j)
  | 0, _ => by rw [hdN, hb_0 hj, decide_eq_false (Nat.not_lt_zero _)]; rfl
  | k + 1, hk => by
    rw [hdN, hb_or _ _ hj, hb_hdN V S hj k (by omega)]
    by_cases e : k = j
    · subst e
      rw [decide_eq_false (Nat.lt_irrefl _), decide_eq_true (Nat.lt_succ_self _), Bool.false_and, Bool.false_or, Bool.true_and]
      cases isH V S k with
      | true => rw [if_pos rfl, hb_shb (by omega) hj, decide_eq_true rfl]
      | false => rw [if_neg Bool.false_ne_true, hb_0 hj]
    · rw [show decide (j < k + 1) = decide (j < k) from decide_eq_decide.mpr (by omega)]
      split
      · rw [hb_shb (by omega) hj, decide_eq_false e, Bool.or_false]
      · rw [hb_0 hj, Bool.or_false]
theorem okN_hdN {V : WT} (hV : okV V) (S : ST) : okN (hdN V S (vnb V)) := okN_of (fun j h8 hj => by
  have h1 := hV.1
  rw [hb_hdN V S hj _ (by omega), decide_eq_false (by omega)]; rfl)
theorem mix_lt {a b : Nat → Int32} {k j : Nat} (h : j < k) : mix a b k j = a j := by unfold mix; rw [if_pos h]

set_option maxRecDepth 20000 in
theorem t_X8_standingBay_2 (l : Launch) (fell : Int32) (T : ST) (hT : okZ T) (ra lo pr rb lb pb : Nat → Int32) (kc : Int32) (S : ST) (V : WT) (hV : okV V) (dn : Int32) (fb : Nat → Int32) (U : WT) (un : Int32) (ub : Nat → Int32) (a : Nat) (ha : a + 100 < 2 ^ 31) (hS : okS V S a) (b : Nat) (hb_ : b < vnb V) : Con l M_X8_standingBay [.ref 0, .int (nI b), .int (nI 2)] (xa fell T ra lo pr rb lb pb kc S V dn fb U un ub) (fun r u => r = some (.int (ldF V S b)) ∧ ∃ fell T ra lo pr rb lb pb, okZ T ∧ u = xa fell T ra lo pr rb lb pb kc S V dn fb U un ub) := by
  have hV1 := hV.1
  have hV2 := hV.2.1
  have hV3 := hV.2.2
  refine con_of rfl rfl (Nat.le_of_ble_eq_true rfl) ?_
  refine g_lsN (ls' := [_, _, _, _]) rfl ?_
  refine g_aload_n (n := 1) dX8_standingBay_0 rfl rfl ?_
  refine g_get (n := 4) fl_X8_26 dX8_standingBay_1 rfl rfl rfl ?_
  refine g_aload_n (n := 5) dX8_standingBay_4 rfl rfl ?_
  refine g_get (n := 8) fl_X8_65 dX8_standingBay_5 rfl rfl rfl ?_
  refine g_aload_n (n := 9) dX8_standingBay_8 rfl rfl ?_
  refine g_get (n := 12) fl_X8_47 dX8_standingBay_9 rfl rfl rfl ?_
  refine g_cutVi (ps := [21, 22, 23, 24, 14, 15, 16, 17, 18, 19, 20, 10, 11, 12, 13]) (w' := [_, _, _, _, _, _, _, _, _, _, _, _, _, _, _, _, _, _, _, _, _, _, _, _, _, _, _, _, _, _, _, _]) (n := 15) cv_X8_279 (t_X0_heldBays l _ _ _ V hV dn fb S hS.2.1) dX8_standingBay_12 rfl rfl rfl ⟨by decide, by decide, rfl, rfl, Nat.zero_le _, Nat.zero_le _⟩ rfl rfl rfl (Nat.le_of_ble_eq_true rfl) rfl rfl rfl ?_
  refine g_istore_n (n := 16) dX8_standingBay_15 (by decide) rfl rfl ?_
  refine g_lsN (ls' := [_, _, _, _]) rfl ?_
  refine g_iload_n (n := 17) dX8_standingBay_16 rfl rfl ?_
  refine g_tableIn (tgt := 44) dX8_standingBay_17 (by decide) (by decide) rfl (by decide) ?_
  refine g_aload_n (n := 45) dX8_standingBay_44 rfl rfl ?_
  refine g_get (n := 48) fl_X8_26 dX8_standingBay_45 rfl rfl rfl ?_
  refine g_get (n := 51) fl_X8_285 dX8_standingBay_48 rfl rfl rfl ?_
  refine g_iload_n (n := 52) dX8_standingBay_51 rfl rfl ?_
  refine g_ialdN (n := 53) dX8_standingBay_52 rfl rfl (by decide) (by omega) ?_
  exact g_iret (ty := .int) dX8_standingBay_53 rfl rfl ⟨Nat.zero_le _, Nat.zero_le _⟩ ⟨by rw [mix_lt hb_], _, _, _, _, _, _, _, _, hT, rfl⟩
set_option maxRecDepth 20000 in
theorem t_X8_standingBay_3 (l : Launch) (fell : Int32) (T : ST) (hT : okZ T) (ra lo pr rb lb pb : Nat → Int32) (kc : Int32) (S : ST) (V : WT) (hV : okV V) (dn : Int32) (fb : Nat → Int32) (U : WT) (un : Int32) (ub : Nat → Int32) (a : Nat) (ha : a + 100 < 2 ^ 31) (hS : okS V S a) (b : Nat) (hb_ : b < vnb V) : Con l M_X8_standingBay [.ref 0, .int (nI b), .int (nI 3)] (xa fell T ra lo pr rb lb pb kc S V dn fb U un ub) (fun r u => r = some (.int (prF V S b)) ∧ ∃ fell T ra lo pr rb lb pb, okZ T ∧ u = xa fell T ra lo pr rb lb pb kc S V dn fb U un ub) := by
  have hV1 := hV.1
  have hV2 := hV.2.1
  have hV3 := hV.2.2
  refine con_of rfl rfl (Nat.le_of_ble_eq_true rfl) ?_
  refine g_lsN (ls' := [_, _, _, _]) rfl ?_
  refine g_aload_n (n := 1) dX8_standingBay_0 rfl rfl ?_
  refine g_get (n := 4) fl_X8_26 dX8_standingBay_1 rfl rfl rfl ?_
  refine g_aload_n (n := 5) dX8_standingBay_4 rfl rfl ?_
  refine g_get (n := 8) fl_X8_65 dX8_standingBay_5 rfl rfl rfl ?_
  refine g_aload_n (n := 9) dX8_standingBay_8 rfl rfl ?_
  refine g_get (n := 12) fl_X8_47 dX8_standingBay_9 rfl rfl rfl ?_
  refine g_cutVi (ps := [21, 22, 23, 24, 14, 15, 16, 17, 18, 19, 20, 10, 11, 12, 13]) (w' := [_, _, _, _, _, _, _, _, _, _, _, _, _, _, _, _, _, _, _, _, _, _, _, _, _, _, _, _, _, _, _, _]) (n := 15) cv_X8_279 (t_X0_heldBays l _ _ _ V hV dn fb S hS.2.1) dX8_standingBay_12 rfl rfl rfl ⟨by decide, by decide, rfl, rfl, Nat.zero_le _, Nat.zero_le _⟩ rfl rfl rfl (Nat.le_of_ble_eq_true rfl) rfl rfl rfl ?_
  refine g_istore_n (n := 16) dX8_standingBay_15 (by decide) rfl rfl ?_
  refine g_lsN (ls' := [_, _, _, _]) rfl ?_
  refine g_iload_n (n := 17) dX8_standingBay_16 rfl rfl ?_
  refine g_tableIn (tgt := 54) dX8_standingBay_17 (by decide) (by decide) rfl (by decide) ?_
  refine g_aload_n (n := 55) dX8_standingBay_54 rfl rfl ?_
  refine g_get (n := 58) fl_X8_26 dX8_standingBay_55 rfl rfl rfl ?_
  refine g_get (n := 61) fl_X8_288 dX8_standingBay_58 rfl rfl rfl ?_
  refine g_iload_n (n := 62) dX8_standingBay_61 rfl rfl ?_
  refine g_ialdN (n := 63) dX8_standingBay_62 rfl rfl (by decide) (by omega) ?_
  exact g_iret (ty := .int) dX8_standingBay_63 rfl rfl ⟨Nat.zero_le _, Nat.zero_le _⟩ ⟨by rw [mix_lt hb_], _, _, _, _, _, _, _, _, hT, rfl⟩
set_option maxRecDepth 20000 in
theorem t_X8_standingBay_4 (l : Launch) (fell : Int32) (T : ST) (hT : okZ T) (ra lo pr rb lb pb : Nat → Int32) (kc : Int32) (S : ST) (V : WT) (hV : okV V) (dn : Int32) (fb : Nat → Int32) (U : WT) (un : Int32) (ub : Nat → Int32) (a : Nat) (ha : a + 100 < 2 ^ 31) (hS : okS V S a) (b : Nat) (hb_ : b < vnb V) : Con l M_X8_standingBay [.ref 0, .int (nI b), .int (nI 4)] (xa fell T ra lo pr rb lb pb kc S V dn fb U un ub) (fun r u => r = some (.int (bI (isH V S b))) ∧ ∃ fell T ra lo pr rb lb pb, okZ T ∧ u = xa fell T ra lo pr rb lb pb kc S V dn fb U un ub) := by
  have hV1 := hV.1
  have hV2 := hV.2.1
  have hV3 := hV.2.2
  refine con_of rfl rfl (Nat.le_of_ble_eq_true rfl) ?_
  refine g_lsN (ls' := [_, _, _, _]) rfl ?_
  refine g_aload_n (n := 1) dX8_standingBay_0 rfl rfl ?_
  refine g_get (n := 4) fl_X8_26 dX8_standingBay_1 rfl rfl rfl ?_
  refine g_aload_n (n := 5) dX8_standingBay_4 rfl rfl ?_
  refine g_get (n := 8) fl_X8_65 dX8_standingBay_5 rfl rfl rfl ?_
  refine g_aload_n (n := 9) dX8_standingBay_8 rfl rfl ?_
  refine g_get (n := 12) fl_X8_47 dX8_standingBay_9 rfl rfl rfl ?_
  refine g_cutVi (ps := [21, 22, 23, 24, 14, 15, 16, 17, 18, 19, 20, 10, 11, 12, 13]) (w' := [_, _, _, _, _, _, _, _, _, _, _, _, _, _, _, _, _, _, _, _, _, _, _, _, _, _, _, _, _, _, _, _]) (n := 15) cv_X8_279 (t_X0_heldBays l _ _ _ V hV dn fb S hS.2.1) dX8_standingBay_12 rfl rfl rfl ⟨by decide, by decide, rfl, rfl, Nat.zero_le _, Nat.zero_le _⟩ rfl rfl rfl (Nat.le_of_ble_eq_true rfl) rfl rfl rfl ?_
  refine g_istore_n (n := 16) dX8_standingBay_15 (by decide) rfl rfl ?_
  refine g_lsN (ls' := [_, _, _, _]) rfl ?_
  refine g_iload_n (n := 17) dX8_standingBay_16 rfl rfl ?_
  refine g_tableIn (tgt := 64) dX8_standingBay_17 (by decide) (by decide) rfl (by decide) ?_
  refine g_iload_n (n := 65) dX8_standingBay_64 rfl rfl ?_
  refine g_iload_n (n := 66) dX8_standingBay_65 rfl rfl ?_
  refine g_callSi (n := 69) cs_X8_291 (t_X8_hasBit l _ _) dX8_standingBay_66 rfl rfl ⟨by decide, by decide, rfl, rfl, Nat.zero_le _, Nat.zero_le _⟩ rfl (Nat.le_of_ble_eq_true rfl) rfl ?_
  refine g_if_eq (tgt := 76) (n := 72) dX8_standingBay_69 (by decide) rfl (fun c69 => ?_) (fun c69 => ?_)
  ·
    have hF : isH V S b = false := by have := bI_0.mp c69; rw [hb_hdN V S (by omega) _ (by omega), decide_eq_true hb_, Bool.true_and] at this; exact this
    refine g_iconst (v := nI 0) (n := 77) dX8_standingBay_76 (by decide) rfl ?_
    exact g_iret (ty := .int) dX8_standingBay_77 rfl rfl ⟨Nat.zero_le _, Nat.zero_le _⟩ ⟨by first | exact okT hT9 | exact okF hF, _, _, _, _, _, _, _, _, hT, rfl⟩
  ·
    have hT9 : isH V S b = true := by have := bI_n0.mp c69; rw [hb_hdN V S (by omega) _ (by omega), decide_eq_true hb_, Bool.true_and] at this; exact this
    refine g_iconst (v := nI 1) (n := 73) dX8_standingBay_72 (by decide) rfl ?_
    refine g_goto (tgt := 77) dX8_standingBay_73 (by decide) ?_
    exact g_iret (ty := .int) dX8_standingBay_77 rfl rfl ⟨Nat.zero_le _, Nat.zero_le _⟩ ⟨by first | exact okT hT9 | exact okF hF, _, _, _, _, _, _, _, _, hT, rfl⟩
set_option maxRecDepth 20000 in
theorem t_X8_standingBay_5 (l : Launch) (fell : Int32) (T : ST) (hT : okZ T) (ra lo pr rb lb pb : Nat → Int32) (kc : Int32) (S : ST) (V : WT) (hV : okV V) (dn : Int32) (fb : Nat → Int32) (U : WT) (un : Int32) (ub : Nat → Int32) (a : Nat) (ha : a + 100 < 2 ^ 31) (hS : okS V S a) (b : Nat) (hb_ : b < vnb V) : Con l M_X8_standingBay [.ref 0, .int (nI b), .int (nI 5)] (xa fell T ra lo pr rb lb pb kc S V dn fb U un ub) (fun r u => r = some (.int (sun S b)) ∧ ∃ fell T ra lo pr rb lb pb, okZ T ∧ u = xa fell T ra lo pr rb lb pb kc S V dn fb U un ub) := by
  have hV1 := hV.1
  have hV2 := hV.2.1
  have hV3 := hV.2.2
  refine con_of rfl rfl (Nat.le_of_ble_eq_true rfl) ?_
  refine g_lsN (ls' := [_, _, _, _]) rfl ?_
  refine g_aload_n (n := 1) dX8_standingBay_0 rfl rfl ?_
  refine g_get (n := 4) fl_X8_26 dX8_standingBay_1 rfl rfl rfl ?_
  refine g_aload_n (n := 5) dX8_standingBay_4 rfl rfl ?_
  refine g_get (n := 8) fl_X8_65 dX8_standingBay_5 rfl rfl rfl ?_
  refine g_aload_n (n := 9) dX8_standingBay_8 rfl rfl ?_
  refine g_get (n := 12) fl_X8_47 dX8_standingBay_9 rfl rfl rfl ?_
  refine g_cutVi (ps := [21, 22, 23, 24, 14, 15, 16, 17, 18, 19, 20, 10, 11, 12, 13]) (w' := [_, _, _, _, _, _, _, _, _, _, _, _, _, _, _, _, _, _, _, _, _, _, _, _, _, _, _, _, _, _, _, _]) (n := 15) cv_X8_279 (t_X0_heldBays l _ _ _ V hV dn fb S hS.2.1) dX8_standingBay_12 rfl rfl rfl ⟨by decide, by decide, rfl, rfl, Nat.zero_le _, Nat.zero_le _⟩ rfl rfl rfl (Nat.le_of_ble_eq_true rfl) rfl rfl rfl ?_
  refine g_istore_n (n := 16) dX8_standingBay_15 (by decide) rfl rfl ?_
  refine g_lsN (ls' := [_, _, _, _]) rfl ?_
  refine g_iload_n (n := 17) dX8_standingBay_16 rfl rfl ?_
  refine g_tableOut (tgt := 78) dX8_standingBay_17 (by decide) (by decide) ?_
  refine g_aload_n (n := 79) dX8_standingBay_78 rfl rfl ?_
  refine g_get (n := 82) fl_X8_47 dX8_standingBay_79 rfl rfl rfl ?_
  refine g_get (n := 85) fl_X8_294 dX8_standingBay_82 rfl rfl rfl ?_
  refine g_iload_n (n := 86) dX8_standingBay_85 rfl rfl ?_
  refine g_ialdN (n := 87) dX8_standingBay_86 rfl rfl (by decide) (by omega) ?_
  exact g_iret (ty := .int) dX8_standingBay_87 rfl rfl ⟨Nat.zero_le _, Nat.zero_le _⟩ ⟨rfl, _, _, _, _, _, _, _, _, hT, rfl⟩
set_option maxRecDepth 20000 in
theorem t_X8_bay_bad1 (l : Launch) (fell : Int32) (T : ST) (hT : okZ T) (ra lo pr rb lb pb : Nat → Int32) (kc : Int32) (S : ST) (V : WT) (hV : okV V) (dn : Int32) (fb : Nat → Int32) (U : WT) (un : Int32) (ub : Nat → Int32) (a : Nat) (ha : a + 100 < 2 ^ 31) (hS : okS V S a) (x y : Int32) (h : isB (vnb V) x = false) : Con l M_X8_bay [.ref 0, .int x, .int y] (xa fell T ra lo pr rb lb pb kc S V dn fb U un ub) (fun r u => r = some (.int (-1)) ∧ ∃ fell T ra lo pr rb lb pb, okZ T ∧ u = xa fell T ra lo pr rb lb pb kc S V dn fb U un ub) := by
  refine con_of rfl rfl (Nat.le_of_ble_eq_true rfl) ?_
  refine g_lsN (ls' := [_, _, _, _]) rfl ?_
  refine g_aload_n (n := 1) dX8_bay_0 rfl rfl ?_
  refine g_get (n := 4) fl_X8_65 dX8_bay_1 rfl rfl rfl ?_
  refine g_iload_n (n := 5) dX8_bay_4 rfl rfl ?_
  refine g_cutVi (ps := [14, 15, 16, 17, 18, 19, 20]) (w' := [_, _, _, _, _, _, _, _, _, _, _, _, _, _, _, _, _, _, _, _, _, _, _, _, _, _, _, _, _, _, _, _]) (n := 8) cv_X8_98 (t_X7_hasBay l V hV dn _) dX8_bay_5 rfl rfl rfl ⟨by decide, by decide, rfl, rfl, Nat.zero_le _, Nat.zero_le _⟩ rfl rfl rfl (Nat.le_of_ble_eq_true rfl) rfl rfl rfl ?_
  refine g_if_eq (tgt := 21) (n := 11) dX8_bay_8 (by decide) rfl (fun c8 => ?_) (fun c8 => absurd (bI_0.mpr h) c8)
  refine g_iconst (v := (-1)) (n := 22) dX8_bay_21 (by decide) rfl ?_
  exact g_iret (ty := .int) dX8_bay_22 rfl rfl ⟨Nat.zero_le _, Nat.zero_le _⟩ ⟨rfl, _, _, _, _, _, _, _, _, hT, rfl⟩
set_option maxRecDepth 20000 in
theorem t_X8_bay_bad2 (l : Launch) (fell : Int32) (T : ST) (hT : okZ T) (ra lo pr rb lb pb : Nat → Int32) (kc : Int32) (S : ST) (V : WT) (hV : okV V) (dn : Int32) (fb : Nat → Int32) (U : WT) (un : Int32) (ub : Nat → Int32) (a : Nat) (ha : a + 100 < 2 ^ 31) (hS : okS V S a) (x y : Int32) (h : isB (vnb V) x = true) (h2 : inB y (nI 0) (nI 6) = false) : Con l M_X8_bay [.ref 0, .int x, .int y] (xa fell T ra lo pr rb lb pb kc S V dn fb U un ub) (fun r u => r = some (.int (-1)) ∧ ∃ fell T ra lo pr rb lb pb, okZ T ∧ u = xa fell T ra lo pr rb lb pb kc S V dn fb U un ub) := by
  refine con_of rfl rfl (Nat.le_of_ble_eq_true rfl) ?_
  refine g_lsN (ls' := [_, _, _, _]) rfl ?_
  refine g_aload_n (n := 1) dX8_bay_0 rfl rfl ?_
  refine g_get (n := 4) fl_X8_65 dX8_bay_1 rfl rfl rfl ?_
  refine g_iload_n (n := 5) dX8_bay_4 rfl rfl ?_
  refine g_cutVi (ps := [14, 15, 16, 17, 18, 19, 20]) (w' := [_, _, _, _, _, _, _, _, _, _, _, _, _, _, _, _, _, _, _, _, _, _, _, _, _, _, _, _, _, _, _, _]) (n := 8) cv_X8_98 (t_X7_hasBay l V hV dn _) dX8_bay_5 rfl rfl rfl ⟨by decide, by decide, rfl, rfl, Nat.zero_le _, Nat.zero_le _⟩ rfl rfl rfl (Nat.le_of_ble_eq_true rfl) rfl rfl rfl ?_
  refine g_if_eq (tgt := 21) (n := 11) dX8_bay_8 (by decide) rfl (fun c8 => absurd c8 (bI_n0.mpr h)) (fun c8 => ?_)
  refine g_iload_n (n := 12) dX8_bay_11 rfl rfl ?_
  refine g_if_lt (tgt := 21) (n := 15) dX8_bay_12 (by decide) rfl (fun c12 => ?_) (fun c12 => ?_)
  ·
    refine g_iconst (v := (-1)) (n := 22) dX8_bay_21 (by decide) rfl ?_
    exact g_iret (ty := .int) dX8_bay_22 rfl rfl ⟨Nat.zero_le _, Nat.zero_le _⟩ ⟨rfl, _, _, _, _, _, _, _, _, hT, rfl⟩
  ·
    refine g_iload_n (n := 16) dX8_bay_15 rfl rfl ?_
    refine g_bipush (v := nI 6) (n := 18) dX8_bay_16 (by decide) rfl ?_
    refine g_icmp_le (tgt := 23) (n := 21) dX8_bay_18 (by decide) rfl (fun c18 => ?_) (fun c18 => ?_)
    ·
      exact inB_x h2 c12 c18
    ·
      refine g_iconst (v := (-1)) (n := 22) dX8_bay_21 (by decide) rfl ?_
      exact g_iret (ty := .int) dX8_bay_22 rfl rfl ⟨Nat.zero_le _, Nat.zero_le _⟩ ⟨rfl, _, _, _, _, _, _, _, _, hT, rfl⟩
set_option maxRecDepth 20000 in
theorem t_X8_bay_0 (l : Launch) (fell : Int32) (T : ST) (hT : okZ T) (ra lo pr rb lb pb : Nat → Int32) (kc : Int32) (S : ST) (V : WT) (hV : okV V) (dn : Int32) (fb : Nat → Int32) (U : WT) (un : Int32) (ub : Nat → Int32) (a : Nat) (ha : a + 100 < 2 ^ 31) (hS : okS V S a) (b : Nat) (hb_ : b < vnb V) : Con l M_X8_bay [.ref 0, .int (nI b), .int (nI 0)] (xa fell T ra lo pr rb lb pb kc S V dn fb U un ub) (fun r u => r = some (.int (byA V S b (nI 0))) ∧ ∃ fell T ra lo pr rb lb pb, okZ T ∧ u = xa fell T ra lo pr rb lb pb kc S V dn fb U un ub) := by
  have hV1 := hV.1
  have hV2 := hV.2.1
  have hV3 := hV.2.2
  refine con_of rfl rfl (Nat.le_of_ble_eq_true rfl) ?_
  refine g_lsN (ls' := [_, _, _, _]) rfl ?_
  refine g_aload_n (n := 1) dX8_bay_0 rfl rfl ?_
  refine g_get (n := 4) fl_X8_65 dX8_bay_1 rfl rfl rfl ?_
  refine g_iload_n (n := 5) dX8_bay_4 rfl rfl ?_
  refine g_cutVi (ps := [14, 15, 16, 17, 18, 19, 20]) (w' := [_, _, _, _, _, _, _, _, _, _, _, _, _, _, _, _, _, _, _, _, _, _, _, _, _, _, _, _, _, _, _, _]) (n := 8) cv_X8_98 (t_X7_hasBay l V hV dn _) dX8_bay_5 rfl rfl rfl ⟨by decide, by decide, rfl, rfl, Nat.zero_le _, Nat.zero_le _⟩ rfl rfl rfl (Nat.le_of_ble_eq_true rfl) rfl rfl rfl ?_
  refine g_if_eq (tgt := 21) (n := 11) dX8_bay_8 (by decide) rfl (fun c8 => absurd c8 (bI_n0.mpr (show isB (vnb V) (nI b) = true by rw [isB_nI (by omega) (by omega)]; exact decide_eq_true hb_))) (fun c8 => ?_)
  refine g_iload_n (n := 12) dX8_bay_11 rfl rfl ?_
  refine g_if_lt (tgt := 21) (n := 15) dX8_bay_12 (by decide) rfl (fun c12 => absurd c12 (by decide)) (fun c12 => ?_)
  refine g_iload_n (n := 16) dX8_bay_15 rfl rfl ?_
  refine g_bipush (v := nI 6) (n := 18) dX8_bay_16 (by decide) rfl ?_
  refine g_icmp_le (tgt := 23) (n := 21) dX8_bay_18 (by decide) rfl (fun c18 => ?_) (fun c18 => absurd (by decide) c18)
  refine g_aload_n (n := 24) dX8_bay_23 rfl rfl ?_
  refine g_get (n := 27) fl_X8_47 dX8_bay_24 rfl rfl rfl ?_
  refine g_iload_n (n := 28) dX8_bay_27 rfl rfl ?_
  refine g_cutVi (ps := [10, 11, 12, 13]) (w' := [_, _, _, _, _, _, _, _, _, _, _, _, _, _, _, _, _, _, _, _, _, _, _, _, _, _, _, _, _, _, _, _]) (n := 31) cv_X8_102 (t_X3_hasFallen l _ _) dX8_bay_28 rfl rfl rfl ⟨by decide, by decide, rfl, rfl, Nat.zero_le _, Nat.zero_le _⟩ rfl rfl rfl (Nat.le_of_ble_eq_true rfl) rfl rfl rfl ?_
  refine g_istore_n (n := 32) dX8_bay_31 (by decide) rfl rfl ?_
  refine g_lsN (ls' := [_, _, _, _]) rfl ?_
  refine g_iload_n (n := 33) dX8_bay_32 rfl rfl ?_
  refine g_lookup (tgt := 68) dX8_bay_33 (by decide) rfl (by decide) ?_
  refine g_aload_n (n := 69) dX8_bay_68 rfl rfl ?_
  refine g_get (n := 72) fl_X8_65 dX8_bay_69 rfl rfl rfl ?_
  refine g_get (n := 75) fl_X8_105 dX8_bay_72 rfl rfl rfl ?_
  refine g_iload_n (n := 76) dX8_bay_75 rfl rfl ?_
  refine g_ialdN (n := 77) dX8_bay_76 rfl rfl (by decide) (by omega) ?_
  exact g_iret (ty := .int) dX8_bay_77 rfl rfl ⟨Nat.zero_le _, Nat.zero_le _⟩ ⟨by rw [byA, show inB (nI 0) (nI 2) (nI 5) = false from rfl, Bool.and_false]; rfl, _, _, _, _, _, _, _, _, hT, rfl⟩
set_option maxRecDepth 20000 in
theorem t_X8_bay_1 (l : Launch) (fell : Int32) (T : ST) (hT : okZ T) (ra lo pr rb lb pb : Nat → Int32) (kc : Int32) (S : ST) (V : WT) (hV : okV V) (dn : Int32) (fb : Nat → Int32) (U : WT) (un : Int32) (ub : Nat → Int32) (a : Nat) (ha : a + 100 < 2 ^ 31) (hS : okS V S a) (b : Nat) (hb_ : b < vnb V) : Con l M_X8_bay [.ref 0, .int (nI b), .int (nI 1)] (xa fell T ra lo pr rb lb pb kc S V dn fb U un ub) (fun r u => r = some (.int (byA V S b (nI 1))) ∧ ∃ fell T ra lo pr rb lb pb, okZ T ∧ u = xa fell T ra lo pr rb lb pb kc S V dn fb U un ub) := by
  have hV1 := hV.1
  have hV2 := hV.2.1
  have hV3 := hV.2.2
  refine con_of rfl rfl (Nat.le_of_ble_eq_true rfl) ?_
  refine g_lsN (ls' := [_, _, _, _]) rfl ?_
  refine g_aload_n (n := 1) dX8_bay_0 rfl rfl ?_
  refine g_get (n := 4) fl_X8_65 dX8_bay_1 rfl rfl rfl ?_
  refine g_iload_n (n := 5) dX8_bay_4 rfl rfl ?_
  refine g_cutVi (ps := [14, 15, 16, 17, 18, 19, 20]) (w' := [_, _, _, _, _, _, _, _, _, _, _, _, _, _, _, _, _, _, _, _, _, _, _, _, _, _, _, _, _, _, _, _]) (n := 8) cv_X8_98 (t_X7_hasBay l V hV dn _) dX8_bay_5 rfl rfl rfl ⟨by decide, by decide, rfl, rfl, Nat.zero_le _, Nat.zero_le _⟩ rfl rfl rfl (Nat.le_of_ble_eq_true rfl) rfl rfl rfl ?_
  refine g_if_eq (tgt := 21) (n := 11) dX8_bay_8 (by decide) rfl (fun c8 => absurd c8 (bI_n0.mpr (show isB (vnb V) (nI b) = true by rw [isB_nI (by omega) (by omega)]; exact decide_eq_true hb_))) (fun c8 => ?_)
  refine g_iload_n (n := 12) dX8_bay_11 rfl rfl ?_
  refine g_if_lt (tgt := 21) (n := 15) dX8_bay_12 (by decide) rfl (fun c12 => absurd c12 (by decide)) (fun c12 => ?_)
  refine g_iload_n (n := 16) dX8_bay_15 rfl rfl ?_
  refine g_bipush (v := nI 6) (n := 18) dX8_bay_16 (by decide) rfl ?_
  refine g_icmp_le (tgt := 23) (n := 21) dX8_bay_18 (by decide) rfl (fun c18 => ?_) (fun c18 => absurd (by decide) c18)
  refine g_aload_n (n := 24) dX8_bay_23 rfl rfl ?_
  refine g_get (n := 27) fl_X8_47 dX8_bay_24 rfl rfl rfl ?_
  refine g_iload_n (n := 28) dX8_bay_27 rfl rfl ?_
  refine g_cutVi (ps := [10, 11, 12, 13]) (w' := [_, _, _, _, _, _, _, _, _, _, _, _, _, _, _, _, _, _, _, _, _, _, _, _, _, _, _, _, _, _, _, _]) (n := 31) cv_X8_102 (t_X3_hasFallen l _ _) dX8_bay_28 rfl rfl rfl ⟨by decide, by decide, rfl, rfl, Nat.zero_le _, Nat.zero_le _⟩ rfl rfl rfl (Nat.le_of_ble_eq_true rfl) rfl rfl rfl ?_
  refine g_istore_n (n := 32) dX8_bay_31 (by decide) rfl rfl ?_
  refine g_lsN (ls' := [_, _, _, _]) rfl ?_
  refine g_iload_n (n := 33) dX8_bay_32 rfl rfl ?_
  refine g_lookup (tgt := 78) dX8_bay_33 (by decide) rfl (by decide) ?_
  refine g_aload_n (n := 79) dX8_bay_78 rfl rfl ?_
  refine g_get (n := 82) fl_X8_65 dX8_bay_79 rfl rfl rfl ?_
  refine g_get (n := 85) fl_X8_109 dX8_bay_82 rfl rfl rfl ?_
  refine g_iload_n (n := 86) dX8_bay_85 rfl rfl ?_
  refine g_ialdN (n := 87) dX8_bay_86 rfl rfl (by decide) (by omega) ?_
  exact g_iret (ty := .int) dX8_bay_87 rfl rfl ⟨Nat.zero_le _, Nat.zero_le _⟩ ⟨by rw [byA, show inB (nI 1) (nI 2) (nI 5) = false from rfl, Bool.and_false]; rfl, _, _, _, _, _, _, _, _, hT, rfl⟩
set_option maxRecDepth 20000 in
theorem t_X8_bay_2 (l : Launch) (fell : Int32) (T : ST) (hT : okZ T) (ra lo pr rb lb pb : Nat → Int32) (kc : Int32) (S : ST) (V : WT) (hV : okV V) (dn : Int32) (fb : Nat → Int32) (U : WT) (un : Int32) (ub : Nat → Int32) (a : Nat) (ha : a + 100 < 2 ^ 31) (hS : okS V S a) (b : Nat) (hb_ : b < vnb V) : Con l M_X8_bay [.ref 0, .int (nI b), .int (nI 2)] (xa fell T ra lo pr rb lb pb kc S V dn fb U un ub) (fun r u => r = some (.int (byA V S b (nI 2))) ∧ ∃ fell T ra lo pr rb lb pb, okZ T ∧ u = xa fell T ra lo pr rb lb pb kc S V dn fb U un ub) := by
  have hV1 := hV.1
  have hV2 := hV.2.1
  have hV3 := hV.2.2
  refine con_of rfl rfl (Nat.le_of_ble_eq_true rfl) ?_
  refine g_lsN (ls' := [_, _, _, _]) rfl ?_
  refine g_aload_n (n := 1) dX8_bay_0 rfl rfl ?_
  refine g_get (n := 4) fl_X8_65 dX8_bay_1 rfl rfl rfl ?_
  refine g_iload_n (n := 5) dX8_bay_4 rfl rfl ?_
  refine g_cutVi (ps := [14, 15, 16, 17, 18, 19, 20]) (w' := [_, _, _, _, _, _, _, _, _, _, _, _, _, _, _, _, _, _, _, _, _, _, _, _, _, _, _, _, _, _, _, _]) (n := 8) cv_X8_98 (t_X7_hasBay l V hV dn _) dX8_bay_5 rfl rfl rfl ⟨by decide, by decide, rfl, rfl, Nat.zero_le _, Nat.zero_le _⟩ rfl rfl rfl (Nat.le_of_ble_eq_true rfl) rfl rfl rfl ?_
  refine g_if_eq (tgt := 21) (n := 11) dX8_bay_8 (by decide) rfl (fun c8 => absurd c8 (bI_n0.mpr (show isB (vnb V) (nI b) = true by rw [isB_nI (by omega) (by omega)]; exact decide_eq_true hb_))) (fun c8 => ?_)
  refine g_iload_n (n := 12) dX8_bay_11 rfl rfl ?_
  refine g_if_lt (tgt := 21) (n := 15) dX8_bay_12 (by decide) rfl (fun c12 => absurd c12 (by decide)) (fun c12 => ?_)
  refine g_iload_n (n := 16) dX8_bay_15 rfl rfl ?_
  refine g_bipush (v := nI 6) (n := 18) dX8_bay_16 (by decide) rfl ?_
  refine g_icmp_le (tgt := 23) (n := 21) dX8_bay_18 (by decide) rfl (fun c18 => ?_) (fun c18 => absurd (by decide) c18)
  refine g_aload_n (n := 24) dX8_bay_23 rfl rfl ?_
  refine g_get (n := 27) fl_X8_47 dX8_bay_24 rfl rfl rfl ?_
  refine g_iload_n (n := 28) dX8_bay_27 rfl rfl ?_
  refine g_cutVi (ps := [10, 11, 12, 13]) (w' := [_, _, _, _, _, _, _, _, _, _, _, _, _, _, _, _, _, _, _, _, _, _, _, _, _, _, _, _, _, _, _, _]) (n := 31) cv_X8_102 (t_X3_hasFallen l _ _) dX8_bay_28 rfl rfl rfl ⟨by decide, by decide, rfl, rfl, Nat.zero_le _, Nat.zero_le _⟩ rfl rfl rfl (Nat.le_of_ble_eq_true rfl) rfl rfl rfl ?_
  refine g_istore_n (n := 32) dX8_bay_31 (by decide) rfl rfl ?_
  refine g_lsN (ls' := [_, _, _, _]) rfl ?_
  refine g_iload_n (n := 33) dX8_bay_32 rfl rfl ?_
  refine g_lookup (tgt := 98) dX8_bay_33 (by decide) rfl (by decide) ?_
  refine g_iload_n (n := 99) dX8_bay_98 rfl rfl ?_
  refine g_if_eq (tgt := 106) (n := 102) dX8_bay_99 (by decide) rfl (fun c99 => ?_) (fun c99 => ?_)
  ·
    have e9 : byA V S b (nI 2) = byA V S b (nI 2) := rfl
    have b1 := bI_0.mp c99
    refine g_aload_n (n := 107) dX8_bay_106 rfl rfl ?_
    refine g_iload_n (n := 108) dX8_bay_107 rfl rfl ?_
    refine g_iload_n (n := 109) dX8_bay_108 rfl rfl ?_
    refine g_callW (n := 112) cv_X8_112 (t_X8_standingBay_2 l _ _ hT _ _ _ _ _ _ kc S V hV dn fb U un ub a ha hS b hb_) dX8_bay_109 rfl ⟨by decide, by decide, rfl, rfl, Nat.zero_le _, Nat.zero_le _⟩ rfl rfl rfl (Nat.le_of_ble_eq_true rfl) rfl (fun r cw109 hq109 => ?_)
    obtain ⟨rfl, fell2, T2, ra2, lo2, pr2, rb2, lb2, pb2, hT2, rfl⟩ := hq109
    refine ⟨rfl, ?_⟩
    refine g_stN (st' := .int _ :: []) rfl ?_
    refine g_wN (w' := [_, _, _, _, _, _, _, _, _, _, _, _, _, _, _, _, _, _, _, _, _, _, _, _, _, _, _, _, _, _, _, _]) rfl ?_
    exact g_iret (ty := .int) dX8_bay_112 rfl rfl ⟨Nat.zero_le _, Nat.zero_le _⟩ ⟨by first | (rw [byA, b1]; rfl) , _, _, _, _, _, _, _, _, by first | exact hT2 | exact hT, rfl⟩
  ·
    have b1 := bI_n0.mp c99
    refine g_iconst (v := nI 0) (n := 103) dX8_bay_102 (by decide) rfl ?_
    refine g_goto (tgt := 112) dX8_bay_103 (by decide) ?_
    exact g_iret (ty := .int) dX8_bay_112 rfl rfl ⟨Nat.zero_le _, Nat.zero_le _⟩ ⟨by first | (rw [byA, b1]; rfl) , _, _, _, _, _, _, _, _, by first | exact hT2 | exact hT, rfl⟩
set_option maxRecDepth 20000 in
theorem t_X8_bay_3 (l : Launch) (fell : Int32) (T : ST) (hT : okZ T) (ra lo pr rb lb pb : Nat → Int32) (kc : Int32) (S : ST) (V : WT) (hV : okV V) (dn : Int32) (fb : Nat → Int32) (U : WT) (un : Int32) (ub : Nat → Int32) (a : Nat) (ha : a + 100 < 2 ^ 31) (hS : okS V S a) (b : Nat) (hb_ : b < vnb V) : Con l M_X8_bay [.ref 0, .int (nI b), .int (nI 3)] (xa fell T ra lo pr rb lb pb kc S V dn fb U un ub) (fun r u => r = some (.int (byA V S b (nI 3))) ∧ ∃ fell T ra lo pr rb lb pb, okZ T ∧ u = xa fell T ra lo pr rb lb pb kc S V dn fb U un ub) := by
  have hV1 := hV.1
  have hV2 := hV.2.1
  have hV3 := hV.2.2
  refine con_of rfl rfl (Nat.le_of_ble_eq_true rfl) ?_
  refine g_lsN (ls' := [_, _, _, _]) rfl ?_
  refine g_aload_n (n := 1) dX8_bay_0 rfl rfl ?_
  refine g_get (n := 4) fl_X8_65 dX8_bay_1 rfl rfl rfl ?_
  refine g_iload_n (n := 5) dX8_bay_4 rfl rfl ?_
  refine g_cutVi (ps := [14, 15, 16, 17, 18, 19, 20]) (w' := [_, _, _, _, _, _, _, _, _, _, _, _, _, _, _, _, _, _, _, _, _, _, _, _, _, _, _, _, _, _, _, _]) (n := 8) cv_X8_98 (t_X7_hasBay l V hV dn _) dX8_bay_5 rfl rfl rfl ⟨by decide, by decide, rfl, rfl, Nat.zero_le _, Nat.zero_le _⟩ rfl rfl rfl (Nat.le_of_ble_eq_true rfl) rfl rfl rfl ?_
  refine g_if_eq (tgt := 21) (n := 11) dX8_bay_8 (by decide) rfl (fun c8 => absurd c8 (bI_n0.mpr (show isB (vnb V) (nI b) = true by rw [isB_nI (by omega) (by omega)]; exact decide_eq_true hb_))) (fun c8 => ?_)
  refine g_iload_n (n := 12) dX8_bay_11 rfl rfl ?_
  refine g_if_lt (tgt := 21) (n := 15) dX8_bay_12 (by decide) rfl (fun c12 => absurd c12 (by decide)) (fun c12 => ?_)
  refine g_iload_n (n := 16) dX8_bay_15 rfl rfl ?_
  refine g_bipush (v := nI 6) (n := 18) dX8_bay_16 (by decide) rfl ?_
  refine g_icmp_le (tgt := 23) (n := 21) dX8_bay_18 (by decide) rfl (fun c18 => ?_) (fun c18 => absurd (by decide) c18)
  refine g_aload_n (n := 24) dX8_bay_23 rfl rfl ?_
  refine g_get (n := 27) fl_X8_47 dX8_bay_24 rfl rfl rfl ?_
  refine g_iload_n (n := 28) dX8_bay_27 rfl rfl ?_
  refine g_cutVi (ps := [10, 11, 12, 13]) (w' := [_, _, _, _, _, _, _, _, _, _, _, _, _, _, _, _, _, _, _, _, _, _, _, _, _, _, _, _, _, _, _, _]) (n := 31) cv_X8_102 (t_X3_hasFallen l _ _) dX8_bay_28 rfl rfl rfl ⟨by decide, by decide, rfl, rfl, Nat.zero_le _, Nat.zero_le _⟩ rfl rfl rfl (Nat.le_of_ble_eq_true rfl) rfl rfl rfl ?_
  refine g_istore_n (n := 32) dX8_bay_31 (by decide) rfl rfl ?_
  refine g_lsN (ls' := [_, _, _, _]) rfl ?_
  refine g_iload_n (n := 33) dX8_bay_32 rfl rfl ?_
  refine g_lookup (tgt := 98) dX8_bay_33 (by decide) rfl (by decide) ?_
  refine g_iload_n (n := 99) dX8_bay_98 rfl rfl ?_
  refine g_if_eq (tgt := 106) (n := 102) dX8_bay_99 (by decide) rfl (fun c99 => ?_) (fun c99 => ?_)
  ·
    have e9 : byA V S b (nI 3) = byA V S b (nI 3) := rfl
    have b1 := bI_0.mp c99
    refine g_aload_n (n := 107) dX8_bay_106 rfl rfl ?_
    refine g_iload_n (n := 108) dX8_bay_107 rfl rfl ?_
    refine g_iload_n (n := 109) dX8_bay_108 rfl rfl ?_
    refine g_callW (n := 112) cv_X8_112 (t_X8_standingBay_3 l _ _ hT _ _ _ _ _ _ kc S V hV dn fb U un ub a ha hS b hb_) dX8_bay_109 rfl ⟨by decide, by decide, rfl, rfl, Nat.zero_le _, Nat.zero_le _⟩ rfl rfl rfl (Nat.le_of_ble_eq_true rfl) rfl (fun r cw109 hq109 => ?_)
    obtain ⟨rfl, fell2, T2, ra2, lo2, pr2, rb2, lb2, pb2, hT2, rfl⟩ := hq109
    refine ⟨rfl, ?_⟩
    refine g_stN (st' := .int _ :: []) rfl ?_
    refine g_wN (w' := [_, _, _, _, _, _, _, _, _, _, _, _, _, _, _, _, _, _, _, _, _, _, _, _, _, _, _, _, _, _, _, _]) rfl ?_
    exact g_iret (ty := .int) dX8_bay_112 rfl rfl ⟨Nat.zero_le _, Nat.zero_le _⟩ ⟨by first | (rw [byA, b1]; rfl) , _, _, _, _, _, _, _, _, by first | exact hT2 | exact hT, rfl⟩
  ·
    have b1 := bI_n0.mp c99
    refine g_iconst (v := nI 0) (n := 103) dX8_bay_102 (by decide) rfl ?_
    refine g_goto (tgt := 112) dX8_bay_103 (by decide) ?_
    exact g_iret (ty := .int) dX8_bay_112 rfl rfl ⟨Nat.zero_le _, Nat.zero_le _⟩ ⟨by first | (rw [byA, b1]; rfl) , _, _, _, _, _, _, _, _, by first | exact hT2 | exact hT, rfl⟩
set_option maxRecDepth 20000 in
theorem t_X8_bay_4 (l : Launch) (fell : Int32) (T : ST) (hT : okZ T) (ra lo pr rb lb pb : Nat → Int32) (kc : Int32) (S : ST) (V : WT) (hV : okV V) (dn : Int32) (fb : Nat → Int32) (U : WT) (un : Int32) (ub : Nat → Int32) (a : Nat) (ha : a + 100 < 2 ^ 31) (hS : okS V S a) (b : Nat) (hb_ : b < vnb V) : Con l M_X8_bay [.ref 0, .int (nI b), .int (nI 4)] (xa fell T ra lo pr rb lb pb kc S V dn fb U un ub) (fun r u => r = some (.int (byA V S b (nI 4))) ∧ ∃ fell T ra lo pr rb lb pb, okZ T ∧ u = xa fell T ra lo pr rb lb pb kc S V dn fb U un ub) := by
  have hV1 := hV.1
  have hV2 := hV.2.1
  have hV3 := hV.2.2
  refine con_of rfl rfl (Nat.le_of_ble_eq_true rfl) ?_
  refine g_lsN (ls' := [_, _, _, _]) rfl ?_
  refine g_aload_n (n := 1) dX8_bay_0 rfl rfl ?_
  refine g_get (n := 4) fl_X8_65 dX8_bay_1 rfl rfl rfl ?_
  refine g_iload_n (n := 5) dX8_bay_4 rfl rfl ?_
  refine g_cutVi (ps := [14, 15, 16, 17, 18, 19, 20]) (w' := [_, _, _, _, _, _, _, _, _, _, _, _, _, _, _, _, _, _, _, _, _, _, _, _, _, _, _, _, _, _, _, _]) (n := 8) cv_X8_98 (t_X7_hasBay l V hV dn _) dX8_bay_5 rfl rfl rfl ⟨by decide, by decide, rfl, rfl, Nat.zero_le _, Nat.zero_le _⟩ rfl rfl rfl (Nat.le_of_ble_eq_true rfl) rfl rfl rfl ?_
  refine g_if_eq (tgt := 21) (n := 11) dX8_bay_8 (by decide) rfl (fun c8 => absurd c8 (bI_n0.mpr (show isB (vnb V) (nI b) = true by rw [isB_nI (by omega) (by omega)]; exact decide_eq_true hb_))) (fun c8 => ?_)
  refine g_iload_n (n := 12) dX8_bay_11 rfl rfl ?_
  refine g_if_lt (tgt := 21) (n := 15) dX8_bay_12 (by decide) rfl (fun c12 => absurd c12 (by decide)) (fun c12 => ?_)
  refine g_iload_n (n := 16) dX8_bay_15 rfl rfl ?_
  refine g_bipush (v := nI 6) (n := 18) dX8_bay_16 (by decide) rfl ?_
  refine g_icmp_le (tgt := 23) (n := 21) dX8_bay_18 (by decide) rfl (fun c18 => ?_) (fun c18 => absurd (by decide) c18)
  refine g_aload_n (n := 24) dX8_bay_23 rfl rfl ?_
  refine g_get (n := 27) fl_X8_47 dX8_bay_24 rfl rfl rfl ?_
  refine g_iload_n (n := 28) dX8_bay_27 rfl rfl ?_
  refine g_cutVi (ps := [10, 11, 12, 13]) (w' := [_, _, _, _, _, _, _, _, _, _, _, _, _, _, _, _, _, _, _, _, _, _, _, _, _, _, _, _, _, _, _, _]) (n := 31) cv_X8_102 (t_X3_hasFallen l _ _) dX8_bay_28 rfl rfl rfl ⟨by decide, by decide, rfl, rfl, Nat.zero_le _, Nat.zero_le _⟩ rfl rfl rfl (Nat.le_of_ble_eq_true rfl) rfl rfl rfl ?_
  refine g_istore_n (n := 32) dX8_bay_31 (by decide) rfl rfl ?_
  refine g_lsN (ls' := [_, _, _, _]) rfl ?_
  refine g_iload_n (n := 33) dX8_bay_32 rfl rfl ?_
  refine g_lookup (tgt := 98) dX8_bay_33 (by decide) rfl (by decide) ?_
  refine g_iload_n (n := 99) dX8_bay_98 rfl rfl ?_
  refine g_if_eq (tgt := 106) (n := 102) dX8_bay_99 (by decide) rfl (fun c99 => ?_) (fun c99 => ?_)
  ·
    have e9 : byA V S b (nI 4) = byA V S b (nI 4) := rfl
    have b1 := bI_0.mp c99
    refine g_aload_n (n := 107) dX8_bay_106 rfl rfl ?_
    refine g_iload_n (n := 108) dX8_bay_107 rfl rfl ?_
    refine g_iload_n (n := 109) dX8_bay_108 rfl rfl ?_
    refine g_callW (n := 112) cv_X8_112 (t_X8_standingBay_4 l _ _ hT _ _ _ _ _ _ kc S V hV dn fb U un ub a ha hS b hb_) dX8_bay_109 rfl ⟨by decide, by decide, rfl, rfl, Nat.zero_le _, Nat.zero_le _⟩ rfl rfl rfl (Nat.le_of_ble_eq_true rfl) rfl (fun r cw109 hq109 => ?_)
    obtain ⟨rfl, fell2, T2, ra2, lo2, pr2, rb2, lb2, pb2, hT2, rfl⟩ := hq109
    refine ⟨rfl, ?_⟩
    refine g_stN (st' := .int _ :: []) rfl ?_
    refine g_wN (w' := [_, _, _, _, _, _, _, _, _, _, _, _, _, _, _, _, _, _, _, _, _, _, _, _, _, _, _, _, _, _, _, _]) rfl ?_
    exact g_iret (ty := .int) dX8_bay_112 rfl rfl ⟨Nat.zero_le _, Nat.zero_le _⟩ ⟨by first | (rw [byA, b1]; rfl) , _, _, _, _, _, _, _, _, by first | exact hT2 | exact hT, rfl⟩
  ·
    have b1 := bI_n0.mp c99
    refine g_iconst (v := nI 0) (n := 103) dX8_bay_102 (by decide) rfl ?_
    refine g_goto (tgt := 112) dX8_bay_103 (by decide) ?_
    exact g_iret (ty := .int) dX8_bay_112 rfl rfl ⟨Nat.zero_le _, Nat.zero_le _⟩ ⟨by first | (rw [byA, b1]; rfl) , _, _, _, _, _, _, _, _, by first | exact hT2 | exact hT, rfl⟩
set_option maxRecDepth 20000 in
theorem t_X8_bay_5 (l : Launch) (fell : Int32) (T : ST) (hT : okZ T) (ra lo pr rb lb pb : Nat → Int32) (kc : Int32) (S : ST) (V : WT) (hV : okV V) (dn : Int32) (fb : Nat → Int32) (U : WT) (un : Int32) (ub : Nat → Int32) (a : Nat) (ha : a + 100 < 2 ^ 31) (hS : okS V S a) (b : Nat) (hb_ : b < vnb V) : Con l M_X8_bay [.ref 0, .int (nI b), .int (nI 5)] (xa fell T ra lo pr rb lb pb kc S V dn fb U un ub) (fun r u => r = some (.int (byA V S b (nI 5))) ∧ ∃ fell T ra lo pr rb lb pb, okZ T ∧ u = xa fell T ra lo pr rb lb pb kc S V dn fb U un ub) := by
  have hV1 := hV.1
  have hV2 := hV.2.1
  have hV3 := hV.2.2
  refine con_of rfl rfl (Nat.le_of_ble_eq_true rfl) ?_
  refine g_lsN (ls' := [_, _, _, _]) rfl ?_
  refine g_aload_n (n := 1) dX8_bay_0 rfl rfl ?_
  refine g_get (n := 4) fl_X8_65 dX8_bay_1 rfl rfl rfl ?_
  refine g_iload_n (n := 5) dX8_bay_4 rfl rfl ?_
  refine g_cutVi (ps := [14, 15, 16, 17, 18, 19, 20]) (w' := [_, _, _, _, _, _, _, _, _, _, _, _, _, _, _, _, _, _, _, _, _, _, _, _, _, _, _, _, _, _, _, _]) (n := 8) cv_X8_98 (t_X7_hasBay l V hV dn _) dX8_bay_5 rfl rfl rfl ⟨by decide, by decide, rfl, rfl, Nat.zero_le _, Nat.zero_le _⟩ rfl rfl rfl (Nat.le_of_ble_eq_true rfl) rfl rfl rfl ?_
  refine g_if_eq (tgt := 21) (n := 11) dX8_bay_8 (by decide) rfl (fun c8 => absurd c8 (bI_n0.mpr (show isB (vnb V) (nI b) = true by rw [isB_nI (by omega) (by omega)]; exact decide_eq_true hb_))) (fun c8 => ?_)
  refine g_iload_n (n := 12) dX8_bay_11 rfl rfl ?_
  refine g_if_lt (tgt := 21) (n := 15) dX8_bay_12 (by decide) rfl (fun c12 => absurd c12 (by decide)) (fun c12 => ?_)
  refine g_iload_n (n := 16) dX8_bay_15 rfl rfl ?_
  refine g_bipush (v := nI 6) (n := 18) dX8_bay_16 (by decide) rfl ?_
  refine g_icmp_le (tgt := 23) (n := 21) dX8_bay_18 (by decide) rfl (fun c18 => ?_) (fun c18 => absurd (by decide) c18)
  refine g_aload_n (n := 24) dX8_bay_23 rfl rfl ?_
  refine g_get (n := 27) fl_X8_47 dX8_bay_24 rfl rfl rfl ?_
  refine g_iload_n (n := 28) dX8_bay_27 rfl rfl ?_
  refine g_cutVi (ps := [10, 11, 12, 13]) (w' := [_, _, _, _, _, _, _, _, _, _, _, _, _, _, _, _, _, _, _, _, _, _, _, _, _, _, _, _, _, _, _, _]) (n := 31) cv_X8_102 (t_X3_hasFallen l _ _) dX8_bay_28 rfl rfl rfl ⟨by decide, by decide, rfl, rfl, Nat.zero_le _, Nat.zero_le _⟩ rfl rfl rfl (Nat.le_of_ble_eq_true rfl) rfl rfl rfl ?_
  refine g_istore_n (n := 32) dX8_bay_31 (by decide) rfl rfl ?_
  refine g_lsN (ls' := [_, _, _, _]) rfl ?_
  refine g_iload_n (n := 33) dX8_bay_32 rfl rfl ?_
  refine g_lookup (tgt := 98) dX8_bay_33 (by decide) rfl (by decide) ?_
  refine g_iload_n (n := 99) dX8_bay_98 rfl rfl ?_
  refine g_if_eq (tgt := 106) (n := 102) dX8_bay_99 (by decide) rfl (fun c99 => ?_) (fun c99 => ?_)
  ·
    have e9 : byA V S b (nI 5) = byA V S b (nI 5) := rfl
    have b1 := bI_0.mp c99
    refine g_aload_n (n := 107) dX8_bay_106 rfl rfl ?_
    refine g_iload_n (n := 108) dX8_bay_107 rfl rfl ?_
    refine g_iload_n (n := 109) dX8_bay_108 rfl rfl ?_
    refine g_callW (n := 112) cv_X8_112 (t_X8_standingBay_5 l _ _ hT _ _ _ _ _ _ kc S V hV dn fb U un ub a ha hS b hb_) dX8_bay_109 rfl ⟨by decide, by decide, rfl, rfl, Nat.zero_le _, Nat.zero_le _⟩ rfl rfl rfl (Nat.le_of_ble_eq_true rfl) rfl (fun r cw109 hq109 => ?_)
    obtain ⟨rfl, fell2, T2, ra2, lo2, pr2, rb2, lb2, pb2, hT2, rfl⟩ := hq109
    refine ⟨rfl, ?_⟩
    refine g_stN (st' := .int _ :: []) rfl ?_
    refine g_wN (w' := [_, _, _, _, _, _, _, _, _, _, _, _, _, _, _, _, _, _, _, _, _, _, _, _, _, _, _, _, _, _, _, _]) rfl ?_
    exact g_iret (ty := .int) dX8_bay_112 rfl rfl ⟨Nat.zero_le _, Nat.zero_le _⟩ ⟨by first | (rw [byA, b1]; rfl) , _, _, _, _, _, _, _, _, by first | exact hT2 | exact hT, rfl⟩
  ·
    have b1 := bI_n0.mp c99
    refine g_iconst (v := nI 0) (n := 103) dX8_bay_102 (by decide) rfl ?_
    refine g_goto (tgt := 112) dX8_bay_103 (by decide) ?_
    exact g_iret (ty := .int) dX8_bay_112 rfl rfl ⟨Nat.zero_le _, Nat.zero_le _⟩ ⟨by first | (rw [byA, b1]; rfl) , _, _, _, _, _, _, _, _, by first | exact hT2 | exact hT, rfl⟩
set_option maxRecDepth 20000 in
theorem t_X8_bay_6 (l : Launch) (fell : Int32) (T : ST) (hT : okZ T) (ra lo pr rb lb pb : Nat → Int32) (kc : Int32) (S : ST) (V : WT) (hV : okV V) (dn : Int32) (fb : Nat → Int32) (U : WT) (un : Int32) (ub : Nat → Int32) (a : Nat) (ha : a + 100 < 2 ^ 31) (hS : okS V S a) (b : Nat) (hb_ : b < vnb V) : Con l M_X8_bay [.ref 0, .int (nI b), .int (nI 6)] (xa fell T ra lo pr rb lb pb kc S V dn fb U un ub) (fun r u => r = some (.int (byA V S b (nI 6))) ∧ ∃ fell T ra lo pr rb lb pb, okZ T ∧ u = xa fell T ra lo pr rb lb pb kc S V dn fb U un ub) := by
  have hV1 := hV.1
  have hV2 := hV.2.1
  have hV3 := hV.2.2
  refine con_of rfl rfl (Nat.le_of_ble_eq_true rfl) ?_
  refine g_lsN (ls' := [_, _, _, _]) rfl ?_
  refine g_aload_n (n := 1) dX8_bay_0 rfl rfl ?_
  refine g_get (n := 4) fl_X8_65 dX8_bay_1 rfl rfl rfl ?_
  refine g_iload_n (n := 5) dX8_bay_4 rfl rfl ?_
  refine g_cutVi (ps := [14, 15, 16, 17, 18, 19, 20]) (w' := [_, _, _, _, _, _, _, _, _, _, _, _, _, _, _, _, _, _, _, _, _, _, _, _, _, _, _, _, _, _, _, _]) (n := 8) cv_X8_98 (t_X7_hasBay l V hV dn _) dX8_bay_5 rfl rfl rfl ⟨by decide, by decide, rfl, rfl, Nat.zero_le _, Nat.zero_le _⟩ rfl rfl rfl (Nat.le_of_ble_eq_true rfl) rfl rfl rfl ?_
  refine g_if_eq (tgt := 21) (n := 11) dX8_bay_8 (by decide) rfl (fun c8 => absurd c8 (bI_n0.mpr (show isB (vnb V) (nI b) = true by rw [isB_nI (by omega) (by omega)]; exact decide_eq_true hb_))) (fun c8 => ?_)
  refine g_iload_n (n := 12) dX8_bay_11 rfl rfl ?_
  refine g_if_lt (tgt := 21) (n := 15) dX8_bay_12 (by decide) rfl (fun c12 => absurd c12 (by decide)) (fun c12 => ?_)
  refine g_iload_n (n := 16) dX8_bay_15 rfl rfl ?_
  refine g_bipush (v := nI 6) (n := 18) dX8_bay_16 (by decide) rfl ?_
  refine g_icmp_le (tgt := 23) (n := 21) dX8_bay_18 (by decide) rfl (fun c18 => ?_) (fun c18 => absurd (by decide) c18)
  refine g_aload_n (n := 24) dX8_bay_23 rfl rfl ?_
  refine g_get (n := 27) fl_X8_47 dX8_bay_24 rfl rfl rfl ?_
  refine g_iload_n (n := 28) dX8_bay_27 rfl rfl ?_
  refine g_cutVi (ps := [10, 11, 12, 13]) (w' := [_, _, _, _, _, _, _, _, _, _, _, _, _, _, _, _, _, _, _, _, _, _, _, _, _, _, _, _, _, _, _, _]) (n := 31) cv_X8_102 (t_X3_hasFallen l _ _) dX8_bay_28 rfl rfl rfl ⟨by decide, by decide, rfl, rfl, Nat.zero_le _, Nat.zero_le _⟩ rfl rfl rfl (Nat.le_of_ble_eq_true rfl) rfl rfl rfl ?_
  refine g_istore_n (n := 32) dX8_bay_31 (by decide) rfl rfl ?_
  refine g_lsN (ls' := [_, _, _, _]) rfl ?_
  refine g_iload_n (n := 33) dX8_bay_32 rfl rfl ?_
  refine g_lookup (tgt := 88) dX8_bay_33 (by decide) rfl (by decide) ?_
  refine g_iload_n (n := 89) dX8_bay_88 rfl rfl ?_
  refine g_if_eq (tgt := 96) (n := 92) dX8_bay_89 (by decide) rfl (fun c89 => ?_) (fun c89 => ?_)
  ·
    have b1 := bI_0.mp c89
    refine g_iconst (v := nI 0) (n := 97) dX8_bay_96 (by decide) rfl ?_
    exact g_iret (ty := .int) dX8_bay_97 rfl rfl ⟨Nat.zero_le _, Nat.zero_le _⟩ ⟨by rw [byA, b1]; rfl, _, _, _, _, _, _, _, _, hT, rfl⟩
  ·
    have b1 := bI_n0.mp c89
    refine g_iconst (v := nI 1) (n := 93) dX8_bay_92 (by decide) rfl ?_
    refine g_goto (tgt := 97) dX8_bay_93 (by decide) ?_
    exact g_iret (ty := .int) dX8_bay_97 rfl rfl ⟨Nat.zero_le _, Nat.zero_le _⟩ ⟨by rw [byA, b1]; rfl, _, _, _, _, _, _, _, _, hT, rfl⟩
theorem t_X8_bay_ok (l : Launch) (fell : Int32) (T : ST) (hT : okZ T) (ra lo pr rb lb pb : Nat → Int32) (kc : Int32) (S : ST) (V : WT) (hV : okV V) (dn : Int32) (fb : Nat → Int32) (U : WT) (un : Int32) (ub : Nat → Int32) (a : Nat) (ha : a + 100 < 2 ^ 31) (hS : okS V S a) (b : Nat) (hb_ : b < vnb V) (y : Int32) (h2 : inB y (nI 0) (nI 6) = true) : Con l M_X8_bay [.ref 0, .int (nI b), .int y] (xa fell T ra lo pr rb lb pb kc S V dn fb U un ub) (fun r u => r = some (.int (byA V S b y)) ∧ ∃ fell T ra lo pr rb lb pb, okZ T ∧ u = xa fell T ra lo pr rb lb pb kc S V dn fb U un ub) := by
  rcases sw y 0 6 (by decide) with h | ⟨k, hk, h⟩
  · exfalso
    have h3 := inB_ge h2
    have h4 := inB_le h2
    rw [Int32.lt_iff_toInt_lt, nI_toInt (by decide)] at h3
    rw [Int32.le_iff_toInt_le, nI_toInt (by decide)] at h4
    omega
  · subst h
    rcases (show k = 0 ∨ k = 1 ∨ k = 2 ∨ k = 3 ∨ k = 4 ∨ k = 5 ∨ k = 6 by omega) with rfl | rfl | rfl | rfl | rfl | rfl | rfl
    · exact t_X8_bay_0 l fell T hT ra lo pr rb lb pb kc S V hV dn fb U un ub a ha hS b hb_
    · exact t_X8_bay_1 l fell T hT ra lo pr rb lb pb kc S V hV dn fb U un ub a ha hS b hb_
    · exact t_X8_bay_2 l fell T hT ra lo pr rb lb pb kc S V hV dn fb U un ub a ha hS b hb_
    · exact t_X8_bay_3 l fell T hT ra lo pr rb lb pb kc S V hV dn fb U un ub a ha hS b hb_
    · exact t_X8_bay_4 l fell T hT ra lo pr rb lb pb kc S V hV dn fb U un ub a ha hS b hb_
    · exact t_X8_bay_5 l fell T hT ra lo pr rb lb pb kc S V hV dn fb U un ub a ha hS b hb_
    · exact t_X8_bay_6 l fell T hT ra lo pr rb lb pb kc S V hV dn fb U un ub a ha hS b hb_
set_option maxRecDepth 20000 in
theorem t_X8_buttress_bad (l : Launch) (fell : Int32) (T : ST) (hT : okZ T) (ra lo pr rb lb pb : Nat → Int32) (kc : Int32) (S : ST) (V : WT) (hV : okV V) (dn : Int32) (fb : Nat → Int32) (U : WT) (un : Int32) (ub : Nat → Int32) (a : Nat) (ha : a + 100 < 2 ^ 31) (hS : okS V S a) (y : Int32) (x : Int32) (h : isB (vnf V) x = false) : Con l M_X8_buttress [.ref 0, .int x, .int y] (xa fell T ra lo pr rb lb pb kc S V dn fb U un ub) (fun r u => r = some (.int (-1)) ∧ ∃ fell T ra lo pr rb lb pb, okZ T ∧ u = xa fell T ra lo pr rb lb pb kc S V dn fb U un ub) := by
  refine con_of rfl rfl (Nat.le_of_ble_eq_true rfl) ?_
  refine g_lsN (ls' := [_, _, _]) rfl ?_
  refine g_aload_n (n := 1) dX8_buttress_0 rfl rfl ?_
  refine g_get (n := 4) fl_X8_65 dX8_buttress_1 rfl rfl rfl ?_
  refine g_iload_n (n := 5) dX8_buttress_4 rfl rfl ?_
  refine g_cutVi (ps := [14, 15, 16, 17, 18, 19, 20]) (w' := [_, _, _, _, _, _, _, _, _, _, _, _, _, _, _, _, _, _, _, _, _, _, _, _, _, _, _, _, _, _, _, _]) (n := 8) cv_X8_116 (t_X7_hasButtress l V hV dn _) dX8_buttress_5 rfl rfl rfl ⟨by decide, by decide, rfl, rfl, Nat.zero_le _, Nat.zero_le _⟩ rfl rfl rfl (Nat.le_of_ble_eq_true rfl) rfl rfl rfl ?_
  refine g_if_ne (tgt := 13) (n := 11) dX8_buttress_8 (by decide) rfl (fun c8 => absurd (bI_0.mpr h) c8) (fun c8 => ?_)
  refine g_iconst (v := (-1)) (n := 12) dX8_buttress_11 (by decide) rfl ?_
  exact g_iret (ty := .int) dX8_buttress_12 rfl rfl ⟨Nat.zero_le _, Nat.zero_le _⟩ ⟨rfl, _, _, _, _, _, _, _, _, hT, rfl⟩
set_option maxRecDepth 20000 in
theorem t_X8_buttress_ok (l : Launch) (fell : Int32) (T : ST) (hT : okZ T) (ra lo pr rb lb pb : Nat → Int32) (kc : Int32) (S : ST) (V : WT) (hV : okV V) (dn : Int32) (fb : Nat → Int32) (U : WT) (un : Int32) (ub : Nat → Int32) (a : Nat) (ha : a + 100 < 2 ^ 31) (hS : okS V S a) (f : Nat) (hf : f < vnf V) (y : Int32) : Con l M_X8_buttress [.ref 0, .int (nI f), .int y] (xa fell T ra lo pr rb lb pb kc S V dn fb U un ub) (fun r u => r = some (.int (buA V S f y)) ∧ ∃ fell T ra lo pr rb lb pb, okZ T ∧ u = xa fell T ra lo pr rb lb pb kc S V dn fb U un ub) := by
  have hV1 := hV.1
  have hV2 := hV.2.1
  have hV3 := hV.2.2
  refine con_of rfl rfl (Nat.le_of_ble_eq_true rfl) ?_
  refine g_lsN (ls' := [_, _, _]) rfl ?_
  refine g_aload_n (n := 1) dX8_buttress_0 rfl rfl ?_
  refine g_get (n := 4) fl_X8_65 dX8_buttress_1 rfl rfl rfl ?_
  refine g_iload_n (n := 5) dX8_buttress_4 rfl rfl ?_
  refine g_cutVi (ps := [14, 15, 16, 17, 18, 19, 20]) (w' := [_, _, _, _, _, _, _, _, _, _, _, _, _, _, _, _, _, _, _, _, _, _, _, _, _, _, _, _, _, _, _, _]) (n := 8) cv_X8_116 (t_X7_hasButtress l V hV dn _) dX8_buttress_5 rfl rfl rfl ⟨by decide, by decide, rfl, rfl, Nat.zero_le _, Nat.zero_le _⟩ rfl rfl rfl (Nat.le_of_ble_eq_true rfl) rfl rfl rfl ?_
  refine g_if_ne (tgt := 13) (n := 11) dX8_buttress_8 (by decide) rfl (fun c8 => ?_) (fun c8 => absurd c8 (bI_n0.mpr (show isB (vnf V) (nI f) = true by rw [isB_nI (by omega) (by omega)]; exact decide_eq_true hf)))
  refine g_iload_n (n := 14) dX8_buttress_13 rfl rfl ?_
  rcases sw y 0 5 (by decide) with hsw | ⟨k14, hk14, hsw⟩
  ·
    refine g_tableOut (tgt := 119) dX8_buttress_14 hsw (by decide) ?_
    have n0 := sw_ne (k := 0) hsw (by decide) (by decide)
    have n1 := sw_ne (k := 1) hsw (by decide) (by decide)
    have n2 := sw_ne (k := 2) hsw (by decide) (by decide)
    have n3 := sw_ne (k := 3) hsw (by decide) (by decide)
    have n4 := sw_ne (k := 4) hsw (by decide) (by decide)
    have n5 := sw_ne (k := 5) hsw (by decide) (by decide)
    refine g_iconst (v := (-1)) (n := 120) dX8_buttress_119 (by decide) rfl ?_
    exact g_iret (ty := .int) dX8_buttress_120 rfl rfl ⟨Nat.zero_le _, Nat.zero_le _⟩ ⟨by first | rfl | (unfold buA; rw [if_neg n0, if_neg n1, if_neg n2, if_neg n3, if_neg n4, if_neg n5]), _, _, _, _, _, _, _, _, hT, rfl⟩
  ·
    rcases (show k14 = 0 ∨ k14 = 1 ∨ k14 = 2 ∨ k14 = 3 ∨ k14 = 4 ∨ k14 = 5 by omega) with rfl | rfl | rfl | rfl | rfl | rfl
    ·
      subst hsw
      refine g_tableIn (tgt := 52) dX8_buttress_14 (by decide) (by decide) rfl (by decide) ?_
      refine g_aload_n (n := 53) dX8_buttress_52 rfl rfl ?_
      refine g_get (n := 56) fl_X8_65 dX8_buttress_53 rfl rfl rfl ?_
      refine g_get (n := 59) fl_X8_119 dX8_buttress_56 rfl rfl rfl ?_
      refine g_iload_n (n := 60) dX8_buttress_59 rfl rfl ?_
      refine g_ialdN (n := 61) dX8_buttress_60 rfl rfl (by decide) (by omega) ?_
      exact g_iret (ty := .int) dX8_buttress_61 rfl rfl ⟨Nat.zero_le _, Nat.zero_le _⟩ ⟨by first | rfl | (unfold buA; rw [if_neg n0, if_neg n1, if_neg n2, if_neg n3, if_neg n4, if_neg n5]), _, _, _, _, _, _, _, _, hT, rfl⟩
    ·
      subst hsw
      refine g_tableIn (tgt := 62) dX8_buttress_14 (by decide) (by decide) rfl (by decide) ?_
      refine g_aload_n (n := 63) dX8_buttress_62 rfl rfl ?_
      refine g_get (n := 66) fl_X8_65 dX8_buttress_63 rfl rfl rfl ?_
      refine g_get (n := 69) fl_X8_122 dX8_buttress_66 rfl rfl rfl ?_
      refine g_iload_n (n := 70) dX8_buttress_69 rfl rfl ?_
      refine g_ialdN (n := 71) dX8_buttress_70 rfl rfl (by decide) (by omega) ?_
      exact g_iret (ty := .int) dX8_buttress_71 rfl rfl ⟨Nat.zero_le _, Nat.zero_le _⟩ ⟨by first | rfl | (unfold buA; rw [if_neg n0, if_neg n1, if_neg n2, if_neg n3, if_neg n4, if_neg n5]), _, _, _, _, _, _, _, _, hT, rfl⟩
    ·
      subst hsw
      refine g_tableIn (tgt := 72) dX8_buttress_14 (by decide) (by decide) rfl (by decide) ?_
      refine g_aload_n (n := 73) dX8_buttress_72 rfl rfl ?_
      refine g_get (n := 76) fl_X8_47 dX8_buttress_73 rfl rfl rfl ?_
      refine g_get (n := 79) fl_X8_125 dX8_buttress_76 rfl rfl rfl ?_
      refine g_iload_n (n := 80) dX8_buttress_79 rfl rfl ?_
      refine g_ialdN (n := 81) dX8_buttress_80 rfl rfl (by decide) (by omega) ?_
      exact g_iret (ty := .int) dX8_buttress_81 rfl rfl ⟨Nat.zero_le _, Nat.zero_le _⟩ ⟨by first | rfl | (unfold buA; rw [if_neg n0, if_neg n1, if_neg n2, if_neg n3, if_neg n4, if_neg n5]), _, _, _, _, _, _, _, _, hT, rfl⟩
    ·
      subst hsw
      refine g_tableIn (tgt := 82) dX8_buttress_14 (by decide) (by decide) rfl (by decide) ?_
      refine g_aload_n (n := 83) dX8_buttress_82 rfl rfl ?_
      refine g_get (n := 86) fl_X8_65 dX8_buttress_83 rfl rfl rfl ?_
      refine g_get (n := 89) fl_X8_128 dX8_buttress_86 rfl rfl rfl ?_
      refine g_iload_n (n := 90) dX8_buttress_89 rfl rfl ?_
      refine g_ialdN (n := 91) dX8_buttress_90 rfl rfl (by decide) (by omega) ?_
      exact g_iret (ty := .int) dX8_buttress_91 rfl rfl ⟨Nat.zero_le _, Nat.zero_le _⟩ ⟨by first | rfl | (unfold buA; rw [if_neg n0, if_neg n1, if_neg n2, if_neg n3, if_neg n4, if_neg n5]), _, _, _, _, _, _, _, _, hT, rfl⟩
    ·
      subst hsw
      refine g_tableIn (tgt := 92) dX8_buttress_14 (by decide) (by decide) rfl (by decide) ?_
      refine g_aload_n (n := 93) dX8_buttress_92 rfl rfl ?_
      refine g_get (n := 96) fl_X8_47 dX8_buttress_93 rfl rfl rfl ?_
      refine g_get (n := 99) fl_X8_131 dX8_buttress_96 rfl rfl rfl ?_
      refine g_iload_n (n := 100) dX8_buttress_99 rfl rfl ?_
      refine g_ialdN (n := 101) dX8_buttress_100 rfl rfl (by decide) (by omega) ?_
      exact g_iret (ty := .int) dX8_buttress_101 rfl rfl ⟨Nat.zero_le _, Nat.zero_le _⟩ ⟨by first | rfl | (unfold buA; rw [if_neg n0, if_neg n1, if_neg n2, if_neg n3, if_neg n4, if_neg n5]), _, _, _, _, _, _, _, _, hT, rfl⟩
    ·
      subst hsw
      refine g_tableIn (tgt := 102) dX8_buttress_14 (by decide) (by decide) rfl (by decide) ?_
      refine g_aload_n (n := 103) dX8_buttress_102 rfl rfl ?_
      refine g_get (n := 106) fl_X8_47 dX8_buttress_103 rfl rfl rfl ?_
      refine g_iload_n (n := 107) dX8_buttress_106 rfl rfl ?_
      refine g_cutVi (ps := [10, 11, 12, 13]) (w' := [_, _, _, _, _, _, _, _, _, _, _, _, _, _, _, _, _, _, _, _, _, _, _, _, _, _, _, _, _, _, _, _]) (n := 110) cv_X8_134 (t_X3_isUp l _ _) dX8_buttress_107 rfl rfl rfl ⟨by decide, by decide, rfl, rfl, Nat.zero_le _, Nat.zero_le _⟩ rfl rfl rfl (Nat.le_of_ble_eq_true rfl) rfl rfl rfl ?_
      refine g_if_eq (tgt := 117) (n := 113) dX8_buttress_110 (by decide) rfl (fun c110 => ?_) (fun c110 => ?_)
      ·
        have b1 := bI_0.mp c110
        refine g_iconst (v := nI 0) (n := 118) dX8_buttress_117 (by decide) rfl ?_
        exact g_iret (ty := .int) dX8_buttress_118 rfl rfl ⟨Nat.zero_le _, Nat.zero_le _⟩ ⟨by show _ = some (Value.int (sup S >>> (nI f &&& 31) &&& nI 1)); rw [bit01 (sup S) (show f < 32 by omega), b1]; rfl, _, _, _, _, _, _, _, _, hT, rfl⟩
      ·
        have b1 := bI_n0.mp c110
        refine g_iconst (v := nI 1) (n := 114) dX8_buttress_113 (by decide) rfl ?_
        refine g_goto (tgt := 118) dX8_buttress_114 (by decide) ?_
        exact g_iret (ty := .int) dX8_buttress_118 rfl rfl ⟨Nat.zero_le _, Nat.zero_le _⟩ ⟨by show _ = some (Value.int (sup S >>> (nI f &&& 31) &&& nI 1)); rw [bit01 (sup S) (show f < 32 by omega), b1]; rfl, _, _, _, _, _, _, _, _, hT, rfl⟩
set_option maxRecDepth 20000 in
theorem t_X8_carts_bad (l : Launch) (fell : Int32) (T : ST) (hT : okZ T) (ra lo pr rb lb pb : Nat → Int32) (kc : Int32) (S : ST) (V : WT) (hV : okV V) (dn : Int32) (fb : Nat → Int32) (U : WT) (un : Int32) (ub : Nat → Int32) (a : Nat) (ha : a + 100 < 2 ^ 31) (hS : okS V S a) (x : Int32) (h : inB x (nI 0) (nI 99) = false) : Con l M_X8_carts [.ref 0, .int x] (xa fell T ra lo pr rb lb pb kc S V dn fb U un ub) (fun r u => r = some (.int (-1)) ∧ ∃ fell T ra lo pr rb lb pb, okZ T ∧ u = xa fell T ra lo pr rb lb pb kc S V dn fb U un ub) := by
  refine con_of rfl rfl (Nat.le_of_ble_eq_true rfl) ?_
  refine g_lsN (ls' := [_, _]) rfl ?_
  refine g_iload_n (n := 1) dX8_carts_0 rfl rfl ?_
  refine g_if_lt (tgt := 10) (n := 4) dX8_carts_1 (by decide) rfl (fun c1 => ?_) (fun c1 => ?_)
  ·
    refine g_iconst (v := (-1)) (n := 11) dX8_carts_10 (by decide) rfl ?_
    exact g_iret (ty := .int) dX8_carts_11 rfl rfl ⟨Nat.zero_le _, Nat.zero_le _⟩ ⟨rfl, _, _, _, _, _, _, _, _, hT, rfl⟩
  ·
    refine g_iload_n (n := 5) dX8_carts_4 rfl rfl ?_
    refine g_bipush (v := nI 99) (n := 7) dX8_carts_5 (by decide) rfl ?_
    refine g_icmp_le (tgt := 12) (n := 10) dX8_carts_7 (by decide) rfl (fun c7 => ?_) (fun c7 => ?_)
    ·
      exact inB_x h c1 c7
    ·
      refine g_iconst (v := (-1)) (n := 11) dX8_carts_10 (by decide) rfl ?_
      exact g_iret (ty := .int) dX8_carts_11 rfl rfl ⟨Nat.zero_le _, Nat.zero_le _⟩ ⟨rfl, _, _, _, _, _, _, _, _, hT, rfl⟩
set_option maxRecDepth 20000 in
theorem t_X8_carts_ok (l : Launch) (fell : Int32) (T : ST) (hT : okZ T) (ra lo pr rb lb pb : Nat → Int32) (kc : Int32) (S : ST) (V : WT) (hV : okV V) (dn : Int32) (fb : Nat → Int32) (U : WT) (un : Int32) (ub : Nat → Int32) (a : Nat) (ha : a + 100 < 2 ^ 31) (hS : okS V S a) (x : Nat) (hx : x ≤ 99) (h : inB (nI x) (nI 0) (nI 99) = true) : Con l M_X8_carts [.ref 0, .int (nI x)] (xa fell T ra lo pr rb lb pb kc S V dn fb U un ub) (fun r u => r = some (.int (bI (caF V (sho S + nI x)))) ∧ ∃ fell T ra lo pr rb lb pb, okZ T ∧ u = xa fell T ra lo pr rb lb pb kc S V dn fb U un ub) := by
  have e1 : sho S + nI x = nI (a + x) := by rw [hS.2.2.2, nI_add]
  refine con_of rfl rfl (Nat.le_of_ble_eq_true rfl) ?_
  refine g_lsN (ls' := [_, _]) rfl ?_
  refine g_iload_n (n := 1) dX8_carts_0 rfl rfl ?_
  refine g_if_lt (tgt := 10) (n := 4) dX8_carts_1 (by decide) rfl (fun c1 => absurd c1 (inB_ge h)) (fun c1 => ?_)
  refine g_iload_n (n := 5) dX8_carts_4 rfl rfl ?_
  refine g_bipush (v := nI 99) (n := 7) dX8_carts_5 (by decide) rfl ?_
  refine g_icmp_le (tgt := 12) (n := 10) dX8_carts_7 (by decide) rfl (fun c7 => ?_) (fun c7 => absurd (inB_le h) c7)
  refine g_aload_n (n := 13) dX8_carts_12 rfl rfl ?_
  refine g_get (n := 16) fl_X8_65 dX8_carts_13 rfl rfl rfl ?_
  refine g_aload_n (n := 17) dX8_carts_16 rfl rfl ?_
  refine g_get (n := 20) fl_X8_47 dX8_carts_17 rfl rfl rfl ?_
  refine g_get (n := 23) fl_X8_137 dX8_carts_20 rfl rfl rfl ?_
  refine g_iload_n (n := 24) dX8_carts_23 rfl rfl ?_
  refine g_iadd (n := 25) dX8_carts_24 rfl ?_
  rw [e1]
  refine g_cutVi (ps := [14, 15, 16, 17, 18, 19, 20]) (w' := [_, _, _, _, _, _, _, _, _, _, _, _, _, _, _, _, _, _, _, _, _, _, _, _, _, _, _, _, _, _, _, _]) (n := 28) cv_X8_140 (t_X7_hasCarts l V hV dn (a + x) (by omega)) dX8_carts_25 rfl rfl rfl ⟨by decide, by decide, rfl, rfl, Nat.zero_le _, Nat.zero_le _⟩ rfl rfl rfl (Nat.le_of_ble_eq_true rfl) rfl rfl rfl ?_
  refine g_if_eq (tgt := 35) (n := 31) dX8_carts_28 (by decide) rfl (fun c28 => ?_) (fun c28 => ?_)
  ·
    have hF := bI_0.mp c28
    refine g_iconst (v := nI 0) (n := 36) dX8_carts_35 (by decide) rfl ?_
    exact g_iret (ty := .int) dX8_carts_36 rfl rfl ⟨Nat.zero_le _, Nat.zero_le _⟩ ⟨by first | exact okT hT9 | exact okF hF, _, _, _, _, _, _, _, _, hT, rfl⟩
  ·
    have hT9 := bI_n0.mp c28
    refine g_iconst (v := nI 1) (n := 32) dX8_carts_31 (by decide) rfl ?_
    refine g_goto (tgt := 36) dX8_carts_32 (by decide) ?_
    exact g_iret (ty := .int) dX8_carts_36 rfl rfl ⟨Nat.zero_le _, Nat.zero_le _⟩ ⟨by first | exact okT hT9 | exact okF hF, _, _, _, _, _, _, _, _, hT, rfl⟩
abbrev xc (kc nx sz tl : Int32) (S : ST) (V : WT) (dn : Int32) (fb rb lb pb : Nat → Int32) : List va_E := [.inr (8, [.ref 17, .ref 18, .ref 12, .ref 19, .ref 20, .ref 8, .ref 16, .ref 21, .int kc, .ref 1, .ref 22]), wo V dn 1, a8 (vth V), a8 (vpa V), a6 (vki V), a6 (vsg V), a6 fb, a6 (vkn V), so S 8, a6 (sbo S), a6 (sti S), a8 (sun S), co 12, a8 rb, a8 lb, a8 pb, .inr (5, [.ref 23, .int nx, .int sz]), .inr (4, [.ref 24, .int tl])]
set_option maxRecDepth 20000 in
theorem t_X8_count_ok (l : Launch) (kc nx sz tl : Int32) (S : ST) (V : WT) (hV : okV V) (dn : Int32) (fb rb lb pb : Nat → Int32) (hB : okB V S) (hU : okU S) (y : Int32) : Con l M_X8_count [.ref 0, .int y] (xc kc nx sz tl S V dn fb rb lb pb) (fun r u => r = some (.int (ctA V S sz kc tl y)) ∧ ∃ rb lb pb, u = xc kc nx sz tl S V dn fb rb lb pb) := by
  refine con_of rfl rfl (Nat.le_of_ble_eq_true rfl) ?_
  refine g_lsN (ls' := [_, _]) rfl ?_
  refine g_iload_n (n := 1) dX8_count_0 rfl rfl ?_
  rcases sw y 0 8 (by decide) with hsw | ⟨k1, hk1, hsw⟩
  ·
    refine g_tableOut (tgt := 138) dX8_count_1 hsw (by decide) ?_
    have n0 := sw_ne (k := 0) hsw (by decide) (by decide)
    have n1 := sw_ne (k := 1) hsw (by decide) (by decide)
    have n2 := sw_ne (k := 2) hsw (by decide) (by decide)
    have n3 := sw_ne (k := 3) hsw (by decide) (by decide)
    have n4 := sw_ne (k := 4) hsw (by decide) (by decide)
    have n5 := sw_ne (k := 5) hsw (by decide) (by decide)
    have n6 := sw_ne (k := 6) hsw (by decide) (by decide)
    have n7 := sw_ne (k := 7) hsw (by decide) (by decide)
    have n8 := sw_ne (k := 8) hsw (by decide) (by decide)
    refine g_iconst (v := (-1)) (n := 139) dX8_count_138 (by decide) rfl ?_
    exact g_iret (ty := .int) dX8_count_139 rfl rfl ⟨Nat.zero_le _, Nat.zero_le _⟩ ⟨by first | rfl | (unfold ctA; rw [if_neg n0, if_neg n1, if_neg n2, if_neg n3, if_neg n4, if_neg n5, if_neg n6, if_neg n7, if_neg n8]), _, _, _, rfl⟩
  ·
    rcases (show k1 = 0 ∨ k1 = 1 ∨ k1 = 2 ∨ k1 = 3 ∨ k1 = 4 ∨ k1 = 5 ∨ k1 = 6 ∨ k1 = 7 ∨ k1 = 8 by omega) with rfl | rfl | rfl | rfl | rfl | rfl | rfl | rfl | rfl
    ·
      subst hsw
      refine g_tableIn (tgt := 52) dX8_count_1 (by decide) (by decide) rfl (by decide) ?_
      refine g_aload_n (n := 53) dX8_count_52 rfl rfl ?_
      refine g_get (n := 56) fl_X8_65 dX8_count_53 rfl rfl rfl ?_
      refine g_get (n := 59) fl_X8_215 dX8_count_56 rfl rfl rfl ?_
      exact g_iret (ty := .int) dX8_count_59 rfl rfl ⟨Nat.zero_le _, Nat.zero_le _⟩ ⟨by first | rfl | (unfold ctA; rw [if_neg n0, if_neg n1, if_neg n2, if_neg n3, if_neg n4, if_neg n5, if_neg n6, if_neg n7, if_neg n8]), _, _, _, rfl⟩
    ·
      subst hsw
      refine g_tableIn (tgt := 60) dX8_count_1 (by decide) (by decide) rfl (by decide) ?_
      refine g_aload_n (n := 61) dX8_count_60 rfl rfl ?_
      refine g_get (n := 64) fl_X8_65 dX8_count_61 rfl rfl rfl ?_
      refine g_get (n := 67) fl_X8_276 dX8_count_64 rfl rfl rfl ?_
      exact g_iret (ty := .int) dX8_count_67 rfl rfl ⟨Nat.zero_le _, Nat.zero_le _⟩ ⟨by first | rfl | (unfold ctA; rw [if_neg n0, if_neg n1, if_neg n2, if_neg n3, if_neg n4, if_neg n5, if_neg n6, if_neg n7, if_neg n8]), _, _, _, rfl⟩
    ·
      subst hsw
      refine g_tableIn (tgt := 68) dX8_count_1 (by decide) (by decide) rfl (by decide) ?_
      refine g_aload_n (n := 69) dX8_count_68 rfl rfl ?_
      refine g_get (n := 72) fl_X8_47 dX8_count_69 rfl rfl rfl ?_
      refine g_get (n := 75) fl_X8_137 dX8_count_72 rfl rfl rfl ?_
      exact g_iret (ty := .int) dX8_count_75 rfl rfl ⟨Nat.zero_le _, Nat.zero_le _⟩ ⟨by first | rfl | (unfold ctA; rw [if_neg n0, if_neg n1, if_neg n2, if_neg n3, if_neg n4, if_neg n5, if_neg n6, if_neg n7, if_neg n8]), _, _, _, rfl⟩
    ·
      subst hsw
      refine g_tableIn (tgt := 76) dX8_count_1 (by decide) (by decide) rfl (by decide) ?_
      refine g_aload_n (n := 77) dX8_count_76 rfl rfl ?_
      refine g_get (n := 80) fl_X8_47 dX8_count_77 rfl rfl rfl ?_
      refine g_get (n := 83) fl_X8_198 dX8_count_80 rfl rfl rfl ?_
      refine g_callSi (n := 86) cs_X8_238 (t_J6_bitN l _ (by first | exact hU.1 | exact hU.2 | exact okN_hdN hV S)) dX8_count_83 rfl rfl ⟨by decide, by decide, rfl, rfl, Nat.zero_le _, Nat.zero_le _⟩ rfl (Nat.le_of_ble_eq_true rfl) rfl ?_
      exact g_iret (ty := .int) dX8_count_86 rfl rfl ⟨Nat.zero_le _, Nat.zero_le _⟩ ⟨by first | rfl | (unfold ctA; rw [if_neg n0, if_neg n1, if_neg n2, if_neg n3, if_neg n4, if_neg n5, if_neg n6, if_neg n7, if_neg n8]), _, _, _, rfl⟩
    ·
      subst hsw
      refine g_tableIn (tgt := 87) dX8_count_1 (by decide) (by decide) rfl (by decide) ?_
      refine g_aload_n (n := 88) dX8_count_87 rfl rfl ?_
      refine g_get (n := 91) fl_X8_26 dX8_count_88 rfl rfl rfl ?_
      refine g_aload_n (n := 92) dX8_count_91 rfl rfl ?_
      refine g_get (n := 95) fl_X8_65 dX8_count_92 rfl rfl rfl ?_
      refine g_aload_n (n := 96) dX8_count_95 rfl rfl ?_
      refine g_get (n := 99) fl_X8_47 dX8_count_96 rfl rfl rfl ?_
      refine g_cutVi (ps := [12, 13, 14, 15, 1, 2, 3, 4, 5, 6, 7, 8, 9, 10, 11]) (w' := [_, _, _, _, _, _, _, _, _, _, _, _, _, _, _, _, _, _]) (n := 102) cv_X8_279 (t_X0_heldBays l _ _ _ V hV dn fb S hB) dX8_count_99 rfl rfl rfl ⟨by decide, by decide, rfl, rfl, Nat.zero_le _, Nat.zero_le _⟩ rfl rfl rfl (Nat.le_of_ble_eq_true rfl) rfl rfl rfl ?_
      refine g_callSi (n := 105) cs_X8_238 (t_J6_bitN l _ (by first | exact hU.1 | exact hU.2 | exact okN_hdN hV S)) dX8_count_102 rfl rfl ⟨by decide, by decide, rfl, rfl, Nat.zero_le _, Nat.zero_le _⟩ rfl (Nat.le_of_ble_eq_true rfl) rfl ?_
      exact g_iret (ty := .int) dX8_count_105 rfl rfl ⟨Nat.zero_le _, Nat.zero_le _⟩ ⟨by first | rfl | (unfold ctA; rw [if_neg n0, if_neg n1, if_neg n2, if_neg n3, if_neg n4, if_neg n5, if_neg n6, if_neg n7, if_neg n8]), _, _, _, rfl⟩
    ·
      subst hsw
      refine g_tableIn (tgt := 106) dX8_count_1 (by decide) (by decide) rfl (by decide) ?_
      refine g_aload_n (n := 107) dX8_count_106 rfl rfl ?_
      refine g_get (n := 110) fl_X8_47 dX8_count_107 rfl rfl rfl ?_
      refine g_get (n := 113) fl_X8_265 dX8_count_110 rfl rfl rfl ?_
      refine g_callSi (n := 116) cs_X8_238 (t_J6_bitN l _ (by first | exact hU.1 | exact hU.2 | exact okN_hdN hV S)) dX8_count_113 rfl rfl ⟨by decide, by decide, rfl, rfl, Nat.zero_le _, Nat.zero_le _⟩ rfl (Nat.le_of_ble_eq_true rfl) rfl ?_
      exact g_iret (ty := .int) dX8_count_116 rfl rfl ⟨Nat.zero_le _, Nat.zero_le _⟩ ⟨by first | rfl | (unfold ctA; rw [if_neg n0, if_neg n1, if_neg n2, if_neg n3, if_neg n4, if_neg n5, if_neg n6, if_neg n7, if_neg n8]), _, _, _, rfl⟩
    ·
      subst hsw
      refine g_tableIn (tgt := 117) dX8_count_1 (by decide) (by decide) rfl (by decide) ?_
      refine g_aload_n (n := 118) dX8_count_117 rfl rfl ?_
      refine g_get (n := 121) fl_X8_54 dX8_count_118 rfl rfl rfl ?_
      refine g_get (n := 124) fl_X8_173 dX8_count_121 rfl rfl rfl ?_
      exact g_iret (ty := .int) dX8_count_124 rfl rfl ⟨Nat.zero_le _, Nat.zero_le _⟩ ⟨by first | rfl | (unfold ctA; rw [if_neg n0, if_neg n1, if_neg n2, if_neg n3, if_neg n4, if_neg n5, if_neg n6, if_neg n7, if_neg n8]), _, _, _, rfl⟩
    ·
      subst hsw
      refine g_tableIn (tgt := 125) dX8_count_1 (by decide) (by decide) rfl (by decide) ?_
      refine g_aload_n (n := 126) dX8_count_125 rfl rfl ?_
      refine g_get (n := 129) fl_X8_268 dX8_count_126 rfl rfl rfl ?_
      exact g_iret (ty := .int) dX8_count_129 rfl rfl ⟨Nat.zero_le _, Nat.zero_le _⟩ ⟨by first | rfl | (unfold ctA; rw [if_neg n0, if_neg n1, if_neg n2, if_neg n3, if_neg n4, if_neg n5, if_neg n6, if_neg n7, if_neg n8]), _, _, _, rfl⟩
    ·
      subst hsw
      refine g_tableIn (tgt := 130) dX8_count_1 (by decide) (by decide) rfl (by decide) ?_
      refine g_aload_n (n := 131) dX8_count_130 rfl rfl ?_
      refine g_get (n := 134) fl_X8_10 dX8_count_131 rfl rfl rfl ?_
      refine g_get (n := 137) fl_X8_91 dX8_count_134 rfl rfl rfl ?_
      exact g_iret (ty := .int) dX8_count_137 rfl rfl ⟨Nat.zero_le _, Nat.zero_le _⟩ ⟨by first | rfl | (unfold ctA; rw [if_neg n0, if_neg n1, if_neg n2, if_neg n3, if_neg n4, if_neg n5, if_neg n6, if_neg n7, if_neg n8]), _, _, _, rfl⟩

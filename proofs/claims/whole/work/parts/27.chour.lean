/-! 27.chour: the class: states copied; an hour's pieces -/
theorem cpy_n {f g : Nat → Int32} (n : Nat) (h : ∀ j, n ≤ j → f j = g j) : va_cpy f g 0 0 n = f := by
  funext k
  unfold va_cpy
  by_cases hk : k < n
  · rw [if_pos ⟨Nat.zero_le _, by omega⟩, Nat.zero_add, Nat.sub_zero]
  · rw [if_neg (by omega), h k (by omega)]
abbrev ss (S S2 : ST) : List va_E := [so S 0, a6 (sbo S), a6 (sti S), a8 (sun S), so S2 4, a6 (sbo S2), a6 (sti S2), a8 (sun S2)]
theorem zz_eq {f g : Nat → Int32} {n : Nat} (hf : ∀ j, n ≤ j → f j = 0) (hg : ∀ j, n ≤ j → g j = 0) : ∀ j, n ≤ j → f j = g j := fun j hj => by rw [hf j hj, hg j hj]

set_option maxRecDepth 20000 in
theorem t_X3_takeFrom (l : Launch) (S S2 : ST) (h1 : okZ S) (h2 : okZ S2) : Fn l M_X3_takeFrom [.ref 0, .ref 4] (ss S S2) none (ss S2 S2) := by
  refine con_of rfl rfl (Nat.le_of_ble_eq_true rfl) ?_
  refine g_lsN (ls' := [_, _]) rfl ?_
  refine g_aload_n (n := 1) dX3_takeFrom_0 rfl rfl ?_
  refine g_aload_n (n := 2) dX3_takeFrom_1 rfl rfl ?_
  refine g_get (n := 5) fl_X3_21 dX3_takeFrom_2 rfl rfl rfl ?_
  refine g_put (n := 8) pf_X3_21 dX3_takeFrom_5 rfl (Nat.le_of_ble_eq_true rfl) (fun _ => rfl) (fun _ => rfl) rfl ?_
  refine g_wN (w' := [_, _, _, _, _, _, _, _]) rfl ?_
  refine g_aload_n (n := 9) dX3_takeFrom_8 rfl rfl ?_
  refine g_aload_n (n := 10) dX3_takeFrom_9 rfl rfl ?_
  refine g_get (n := 13) fl_X3_34 dX3_takeFrom_10 rfl rfl rfl ?_
  refine g_put (n := 16) pf_X3_34 dX3_takeFrom_13 rfl (Nat.le_of_ble_eq_true rfl) (fun _ => rfl) (fun _ => rfl) rfl ?_
  refine g_wN (w' := [_, _, _, _, _, _, _, _]) rfl ?_
  refine g_aload_n (n := 17) dX3_takeFrom_16 rfl rfl ?_
  refine g_aload_n (n := 18) dX3_takeFrom_17 rfl rfl ?_
  refine g_get (n := 21) fl_X3_37 dX3_takeFrom_18 rfl rfl rfl ?_
  refine g_put (n := 24) pf_X3_37 dX3_takeFrom_21 rfl (Nat.le_of_ble_eq_true rfl) (fun _ => rfl) (fun _ => rfl) rfl ?_
  refine g_wN (w' := [_, _, _, _, _, _, _, _]) rfl ?_
  refine g_aload_n (n := 25) dX3_takeFrom_24 rfl rfl ?_
  refine g_get (n := 28) fl_X3_9 dX3_takeFrom_25 rfl rfl rfl ?_
  refine g_iconst (v := nI 0) (n := 29) dX3_takeFrom_28 (by decide) rfl ?_
  refine g_aload_n (n := 30) dX3_takeFrom_29 rfl rfl ?_
  refine g_get (n := 33) fl_X3_9 dX3_takeFrom_30 rfl rfl rfl ?_
  refine g_iconst (v := nI 0) (n := 34) dX3_takeFrom_33 (by decide) rfl ?_
  refine g_bipush (v := nI 6) (n := 36) dX3_takeFrom_34 (by decide) rfl ?_
  refine g_copy (n := 39) dX3_takeFrom_36 lk_X3_43 lw_acn lw_acs lw_sys (by decide) (Nat.le_of_ble_eq_true rfl) rfl rfl (by decide) (by decide) (by decide) (by decide) rfl ?_
  refine g_wN (w' := [_, _, _, _, _, _, _, _]) rfl ?_
  rw [cpy_n 6 (zz_eq h2.2.1 h1.2.1)]
  refine g_aload_n (n := 40) dX3_takeFrom_39 rfl rfl ?_
  refine g_get (n := 43) fl_X3_15 dX3_takeFrom_40 rfl rfl rfl ?_
  refine g_iconst (v := nI 0) (n := 44) dX3_takeFrom_43 (by decide) rfl ?_
  refine g_aload_n (n := 45) dX3_takeFrom_44 rfl rfl ?_
  refine g_get (n := 48) fl_X3_15 dX3_takeFrom_45 rfl rfl rfl ?_
  refine g_iconst (v := nI 0) (n := 49) dX3_takeFrom_48 (by decide) rfl ?_
  refine g_bipush (v := nI 6) (n := 51) dX3_takeFrom_49 (by decide) rfl ?_
  refine g_copy (n := 54) dX3_takeFrom_51 lk_X3_43 lw_acn lw_acs lw_sys (by decide) (Nat.le_of_ble_eq_true rfl) rfl rfl (by decide) (by decide) (by decide) (by decide) rfl ?_
  refine g_wN (w' := [_, _, _, _, _, _, _, _]) rfl ?_
  rw [cpy_n 6 (zz_eq h2.1 h1.1)]
  refine g_aload_n (n := 55) dX3_takeFrom_54 rfl rfl ?_
  refine g_get (n := 58) fl_X3_18 dX3_takeFrom_55 rfl rfl rfl ?_
  refine g_iconst (v := nI 0) (n := 59) dX3_takeFrom_58 (by decide) rfl ?_
  refine g_aload_n (n := 60) dX3_takeFrom_59 rfl rfl ?_
  refine g_get (n := 63) fl_X3_18 dX3_takeFrom_60 rfl rfl rfl ?_
  refine g_iconst (v := nI 0) (n := 64) dX3_takeFrom_63 (by decide) rfl ?_
  refine g_bipush (v := nI 8) (n := 66) dX3_takeFrom_64 (by decide) rfl ?_
  refine g_copy (n := 69) dX3_takeFrom_66 lk_X3_43 lw_acn lw_acs lw_sys (by decide) (Nat.le_of_ble_eq_true rfl) rfl rfl (by decide) (by decide) (by decide) (by decide) rfl ?_
  refine g_wN (w' := [_, _, _, _, _, _, _, _]) rfl ?_
  rw [cpy_n 8 (zz_eq h2.2.2 h1.2.2)]
  exact g_vret dX3_takeFrom_69 rfl ⟨Nat.zero_le _, Nat.zero_le _⟩ ⟨rfl, rfl⟩
set_option maxRecDepth 20000 in
theorem lp_X3_upAt (l : Launch) (z : Nat × Nat × Nat) (hz : z.2.1 ≤ 0 ∧ z.2.2 ≤ 0) (Q : Option Value → List va_E → Prop) (V : WT) (hV : okV V) (dn : Int32) (fb : Nat → Int32) (S : ST) (f : Nat) (hf : f < vnf V) (hQ : Q (some (.int (uaN V S f (vnf V)))) (ws V dn fb S)) : ∀ g, g ≤ vnf V → G l M_X3_upAt z Q 5 [some (.ref 7), some (.ref 0), some (.int (sbo S f)), some (.int (uaN V S f g)), some (.int (nI g))] [] (ws V dn fb S) := by
  have hV1 := hV.1
  have hV2 := hV.2.1
  have hV3 := hV.2.2
  refine loopN (vnf V) ?_ (fun g hg ih => ?_)
  ·
    refine g_iload (n := 7) dX3_upAt_5 rfl rfl ?_
    refine g_aload_n (n := 8) dX3_upAt_7 rfl rfl ?_
    refine g_get (n := 11) fl_X3_72 dX3_upAt_8 rfl rfl rfl ?_
    refine g_icmp_ge (tgt := 50) (n := 14) dX3_upAt_11 (by decide) rfl (fun c11 => ?_) (fun c11 => absurd (nI_le (Nat.le_refl _) (by omega)) c11)
    refine g_iload_n (n := 51) dX3_upAt_50 rfl rfl ?_
    exact g_iret (ty := .int) dX3_upAt_51 rfl rfl hz hQ
  ·
    refine g_iload (n := 7) dX3_upAt_5 rfl rfl ?_
    refine g_aload_n (n := 8) dX3_upAt_7 rfl rfl ?_
    refine g_get (n := 11) fl_X3_72 dX3_upAt_8 rfl rfl rfl ?_
    refine g_icmp_ge (tgt := 50) (n := 14) dX3_upAt_11 (by decide) rfl (fun c11 => absurd c11 (nI_ge hg (by omega))) (fun c11 => ?_)
    refine g_iload (n := 16) dX3_upAt_14 rfl rfl ?_
    refine g_bipush (v := nI 6) (n := 18) dX3_upAt_16 (by decide) rfl ?_
    refine g_icmp_ge (tgt := 50) (n := 21) dX3_upAt_18 (by decide) rfl (fun c18 => absurd c18 (nI_ge (show g < 6 by omega) (by decide))) (fun c18 => ?_)
    refine g_aload_n (n := 22) dX3_upAt_21 rfl rfl ?_
    refine g_iload (n := 24) dX3_upAt_22 rfl rfl ?_
    refine g_cutVi (ps := [7, 8, 9, 10]) (w' := [_, _, _, _, _, _, _, _, _, _, _]) (n := 27) cv_X3_53 (t_X3_isUp l _ _) dX3_upAt_24 rfl rfl rfl ⟨by decide, by decide, rfl, rfl, hz.1, hz.2⟩ rfl rfl rfl (Nat.le_of_ble_eq_true rfl) rfl rfl rfl ?_
    refine g_if_eq (tgt := 44) (n := 30) dX3_upAt_27 (by decide) rfl (fun c27 => ?_) (fun c27 => ?_)
    ·
      have e1 : uaN V S f (g + 1) = uaN V S f g := by rw [uaN, bI_0.mp c27]; exact Int32.add_zero _
      rw [e1] at ih
      refine g_iincN (k := 1) (n := 47) dX3_upAt_44 rfl (by decide) rfl rfl ?_
      refine g_lsN (ls' := [_, _, _, _, _]) rfl ?_
      refine g_goto (tgt := 5) dX3_upAt_47 (by decide) ?_
      exact ih
    ·
      have a1 := bI_n0.mp c27
      refine g_aload_n (n := 31) dX3_upAt_30 rfl rfl ?_
      refine g_get (n := 34) fl_X3_9 dX3_upAt_31 rfl rfl rfl ?_
      refine g_iload (n := 36) dX3_upAt_34 rfl rfl ?_
      refine g_ialdN (n := 37) dX3_upAt_36 rfl rfl (by decide) (by omega) ?_
      refine g_iload_n (n := 38) dX3_upAt_37 rfl rfl ?_
      refine g_icmp_ne (tgt := 44) (n := 41) dX3_upAt_38 (by decide) rfl (fun c38 => ?_) (fun c38 => ?_)
      ·
        have e1 : uaN V S f (g + 1) = uaN V S f g := by rw [uaN, a1, decide_eq_false c38]; exact Int32.add_zero _
        rw [e1] at ih
        refine g_iincN (k := 1) (n := 47) dX3_upAt_44 rfl (by decide) rfl rfl ?_
        refine g_lsN (ls' := [_, _, _, _, _]) rfl ?_
        refine g_goto (tgt := 5) dX3_upAt_47 (by decide) ?_
        exact ih
      ·
        have e1 : uaN V S f (g + 1) = uaN V S f g + Int32.ofInt 1 := by rw [uaN, a1, decide_eq_true c38]; rfl
        rw [e1] at ih
        refine g_iinc (n := 44) dX3_upAt_41 rfl rfl (by decide) rfl rfl ?_
        refine g_lsN (ls' := [_, _, _, _, _]) rfl ?_
        refine g_iincN (k := 1) (n := 47) dX3_upAt_44 rfl (by decide) rfl rfl ?_
        refine g_lsN (ls' := [_, _, _, _, _]) rfl ?_
        refine g_goto (tgt := 5) dX3_upAt_47 (by decide) ?_
        exact ih
set_option maxRecDepth 20000 in
theorem t_X3_upAt (l : Launch) (V : WT) (hV : okV V) (dn : Int32) (fb : Nat → Int32) (S : ST) (f : Nat) (hf : f < vnf V) : Fn l M_X3_upAt [.ref 7, .ref 0, .int (sbo S f)] (ws V dn fb S) (some (.int (uaN V S f (vnf V)))) (ws V dn fb S) := by
  refine con_of rfl rfl (Nat.le_of_ble_eq_true rfl) ?_
  refine g_lsN (ls' := [_, _, _, _, _]) rfl ?_
  refine g_iconst (v := nI 0) (n := 1) dX3_upAt_0 (by decide) rfl ?_
  refine g_istore_n (n := 2) dX3_upAt_1 (by decide) rfl rfl ?_
  refine g_lsN (ls' := [_, _, _, _, _]) rfl ?_
  refine g_iconst (v := nI 0) (n := 3) dX3_upAt_2 (by decide) rfl ?_
  refine g_istore (n := 5) dX3_upAt_3 (by decide) rfl rfl ?_
  refine g_lsN (ls' := [_, _, _, _, _]) rfl ?_
  exact lp_X3_upAt l _ ⟨Nat.zero_le _, Nat.zero_le _⟩ _ V hV dn fb S f hf ⟨rfl, rfl⟩ 0 (Nat.zero_le _)
def asN (S : ST) (set : Int32) : Nat → Bool
  | 0 => true
  | f + 1 => asN S set f && !(hb set (nI f) && hb (sfa S) (sbo S f))
theorem asN_f {S : ST} {set : Int32} {f : Nat} (h : asN S set f = false) : ∀ k, f ≤ k → asN S set k = false := by
  intro k hk
  induction k with
  | zero => rw [← h, show f = 0 by omega]
  | succ k ih =>
    rcases Nat.lt_or_ge k f with q | q
    · rw [← h, show f = k + 1 by omega]
    · rw [asN, ih q, Bool.false_and]
set_option maxRecDepth 20000 in
theorem lp_X3_allAtStanding (l : Launch) (z : Nat × Nat × Nat) (hz : z.2.1 ≤ 0 ∧ z.2.2 ≤ 0) (Q : Option Value → List va_E → Prop) (V : WT) (hV : okV V) (dn : Int32) (fb : Nat → Int32) (S : ST) (set : Int32) (hQ : Q (some (.int (bI (asN S set (vnf V))))) (ws V dn fb S)) : ∀ f, f ≤ vnf V → asN S set f = true → G l M_X3_allAtStanding z Q 2 [some (.ref 7), some (.ref 0), some (.int set), some (.int (nI f))] [] (ws V dn fb S) := by
  have hV1 := hV.1
  have hV2 := hV.2.1
  have hV3 := hV.2.2
  refine loopN (vnf V) ?_ (fun f hf ih => ?_)
  ·
    intro ht
    rw [ht] at hQ
    refine g_iload_n (n := 3) dX3_allAtStanding_2 rfl rfl ?_
    refine g_aload_n (n := 4) dX3_allAtStanding_3 rfl rfl ?_
    refine g_get (n := 7) fl_X3_72 dX3_allAtStanding_4 rfl rfl rfl ?_
    refine g_icmp_ge (tgt := 45) (n := 10) dX3_allAtStanding_7 (by decide) rfl (fun c7 => ?_) (fun c7 => absurd (nI_le (Nat.le_refl _) (by omega)) c7)
    refine g_iconst (v := nI 1) (n := 46) dX3_allAtStanding_45 (by decide) rfl ?_
    exact g_iret (ty := .boolean) dX3_allAtStanding_46 rfl (by first | exact bI_nar _ | decide) hz hQ
  ·
    intro ht
    refine g_iload_n (n := 3) dX3_allAtStanding_2 rfl rfl ?_
    refine g_aload_n (n := 4) dX3_allAtStanding_3 rfl rfl ?_
    refine g_get (n := 7) fl_X3_72 dX3_allAtStanding_4 rfl rfl rfl ?_
    refine g_icmp_ge (tgt := 45) (n := 10) dX3_allAtStanding_7 (by decide) rfl (fun c7 => absurd c7 (nI_ge hf (by omega))) (fun c7 => ?_)
    refine g_iload_n (n := 11) dX3_allAtStanding_10 rfl rfl ?_
    refine g_bipush (v := nI 6) (n := 13) dX3_allAtStanding_11 (by decide) rfl ?_
    refine g_icmp_ge (tgt := 45) (n := 16) dX3_allAtStanding_13 (by decide) rfl (fun c13 => absurd c13 (nI_ge (show f < 6 by omega) (by decide))) (fun c13 => ?_)
    refine g_iload_n (n := 17) dX3_allAtStanding_16 rfl rfl ?_
    refine g_iload_n (n := 18) dX3_allAtStanding_17 rfl rfl ?_
    refine g_callSNi (n := 21) cs_X3_75 (t_X8_hasBit l _ _) dX3_allAtStanding_18 rfl rfl ⟨by decide, by decide, rfl, rfl, hz.1, hz.2⟩ rfl (Nat.le_of_ble_eq_true rfl) rfl ?_
    refine g_if_eq (tgt := 39) (n := 24) dX3_allAtStanding_21 (by decide) rfl (fun c21 => ?_) (fun c21 => ?_)
    ·
      have e1 : asN S set (f + 1) = true := by rw [asN, ht, bI_0.mp c21]; rfl
      refine g_iincN (k := 1) (n := 42) dX3_allAtStanding_39 rfl (by decide) rfl rfl ?_
      refine g_lsN (ls' := [_, _, _, _]) rfl ?_
      refine g_goto (tgt := 2) dX3_allAtStanding_42 (by decide) ?_
      exact ih e1
    ·
      have a1 := bI_n0.mp c21
      refine g_aload_n (n := 25) dX3_allAtStanding_24 rfl rfl ?_
      refine g_aload_n (n := 26) dX3_allAtStanding_25 rfl rfl ?_
      refine g_get (n := 29) fl_X3_9 dX3_allAtStanding_26 rfl rfl rfl ?_
      refine g_iload_n (n := 30) dX3_allAtStanding_29 rfl rfl ?_
      refine g_ialdN (n := 31) dX3_allAtStanding_30 rfl rfl (by decide) (by omega) ?_
      refine g_cutVi (ps := [7, 8, 9, 10]) (w' := [_, _, _, _, _, _, _, _, _, _, _]) (n := 34) cv_X3_63 (t_X3_hasFallen l _ _) dX3_allAtStanding_31 rfl rfl rfl ⟨by decide, by decide, rfl, rfl, hz.1, hz.2⟩ rfl rfl rfl (Nat.le_of_ble_eq_true rfl) rfl rfl rfl ?_
      refine g_if_eq (tgt := 39) (n := 37) dX3_allAtStanding_34 (by decide) rfl (fun c34 => ?_) (fun c34 => ?_)
      ·
        have e1 : asN S set (f + 1) = true := by rw [asN, ht, a1, bI_0.mp c34]; rfl
        refine g_iincN (k := 1) (n := 42) dX3_allAtStanding_39 rfl (by decide) rfl rfl ?_
        refine g_lsN (ls' := [_, _, _, _]) rfl ?_
        refine g_goto (tgt := 2) dX3_allAtStanding_42 (by decide) ?_
        exact ih e1
      ·
        have e1 : asN S set (f + 1) = false := by rw [asN, ht, a1, bI_n0.mp c34]; rfl
        rw [asN_f e1 _ hf] at hQ
        refine g_iconst (v := nI 0) (n := 38) dX3_allAtStanding_37 (by decide) rfl ?_
        exact g_iret (ty := .boolean) dX3_allAtStanding_38 rfl (by first | exact bI_nar _ | decide) hz hQ
set_option maxRecDepth 20000 in
theorem t_X3_allAtStanding (l : Launch) (V : WT) (hV : okV V) (dn : Int32) (fb : Nat → Int32) (S : ST) (set : Int32) : Fn l M_X3_allAtStanding [.ref 7, .ref 0, .int set] (ws V dn fb S) (some (.int (bI (asN S set (vnf V))))) (ws V dn fb S) := by
  refine con_of rfl rfl (Nat.le_of_ble_eq_true rfl) ?_
  refine g_lsN (ls' := [_, _, _, _]) rfl ?_
  refine g_iconst (v := nI 0) (n := 1) dX3_allAtStanding_0 (by decide) rfl ?_
  refine g_istore_n (n := 2) dX3_allAtStanding_1 (by decide) rfl rfl ?_
  refine g_lsN (ls' := [_, _, _, _]) rfl ?_
  exact lp_X3_allAtStanding l _ ⟨Nat.zero_le _, Nat.zero_le _⟩ _ V hV dn fb S set ⟨rfl, rfl⟩ 0 (Nat.zero_le _) rfl
theorem near_eq (x : Int32) (h : ∃ a b : Nat, a < 64 ∧ b < 64 ∧ x = nI a - nI b) : decide ((if 0 ≤ x then x else 0 - x) ≤ nI 1) = inB x (-1) (nI 1) := by
  obtain ⟨a, b, ha, hb, rfl⟩ := h
  exact (by decide +kernel : ∀ a, a < 64 → ∀ b, b < 64 → decide ((if 0 ≤ nI a - nI b then nI a - nI b else 0 - (nI a - nI b)) ≤ nI 1) = inB (nI a - nI b) (-1) (nI 1)) a ha b hb
/-- every buttress is at a bay that there is -/
def okB (V : WT) (S : ST) : Prop := ∀ f, f < vnf V → ∃ b : Nat, b < vnb V ∧ sbo S f = nI b
theorem alN_f {V : WT} {S : ST} {f g : Nat} (h : alN V S f g = false) : ∀ k, g ≤ k → alN V S f k = false := by
  intro k hk
  induction k with
  | zero => rw [← h, show g = 0 by omega]
  | succ k ih =>
    rcases Nat.lt_or_ge k g with q | q
    · rw [← h, show g = k + 1 by omega]
    · rw [alN, ih q, Bool.false_and]
set_option maxRecDepth 20000 in
theorem lp_X0_isAlone (l : Launch) (z : Nat × Nat × Nat) (hz : z.2.1 ≤ 0 ∧ z.2.2 ≤ 0) (Q : Option Value → List va_E → Prop) (V : WT) (hV : okV V) (dn : Int32) (fb : Nat → Int32) (S : ST) (hB : okB V S) (f : Nat) (hf : f < vnf V) (hQ : Q (some (.int (bI (alF V S f)))) (ws V dn fb S)) : ∀ g, g ≤ vnf V → alN V S f g = true → ∀ (o4 : Option Value), G l M_X0_isAlone z Q 2 [some (.ref 0), some (.ref 7), some (.int (nI f)), some (.int (nI g)), o4] [] (ws V dn fb S) := by
  have hV1 := hV.1
  have hV2 := hV.2.1
  have hV3 := hV.2.2
  refine loopN (vnf V) ?_ (fun g hg ih => ?_)
  ·
    intro ht o4
    have e9 : alF V S f = true := ht
    rw [e9] at hQ
    refine g_iload_n (n := 3) dX0_isAlone_2 rfl rfl ?_
    refine g_aload_n (n := 4) dX0_isAlone_3 rfl rfl ?_
    refine g_get (n := 7) fl_X0_46 dX0_isAlone_4 rfl rfl rfl ?_
    refine g_icmp_ge (tgt := 69) (n := 10) dX0_isAlone_7 (by decide) rfl (fun c7 => ?_) (fun c7 => absurd (nI_le (Nat.le_refl _) (by omega)) c7)
    refine g_iconst (v := nI 1) (n := 70) dX0_isAlone_69 (by decide) rfl ?_
    exact g_iret (ty := .boolean) dX0_isAlone_70 rfl (by first | exact bI_nar _ | decide) hz hQ
  ·
    intro ht o4
    obtain ⟨ba, hba, eba⟩ := hB g hg
    obtain ⟨bb, hbb, ebb⟩ := hB f hf
    have hnr : decide ((if 0 ≤ sbo S g - sbo S f then sbo S g - sbo S f else 0 - (sbo S g - sbo S f)) ≤ nI 1) = inB (sbo S g - sbo S f) (-1) (nI 1) := near_eq _ ⟨ba, bb, by omega, by omega, by rw [eba, ebb]⟩
    refine g_iload_n (n := 3) dX0_isAlone_2 rfl rfl ?_
    refine g_aload_n (n := 4) dX0_isAlone_3 rfl rfl ?_
    refine g_get (n := 7) fl_X0_46 dX0_isAlone_4 rfl rfl rfl ?_
    refine g_icmp_ge (tgt := 69) (n := 10) dX0_isAlone_7 (by decide) rfl (fun c7 => absurd c7 (nI_ge hg (by omega))) (fun c7 => ?_)
    refine g_iload_n (n := 11) dX0_isAlone_10 rfl rfl ?_
    refine g_bipush (v := nI 6) (n := 13) dX0_isAlone_11 (by decide) rfl ?_
    refine g_icmp_ge (tgt := 69) (n := 16) dX0_isAlone_13 (by decide) rfl (fun c13 => absurd c13 (nI_ge (show g < 6 by omega) (by decide))) (fun c13 => ?_)
    refine g_aload_n (n := 17) dX0_isAlone_16 rfl rfl ?_
    refine g_get (n := 20) fl_X0_49 dX0_isAlone_17 rfl rfl rfl ?_
    refine g_iload_n (n := 21) dX0_isAlone_20 rfl rfl ?_
    refine g_ialdN (n := 22) dX0_isAlone_21 rfl rfl (by decide) (by omega) ?_
    refine g_aload_n (n := 23) dX0_isAlone_22 rfl rfl ?_
    refine g_get (n := 26) fl_X0_49 dX0_isAlone_23 rfl rfl rfl ?_
    refine g_iload_n (n := 27) dX0_isAlone_26 rfl rfl ?_
    refine g_ialdN (n := 28) dX0_isAlone_27 rfl rfl (by decide) (by omega) ?_
    refine g_isub (n := 29) dX0_isAlone_28 rfl ?_
    refine g_mabs (n := 32) dX0_isAlone_29 lk_X0_108 lw_abs lw_math lc_abs (by decide) (Nat.le_of_ble_eq_true rfl) hz rfl ?_
    refine g_iconst (v := nI 1) (n := 33) dX0_isAlone_32 (by decide) rfl ?_
    refine g_icmp_gt (tgt := 40) (n := 36) dX0_isAlone_33 (by decide) rfl (fun c33 => ?_) (fun c33 => ?_)
    ·
      have hN : inB (sbo S g - sbo S f) (-1) (nI 1) = false := by rw [← hnr]; exact decide_eq_false (Int32.not_le.mpr c33)
      refine g_iconst (v := nI 0) (n := 41) dX0_isAlone_40 (by decide) rfl ?_
      refine g_istore (n := 43) dX0_isAlone_41 (by decide) rfl rfl ?_
      refine g_lsN (ls' := [_, _, _, _, _]) rfl ?_
      refine g_iload_n (n := 44) dX0_isAlone_43 rfl rfl ?_
      refine g_iload_n (n := 45) dX0_isAlone_44 rfl rfl ?_
      refine g_icmp_eq (tgt := 63) (n := 48) dX0_isAlone_45 (by decide) rfl (fun c45 => ?_) (fun c45 => ?_)
      ·
        have e1 : alN V S f (g + 1) = true := by rw [alN, ht, decide_eq_true ((nI_eq (by omega) (by omega)).mp c45)]; rfl
        refine g_iincN (k := 1) (n := 66) dX0_isAlone_63 rfl (by decide) rfl rfl ?_
        refine g_lsN (ls' := [_, _, _, _, _]) rfl ?_
        refine g_goto (tgt := 2) dX0_isAlone_66 (by decide) ?_
        exact ih e1 _
      ·
        have a2 : ¬ g = f := fun q => c45 (by rw [q])
        refine g_aload_n (n := 49) dX0_isAlone_48 rfl rfl ?_
        refine g_iload_n (n := 50) dX0_isAlone_49 rfl rfl ?_
        refine g_cutVi (ps := [7, 8, 9, 10]) (w' := [_, _, _, _, _, _, _, _, _, _, _]) (n := 53) cv_X0_52 (t_X3_isUp l _ _) dX0_isAlone_50 rfl rfl rfl ⟨by decide, by decide, rfl, rfl, hz.1, hz.2⟩ rfl rfl rfl (Nat.le_of_ble_eq_true rfl) rfl rfl rfl ?_
        refine g_if_eq (tgt := 63) (n := 56) dX0_isAlone_53 (by decide) rfl (fun c53 => ?_) (fun c53 => ?_)
        ·
          have e1 : alN V S f (g + 1) = true := by rw [alN, ht, decide_eq_false a2, bI_0.mp c53]; rfl
          refine g_iincN (k := 1) (n := 66) dX0_isAlone_63 rfl (by decide) rfl rfl ?_
          refine g_lsN (ls' := [_, _, _, _, _]) rfl ?_
          refine g_goto (tgt := 2) dX0_isAlone_66 (by decide) ?_
          exact ih e1 _
        ·
          have a3 := bI_n0.mp c53
          refine g_iload (n := 58) dX0_isAlone_56 rfl rfl ?_
          refine g_if_eq (tgt := 63) (n := 61) dX0_isAlone_58 (by decide) rfl (fun c58 => ?_) (fun c58 => absurd (by decide) c58)
          have e1 : alN V S f (g + 1) = true := by rw [alN, ht, decide_eq_false a2, a3, hN]; rfl
          refine g_iincN (k := 1) (n := 66) dX0_isAlone_63 rfl (by decide) rfl rfl ?_
          refine g_lsN (ls' := [_, _, _, _, _]) rfl ?_
          refine g_goto (tgt := 2) dX0_isAlone_66 (by decide) ?_
          exact ih e1 _
    ·
      have hN : inB (sbo S g - sbo S f) (-1) (nI 1) = true := by rw [← hnr]; exact decide_eq_true (Int32.not_lt.mp c33)
      refine g_iconst (v := nI 1) (n := 37) dX0_isAlone_36 (by decide) rfl ?_
      refine g_goto (tgt := 41) dX0_isAlone_37 (by decide) ?_
      refine g_istore (n := 43) dX0_isAlone_41 (by decide) rfl rfl ?_
      refine g_lsN (ls' := [_, _, _, _, _]) rfl ?_
      refine g_iload_n (n := 44) dX0_isAlone_43 rfl rfl ?_
      refine g_iload_n (n := 45) dX0_isAlone_44 rfl rfl ?_
      refine g_icmp_eq (tgt := 63) (n := 48) dX0_isAlone_45 (by decide) rfl (fun c45 => ?_) (fun c45 => ?_)
      ·
        have e1 : alN V S f (g + 1) = true := by rw [alN, ht, decide_eq_true ((nI_eq (by omega) (by omega)).mp c45)]; rfl
        refine g_iincN (k := 1) (n := 66) dX0_isAlone_63 rfl (by decide) rfl rfl ?_
        refine g_lsN (ls' := [_, _, _, _, _]) rfl ?_
        refine g_goto (tgt := 2) dX0_isAlone_66 (by decide) ?_
        exact ih e1 _
      ·
        have a2 : ¬ g = f := fun q => c45 (by rw [q])
        refine g_aload_n (n := 49) dX0_isAlone_48 rfl rfl ?_
        refine g_iload_n (n := 50) dX0_isAlone_49 rfl rfl ?_
        refine g_cutVi (ps := [7, 8, 9, 10]) (w' := [_, _, _, _, _, _, _, _, _, _, _]) (n := 53) cv_X0_52 (t_X3_isUp l _ _) dX0_isAlone_50 rfl rfl rfl ⟨by decide, by decide, rfl, rfl, hz.1, hz.2⟩ rfl rfl rfl (Nat.le_of_ble_eq_true rfl) rfl rfl rfl ?_
        refine g_if_eq (tgt := 63) (n := 56) dX0_isAlone_53 (by decide) rfl (fun c53 => ?_) (fun c53 => ?_)
        ·
          have e1 : alN V S f (g + 1) = true := by rw [alN, ht, decide_eq_false a2, bI_0.mp c53]; rfl
          refine g_iincN (k := 1) (n := 66) dX0_isAlone_63 rfl (by decide) rfl rfl ?_
          refine g_lsN (ls' := [_, _, _, _, _]) rfl ?_
          refine g_goto (tgt := 2) dX0_isAlone_66 (by decide) ?_
          exact ih e1 _
        ·
          have a3 := bI_n0.mp c53
          refine g_iload (n := 58) dX0_isAlone_56 rfl rfl ?_
          refine g_if_eq (tgt := 63) (n := 61) dX0_isAlone_58 (by decide) rfl (fun c58 => absurd c58 (by decide)) (fun c58 => ?_)
          have e1 : alN V S f (g + 1) = false := by rw [alN, ht, decide_eq_false a2, a3, hN]; rfl
          have e9 : alF V S f = false := alN_f e1 _ hg
          rw [e9] at hQ
          refine g_iconst (v := nI 0) (n := 62) dX0_isAlone_61 (by decide) rfl ?_
          exact g_iret (ty := .boolean) dX0_isAlone_62 rfl (by first | exact bI_nar _ | decide) hz hQ
set_option maxRecDepth 20000 in
theorem t_X0_isAlone (l : Launch) (V : WT) (hV : okV V) (dn : Int32) (fb : Nat → Int32) (S : ST) (hB : okB V S) (f : Nat) (hf : f < vnf V) : Fn l M_X0_isAlone [.ref 0, .ref 7, .int (nI f)] (ws V dn fb S) (some (.int (bI (alF V S f)))) (ws V dn fb S) := by
  refine con_of rfl rfl (Nat.le_of_ble_eq_true rfl) ?_
  refine g_lsN (ls' := [_, _, _, _, _]) rfl ?_
  refine g_iconst (v := nI 0) (n := 1) dX0_isAlone_0 (by decide) rfl ?_
  refine g_istore_n (n := 2) dX0_isAlone_1 (by decide) rfl rfl ?_
  refine g_lsN (ls' := [_, _, _, _, _]) rfl ?_
  exact lp_X0_isAlone l _ ⟨Nat.zero_le _, Nat.zero_le _⟩ _ V hV dn fb S hB f hf ⟨rfl, rfl⟩ 0 (Nat.zero_le _) rfl _

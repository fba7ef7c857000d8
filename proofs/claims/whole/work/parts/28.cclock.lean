/-! 28.cclock: the class's clock: what it weighs, an hour -/
theorem upN_m1 (x : Int32) : x &&& (-1) = x := b_ext (fun i hi => by rw [b_and, b_m1 i hi, Bool.and_true])
theorem or_0 (x : Int32) : x ||| nI 0 = x := b_ext (fun i hi => by rw [b_or, show bt (nI 0) i = false from b_0 i, Bool.or_false])

set_option maxRecDepth 20000 in
theorem t_X0_tiring (l : Launch) (V : WT) (hV : okV V) (dn : Int32) (fb : Nat → Int32) (S : ST) (hB : okB V S) (f : Nat) (hf : f < vnf V) : Fn l M_X0_tiring [.ref 0, .ref 7, .int (nI f)] (ws V dn fb S) (some (.int (if hrd V S f then nI 2 else nI 1))) (ws V dn fb S) := by
  have hV1 := hV.1
  have hV2 := hV.2.1
  have hV3 := hV.2.2
  refine con_of rfl rfl (Nat.le_of_ble_eq_true rfl) ?_
  refine g_lsN (ls' := [_, _, _, _]) rfl ?_
  refine g_aload_n (n := 1) dX0_tiring_0 rfl rfl ?_
  refine g_get (n := 4) fl_X0_101 dX0_tiring_1 rfl rfl rfl ?_
  refine g_iload_n (n := 5) dX0_tiring_4 rfl rfl ?_
  refine g_ialdN (n := 6) dX0_tiring_5 rfl rfl (by decide) (by omega) ?_
  refine g_iconst (v := nI 2) (n := 7) dX0_tiring_6 (by decide) rfl ?_
  refine g_icmp_eq (tgt := 29) (n := 10) dX0_tiring_7 (by decide) rfl (fun c7 => ?_) (fun c7 => ?_)
  ·
    have e9 : hrd V S f = true := by unfold hrd; rw [decide_eq_true c7]; rfl
    refine g_iconst (v := nI 1) (n := 30) dX0_tiring_29 (by decide) rfl ?_
    refine g_goto (tgt := 34) dX0_tiring_30 (by decide) ?_
    refine g_istore_n (n := 35) dX0_tiring_34 (by decide) rfl rfl ?_
    refine g_lsN (ls' := [_, _, _, _]) rfl ?_
    refine g_iload_n (n := 36) dX0_tiring_35 rfl rfl ?_
    refine g_if_eq (tgt := 43) (n := 39) dX0_tiring_36 (by decide) rfl (fun c36 => absurd c36 (by decide)) (fun c36 => ?_)
    refine g_iconst (v := nI 2) (n := 40) dX0_tiring_39 (by decide) rfl ?_
    refine g_goto (tgt := 44) dX0_tiring_40 (by decide) ?_
    exact g_iret (ty := .int) dX0_tiring_44 rfl rfl ⟨Nat.zero_le _, Nat.zero_le _⟩ ⟨by rw [e9]; rfl, rfl⟩
  ·
    have a1 := decide_eq_false c7
    refine g_aload_n (n := 11) dX0_tiring_10 rfl rfl ?_
    refine g_get (n := 14) fl_X0_101 dX0_tiring_11 rfl rfl rfl ?_
    refine g_iload_n (n := 15) dX0_tiring_14 rfl rfl ?_
    refine g_ialdN (n := 16) dX0_tiring_15 rfl rfl (by decide) (by omega) ?_
    refine g_iconst (v := nI 1) (n := 17) dX0_tiring_16 (by decide) rfl ?_
    refine g_icmp_ne (tgt := 33) (n := 20) dX0_tiring_17 (by decide) rfl (fun c17 => ?_) (fun c17 => ?_)
    ·
      have e9 : hrd V S f = false := by unfold hrd; rw [a1, decide_eq_false c17]; rfl
      refine g_iconst (v := nI 0) (n := 34) dX0_tiring_33 (by decide) rfl ?_
      refine g_istore_n (n := 35) dX0_tiring_34 (by decide) rfl rfl ?_
      refine g_lsN (ls' := [_, _, _, _]) rfl ?_
      refine g_iload_n (n := 36) dX0_tiring_35 rfl rfl ?_
      refine g_if_eq (tgt := 43) (n := 39) dX0_tiring_36 (by decide) rfl (fun c36 => ?_) (fun c36 => absurd (by decide) c36)
      refine g_iconst (v := nI 1) (n := 44) dX0_tiring_43 (by decide) rfl ?_
      exact g_iret (ty := .int) dX0_tiring_44 rfl rfl ⟨Nat.zero_le _, Nat.zero_le _⟩ ⟨by rw [e9]; rfl, rfl⟩
    ·
      have a2 := decide_eq_true c17
      refine g_aload_n (n := 21) dX0_tiring_20 rfl rfl ?_
      refine g_aload_n (n := 22) dX0_tiring_21 rfl rfl ?_
      refine g_iload_n (n := 23) dX0_tiring_22 rfl rfl ?_
      refine g_cutPi (ps := [0, 1, 2, 3, 4, 5, 6, 7, 8, 9, 10]) (w' := [_, _, _, _, _, _, _, _, _, _, _]) (n := 26) cs_X0_104 (t_X0_isAlone l V hV dn fb S hB f hf) dX0_tiring_23 rfl rfl rfl ⟨by decide, by decide, rfl, rfl, Nat.zero_le _, Nat.zero_le _⟩ rfl (Nat.le_of_ble_eq_true rfl) rfl rfl rfl ?_
      refine g_if_eq (tgt := 33) (n := 29) dX0_tiring_26 (by decide) rfl (fun c26 => ?_) (fun c26 => ?_)
      ·
        have e9 : hrd V S f = false := by unfold hrd; rw [a1, a2, bI_0.mp c26]; rfl
        refine g_iconst (v := nI 0) (n := 34) dX0_tiring_33 (by decide) rfl ?_
        refine g_istore_n (n := 35) dX0_tiring_34 (by decide) rfl rfl ?_
        refine g_lsN (ls' := [_, _, _, _]) rfl ?_
        refine g_iload_n (n := 36) dX0_tiring_35 rfl rfl ?_
        refine g_if_eq (tgt := 43) (n := 39) dX0_tiring_36 (by decide) rfl (fun c36 => ?_) (fun c36 => absurd (by decide) c36)
        refine g_iconst (v := nI 1) (n := 44) dX0_tiring_43 (by decide) rfl ?_
        exact g_iret (ty := .int) dX0_tiring_44 rfl rfl ⟨Nat.zero_le _, Nat.zero_le _⟩ ⟨by rw [e9]; rfl, rfl⟩
      ·
        have e9 : hrd V S f = true := by unfold hrd; rw [a1, a2, bI_n0.mp c26]; rfl
        refine g_iconst (v := nI 1) (n := 30) dX0_tiring_29 (by decide) rfl ?_
        refine g_goto (tgt := 34) dX0_tiring_30 (by decide) ?_
        refine g_istore_n (n := 35) dX0_tiring_34 (by decide) rfl rfl ?_
        refine g_lsN (ls' := [_, _, _, _]) rfl ?_
        refine g_iload_n (n := 36) dX0_tiring_35 rfl rfl ?_
        refine g_if_eq (tgt := 43) (n := 39) dX0_tiring_36 (by decide) rfl (fun c36 => absurd c36 (by decide)) (fun c36 => ?_)
        refine g_iconst (v := nI 2) (n := 40) dX0_tiring_39 (by decide) rfl ?_
        refine g_goto (tgt := 44) dX0_tiring_40 (by decide) ?_
        exact g_iret (ty := .int) dX0_tiring_44 rfl rfl ⟨Nat.zero_le _, Nat.zero_le _⟩ ⟨by rw [e9]; rfl, rfl⟩
set_option maxRecDepth 20000 in
theorem t_X0_resting (l : Launch) (V : WT) (hV : okV V) (dn : Int32) (fb : Nat → Int32) (f : Nat) (hf : f < vnf V) : Fn l M_X0_resting [.ref 0, .int (nI f)] ([wo V dn 0, a8 (vth V), a8 (vpa V), a6 (vki V), a6 (vsg V), a6 fb, a6 (vkn V)]) (some (.int (if vki V f = nI 2 then nI 1 else nI 2))) ([wo V dn 0, a8 (vth V), a8 (vpa V), a6 (vki V), a6 (vsg V), a6 fb, a6 (vkn V)]) := by
  have hV1 := hV.1
  have hV2 := hV.2.1
  have hV3 := hV.2.2
  refine con_of rfl rfl (Nat.le_of_ble_eq_true rfl) ?_
  refine g_lsN (ls' := [_, _]) rfl ?_
  refine g_aload_n (n := 1) dX0_resting_0 rfl rfl ?_
  refine g_get (n := 4) fl_X0_101 dX0_resting_1 rfl rfl rfl ?_
  refine g_iload_n (n := 5) dX0_resting_4 rfl rfl ?_
  refine g_ialdN (n := 6) dX0_resting_5 rfl rfl (by decide) (by omega) ?_
  refine g_iconst (v := nI 2) (n := 7) dX0_resting_6 (by decide) rfl ?_
  refine g_icmp_ne (tgt := 14) (n := 10) dX0_resting_7 (by decide) rfl (fun c7 => ?_) (fun c7 => ?_)
  ·
    have e9 := c7
    refine g_iconst (v := nI 2) (n := 15) dX0_resting_14 (by decide) rfl ?_
    exact g_iret (ty := .int) dX0_resting_15 rfl rfl ⟨Nat.zero_le _, Nat.zero_le _⟩ ⟨by first | rw [if_pos e9] | rw [if_neg e9], rfl⟩
  ·
    have e9 := c7
    refine g_iconst (v := nI 1) (n := 11) dX0_resting_10 (by decide) rfl ?_
    refine g_goto (tgt := 15) dX0_resting_11 (by decide) ?_
    exact g_iret (ty := .int) dX0_resting_15 rfl rfl ⟨Nat.zero_le _, Nat.zero_le _⟩ ⟨by first | rw [if_pos e9] | rw [if_neg e9], rfl⟩
def thI (V : WT) (S : ST) (x : Int32) : Int32 := if isB (vnb V) x && hb (sfa S) x then vth V x.toNatClampNeg / nI 2 else nI 0
theorem thI_f {V : WT} {S : ST} {x : Int32} (h : (isB (vnb V) x && hb (sfa S) x) = false) : thI V S x = nI 0 := by unfold thI; rw [h]; rfl
theorem thI_w {V : WT} {S : ST} (hV : okV V) {b : Nat} (hb_ : b < vnb V) : thI V S (nI b - nI 1) = if decide (0 < b) && hb (sfa S) (nI (b - 1)) then vth V (b - 1) / nI 2 else nI 0 := by
  have h8 := hV.1
  rcases Nat.eq_zero_or_pos b with h | h
  · subst h
    rw [thI_f (by rw [isB_f1 (by decide)]; rfl)]
    rfl
  · rw [pk_sub (show 1 ≤ b by omega), decide_eq_true h, Bool.true_and]
    unfold thI
    rw [isB_nI (by omega) (by omega), decide_eq_true (show b - 1 < vnb V by omega), Bool.true_and, nI_clamp (by omega)]
theorem thI_e {V : WT} {S : ST} (hV : okV V) {b : Nat} (hb_ : b < vnb V) : thI V S (nI (b + 1)) = if decide (b + 1 < vnb V) && hb (sfa S) (nI (b + 1)) then vth V (b + 1) / nI 2 else nI 0 := by
  have h8 := hV.1
  unfold thI
  rw [isB_nI (by omega) (by omega), nI_clamp (by omega)]
set_option maxRecDepth 20000 in
theorem t_X0_thrown (l : Launch) (V : WT) (hV : okV V) (dn : Int32) (fb : Nat → Int32) (S : ST) (x : Int32) : Fn l M_X0_thrown [.ref 0, .ref 7, .int x] (ws V dn fb S) (some (.int (thI V S x))) (ws V dn fb S) := by
  have hV1 := hV.1
  have hV2 := hV.2.1
  have hV3 := hV.2.2
  refine con_of rfl rfl (Nat.le_of_ble_eq_true rfl) ?_
  refine g_lsN (ls' := [_, _, _]) rfl ?_
  refine g_aload_n (n := 1) dX0_thrown_0 rfl rfl ?_
  refine g_iload_n (n := 2) dX0_thrown_1 rfl rfl ?_
  refine g_cutVi (ps := [0, 1, 2, 3, 4, 5, 6]) (w' := [_, _, _, _, _, _, _, _, _, _, _]) (n := 5) cv_X0_56 (t_X7_hasBay l V hV dn _) dX0_thrown_2 rfl rfl rfl ⟨by decide, by decide, rfl, rfl, Nat.zero_le _, Nat.zero_le _⟩ rfl rfl rfl (Nat.le_of_ble_eq_true rfl) rfl rfl rfl ?_
  refine g_if_eq (tgt := 27) (n := 8) dX0_thrown_5 (by decide) rfl (fun c5 => ?_) (fun c5 => ?_)
  ·
    have e9 := thI_f (V := V) (S := S) (x := x) (by rw [bI_0.mp c5]; rfl)
    refine g_iconst (v := nI 0) (n := 28) dX0_thrown_27 (by decide) rfl ?_
    exact g_iret (ty := .int) dX0_thrown_28 rfl rfl ⟨Nat.zero_le _, Nat.zero_le _⟩ ⟨by rw [e9] <;> first | rfl | rw [nI_clamp (by omega)], rfl⟩
  ·
    have a1 := bI_n0.mp c5
    obtain ⟨b, hb_, rfl⟩ := isB_t (by omega) a1
    refine g_aload_n (n := 9) dX0_thrown_8 rfl rfl ?_
    refine g_iload_n (n := 10) dX0_thrown_9 rfl rfl ?_
    refine g_cutVi (ps := [7, 8, 9, 10]) (w' := [_, _, _, _, _, _, _, _, _, _, _]) (n := 13) cv_X0_62 (t_X3_hasFallen l _ _) dX0_thrown_10 rfl rfl rfl ⟨by decide, by decide, rfl, rfl, Nat.zero_le _, Nat.zero_le _⟩ rfl rfl rfl (Nat.le_of_ble_eq_true rfl) rfl rfl rfl ?_
    refine g_if_eq (tgt := 27) (n := 16) dX0_thrown_13 (by decide) rfl (fun c13 => ?_) (fun c13 => ?_)
    ·
      have e9 := thI_f (V := V) (S := S) (x := nI b) (by rw [bI_0.mp c13, Bool.and_false])
      refine g_iconst (v := nI 0) (n := 28) dX0_thrown_27 (by decide) rfl ?_
      exact g_iret (ty := .int) dX0_thrown_28 rfl rfl ⟨Nat.zero_le _, Nat.zero_le _⟩ ⟨by rw [e9] <;> first | rfl | rw [nI_clamp (by omega)], rfl⟩
    ·
      have e9 : thI V S (nI b) = vth V b / nI 2 := by unfold thI; rw [a1, bI_n0.mp c13, nI_clamp (by omega)]; rfl
      refine g_aload_n (n := 17) dX0_thrown_16 rfl rfl ?_
      refine g_get (n := 20) fl_X0_31 dX0_thrown_17 rfl rfl rfl ?_
      refine g_iload_n (n := 21) dX0_thrown_20 rfl rfl ?_
      refine g_iald (n := 22) dX0_thrown_21 rfl (vp_in_nI (show b < 8 by omega) (by decide)) rfl ?_
      refine g_iconst (v := nI 2) (n := 23) dX0_thrown_22 (by decide) rfl ?_
      refine g_idiv (n := 24) dX0_thrown_23 (by decide) rfl ?_
      refine g_goto (tgt := 28) dX0_thrown_24 (by decide) ?_
      exact g_iret (ty := .int) dX0_thrown_28 rfl rfl ⟨Nat.zero_le _, Nat.zero_le _⟩ ⟨by rw [e9] <;> first | rfl | rw [nI_clamp (by omega)], rfl⟩
abbrev co (k : Nat) : va_E := .inr (0, [.ref (k + 1), .ref (k + 2), .ref (k + 3)])
abbrev cws (ra lo pr : Nat → Int32) (V : WT) (dn : Int32) (fb : Nat → Int32) (S : ST) : List va_E := [co 0, a8 ra, a8 lo, a8 pr, wo V dn 4, a8 (vth V), a8 (vpa V), a6 (vki V), a6 (vsg V), a6 fb, a6 (vkn V), so S 11, a6 (sbo S), a6 (sti S), a8 (sun S)]
theorem srN_other {V : WT} {S : ST} {b f : Nat} (h : (hb (sup S) (nI f) && decide (sbo S f = nI b)) = false) : srN V S b (f + 1) = srN V S b f := by
  rw [srN, h]
  exact Int32.add_zero _
theorem ra_step {V : WT} {S : ST} {ra : Nat → Int32} {f j : Nat} (hj : j < 8) (hu : hb (sup S) (nI f) = true) (hs : sbo S f = nI j) : upd (mix (fun b => srN V S b f) ra 8) j (srN V S j f + vsg V f) = mix (fun b => srN V S b (f + 1)) ra 8 := by
  funext b
  unfold upd mix
  by_cases h : b = j
  · subst h
    rw [if_pos rfl, if_pos hj]
    show _ = srN V S b (f + 1)
    rw [srN, hu, decide_eq_true hs]
    rfl
  · rw [if_neg h]
    by_cases h8 : b < 8
    · rw [if_pos h8, if_pos h8]
      show srN V S b f = srN V S b (f + 1)
      rw [srN_other]
      rw [hs, decide_eq_false (fun q => h ((nI_eq (by omega) (by omega)).mp q).symm), Bool.and_false]
    · rw [if_neg h8, if_neg h8]
theorem ra_same {V : WT} {S : ST} {ra : Nat → Int32} {f : Nat} (hu : hb (sup S) (nI f) = false) : mix (fun b => srN V S b (f + 1)) ra 8 = mix (fun b => srN V S b f) ra 8 := by
  funext b
  unfold mix
  by_cases h8 : b < 8
  · rw [if_pos h8, if_pos h8]
    show srN V S b (f + 1) = srN V S b f
    rw [srN_other (by rw [hu]; rfl)]
  · rw [if_neg h8, if_neg h8]
set_option maxRecDepth 20000 in
theorem lp2_X0_weighRaised (l : Launch) (z : Nat × Nat × Nat) (hz : z.2.1 ≤ 0 ∧ z.2.2 ≤ 0) (Q : Option Value → List va_E → Prop) (ra lo pr : Nat → Int32) (V : WT) (hV : okV V) (dn : Int32) (fb : Nat → Int32) (S : ST) (hB : okB V S) (hQ : Q none (cws (mix (fun b => srN V S b (vnf V)) ra 8) lo pr V dn fb S)) : ∀ f, f ≤ vnf V → ∀ (o4 : Option Value), G l M_X0_weighRaised z Q 23 [some (.ref 0), some (.ref 4), some (.ref 11), some (.int (nI f)), o4] [] (cws (mix (fun b => srN V S b f) ra 8) lo pr V dn fb S) := by
  have hV1 := hV.1
  have hV2 := hV.2.1
  have hV3 := hV.2.2
  refine loopN (vnf V) ?_ (fun f hf ih => ?_)
  ·
    intro o4
    refine g_iload_n (n := 24) dX0_weighRaised_23 rfl rfl ?_
    refine g_aload_n (n := 25) dX0_weighRaised_24 rfl rfl ?_
    refine g_get (n := 28) fl_X0_46 dX0_weighRaised_25 rfl rfl rfl ?_
    refine g_icmp_ge (tgt := 84) (n := 31) dX0_weighRaised_28 (by decide) rfl (fun c28 => ?_) (fun c28 => absurd (nI_le (Nat.le_refl _) (by omega)) c28)
    exact g_vret dX0_weighRaised_84 rfl hz hQ
  ·
    intro o4
    obtain ⟨j, hj, ej⟩ := hB f hf
    refine g_iload_n (n := 24) dX0_weighRaised_23 rfl rfl ?_
    refine g_aload_n (n := 25) dX0_weighRaised_24 rfl rfl ?_
    refine g_get (n := 28) fl_X0_46 dX0_weighRaised_25 rfl rfl rfl ?_
    refine g_icmp_ge (tgt := 84) (n := 31) dX0_weighRaised_28 (by decide) rfl (fun c28 => absurd c28 (nI_ge hf (by omega))) (fun c28 => ?_)
    refine g_iload_n (n := 32) dX0_weighRaised_31 rfl rfl ?_
    refine g_bipush (v := nI 6) (n := 34) dX0_weighRaised_32 (by decide) rfl ?_
    refine g_icmp_ge (tgt := 84) (n := 37) dX0_weighRaised_34 (by decide) rfl (fun c34 => absurd c34 (nI_ge (show f < 6 by omega) (by decide))) (fun c34 => ?_)
    refine g_aload_n (n := 38) dX0_weighRaised_37 rfl rfl ?_
    refine g_get (n := 41) fl_X0_49 dX0_weighRaised_38 rfl rfl rfl ?_
    refine g_iload_n (n := 42) dX0_weighRaised_41 rfl rfl ?_
    refine g_ialdN (n := 43) dX0_weighRaised_42 rfl rfl (by decide) (by omega) ?_
    refine g_top ej ?_
    refine g_istore (n := 45) dX0_weighRaised_43 (by decide) rfl rfl ?_
    refine g_lsN (ls' := [_, _, _, _, _]) rfl ?_
    refine g_aload_n (n := 46) dX0_weighRaised_45 rfl rfl ?_
    refine g_iload_n (n := 47) dX0_weighRaised_46 rfl rfl ?_
    refine g_cutVi (ps := [11, 12, 13, 14]) (w' := [_, _, _, _, _, _, _, _, _, _, _, _, _, _, _]) (n := 50) cv_X0_52 (t_X3_isUp l _ _) dX0_weighRaised_47 rfl rfl rfl ⟨by decide, by decide, rfl, rfl, hz.1, hz.2⟩ rfl rfl rfl (Nat.le_of_ble_eq_true rfl) rfl rfl rfl ?_
    refine g_if_eq (tgt := 78) (n := 53) dX0_weighRaised_50 (by decide) rfl (fun c50 => ?_) (fun c50 => ?_)
    ·
      rw [ra_same (bI_0.mp c50)] at ih
      refine g_iincN (k := 1) (n := 81) dX0_weighRaised_78 rfl (by decide) rfl rfl ?_
      refine g_lsN (ls' := [_, _, _, _, _]) rfl ?_
      refine g_goto (tgt := 23) dX0_weighRaised_81 (by decide) ?_
      exact ih _
    ·
      rw [← ra_step (by omega) (bI_n0.mp c50) ej] at ih
      refine g_aload_n (n := 54) dX0_weighRaised_53 rfl rfl ?_
      refine g_iload (n := 56) dX0_weighRaised_54 rfl rfl ?_
      refine g_cutVi (ps := [4, 5, 6, 7, 8, 9, 10]) (w' := [_, _, _, _, _, _, _, _, _, _, _, _, _, _, _]) (n := 59) cv_X0_56 (t_X7_hasBay l V hV dn _) dX0_weighRaised_56 rfl rfl rfl ⟨by decide, by decide, rfl, rfl, hz.1, hz.2⟩ rfl rfl rfl (Nat.le_of_ble_eq_true rfl) rfl rfl rfl ?_
      refine g_if_eq (tgt := 78) (n := 62) dX0_weighRaised_59 (by decide) rfl (fun c59 => absurd c59 (bI_n0.mpr (show isB (vnb V) (nI j) = true by rw [isB_nI (by omega) (by omega)]; exact decide_eq_true hj))) (fun c59 => ?_)
      refine g_aload_n (n := 63) dX0_weighRaised_62 rfl rfl ?_
      refine g_get (n := 66) fl_X0_9 dX0_weighRaised_63 rfl rfl rfl ?_
      refine g_iload (n := 68) dX0_weighRaised_66 rfl rfl ?_
      refine g_dup2 (n := 69) dX0_weighRaised_68 rfl rfl rfl ?_
      refine g_ialdN (n := 70) dX0_weighRaised_69 rfl rfl (by decide) (by omega) ?_
      refine g_top (y := srN V S j f) (by show mix _ _ _ _ = _; unfold mix; rw [if_pos (by omega)]) ?_
      refine g_aload_n (n := 71) dX0_weighRaised_70 rfl rfl ?_
      refine g_get (n := 74) fl_X0_59 dX0_weighRaised_71 rfl rfl rfl ?_
      refine g_iload_n (n := 75) dX0_weighRaised_74 rfl rfl ?_
      refine g_ialdN (n := 76) dX0_weighRaised_75 rfl rfl (by decide) (by omega) ?_
      refine g_iadd (n := 77) dX0_weighRaised_76 rfl ?_
      refine g_iastN (n := 78) dX0_weighRaised_77 rfl rfl (by decide) (by omega) ?_
      refine g_wN (w' := [_, _, _, _, _, _, _, _, _, _, _, _, _, _, _]) rfl ?_
      refine g_iincN (k := 1) (n := 81) dX0_weighRaised_78 rfl (by decide) rfl rfl ?_
      refine g_lsN (ls' := [_, _, _, _, _]) rfl ?_
      refine g_goto (tgt := 23) dX0_weighRaised_81 (by decide) ?_
      exact ih _
set_option maxRecDepth 20000 in
theorem lp1_X0_weighRaised (l : Launch) (z : Nat × Nat × Nat) (hz : z.2.1 ≤ 0 ∧ z.2.2 ≤ 0) (Q : Option Value → List va_E → Prop) (ra lo pr : Nat → Int32) (V : WT) (hV : okV V) (dn : Int32) (fb : Nat → Int32) (S : ST) (hB : okB V S) (hQ : Q none (cws (mix (fun b => srN V S b (vnf V)) ra 8) lo pr V dn fb S)) : ∀ b, b ≤ 8 → G l M_X0_weighRaised z Q 2 [some (.ref 0), some (.ref 4), some (.ref 11), some (.int (nI b)), none] [] (cws (mix (fun _ => nI 0) ra b) lo pr V dn fb S) := by
  have hV1 := hV.1
  have hV2 := hV.2.1
  have hV3 := hV.2.2
  refine loopN (8) ?_ (fun b hb ih => ?_)
  ·
    refine g_iload_n (n := 3) dX0_weighRaised_2 rfl rfl ?_
    refine g_bipush (v := nI 8) (n := 5) dX0_weighRaised_3 (by decide) rfl ?_
    refine g_icmp_ge (tgt := 21) (n := 8) dX0_weighRaised_5 (by decide) rfl (fun c5 => ?_) (fun c5 => absurd (nI_le (Nat.le_refl _) (by decide)) c5)
    refine g_iconst (v := nI 0) (n := 22) dX0_weighRaised_21 (by decide) rfl ?_
    refine g_istore_n (n := 23) dX0_weighRaised_22 (by decide) rfl rfl ?_
    refine g_lsN (ls' := [_, _, _, _, _]) rfl ?_
    exact lp2_X0_weighRaised l z hz Q ra lo pr V hV dn fb S hB hQ 0 (Nat.zero_le _) _
  ·
    refine g_iload_n (n := 3) dX0_weighRaised_2 rfl rfl ?_
    refine g_bipush (v := nI 8) (n := 5) dX0_weighRaised_3 (by decide) rfl ?_
    refine g_icmp_ge (tgt := 21) (n := 8) dX0_weighRaised_5 (by decide) rfl (fun c5 => absurd c5 (nI_ge hb (by decide))) (fun c5 => ?_)
    refine g_aload_n (n := 9) dX0_weighRaised_8 rfl rfl ?_
    refine g_get (n := 12) fl_X0_9 dX0_weighRaised_9 rfl rfl rfl ?_
    refine g_iload_n (n := 13) dX0_weighRaised_12 rfl rfl ?_
    refine g_iconst (v := nI 0) (n := 14) dX0_weighRaised_13 (by decide) rfl ?_
    refine g_iastN (n := 15) dX0_weighRaised_14 rfl rfl (by decide) (by omega) ?_
    refine g_wN (w' := [_, _, _, _, _, _, _, _, _, _, _, _, _, _, _]) rfl ?_
    rw [mix_s (fun _ => nI 0) ra b]
    refine g_iincN (k := 1) (n := 18) dX0_weighRaised_15 rfl (by decide) rfl rfl ?_
    refine g_lsN (ls' := [_, _, _, _, _]) rfl ?_
    refine g_goto (tgt := 2) dX0_weighRaised_18 (by decide) ?_
    exact ih
set_option maxRecDepth 20000 in
theorem t_X0_weighRaised (l : Launch) (ra lo pr : Nat → Int32) (V : WT) (hV : okV V) (dn : Int32) (fb : Nat → Int32) (S : ST) (hB : okB V S) : Fn l M_X0_weighRaised [.ref 0, .ref 4, .ref 11] (cws ra lo pr V dn fb S) none (cws (mix (fun b => srN V S b (vnf V)) ra 8) lo pr V dn fb S) := by
  refine con_of rfl rfl (Nat.le_of_ble_eq_true rfl) ?_
  refine g_lsN (ls' := [_, _, _, _, _]) rfl ?_
  refine g_iconst (v := nI 0) (n := 1) dX0_weighRaised_0 (by decide) rfl ?_
  refine g_istore_n (n := 2) dX0_weighRaised_1 (by decide) rfl rfl ?_
  refine g_lsN (ls' := [_, _, _, _, _]) rfl ?_
  refine g_wN (w' := cws (mix (fun _ => nI 0) ra 0) lo pr V dn fb S) (by rw [mix_0]) ?_
  exact lp1_X0_weighRaised l _ ⟨Nat.zero_le _, Nat.zero_le _⟩ _ ra lo pr V hV dn fb S hB ⟨rfl, rfl⟩ 0 (Nat.zero_le _)
theorem lent_eq (d : Int32) : (if nI 0 < d then d else nI 0) / nI 2 = if d ≤ 0 then nI 0 else d / nI 2 := by
  by_cases h : d ≤ 0
  · rw [if_pos h, if_neg (show ¬ nI 0 < d from Int32.not_lt.mpr h)]
    decide
  · rw [if_neg h, if_pos (show nI 0 < d from Int32.not_le.mp h)]
set_option maxRecDepth 20000 in
theorem t_X0_lent (l : Launch) (ra lo pr : Nat → Int32) (V : WT) (hV : okV V) (dn : Int32) (fb : Nat → Int32) (S : ST) (hra : ∀ b, b < vnb V → ra b = srF V S b) (hlo : ∀ b, b < vnb V → lo b = ldF V S b) (x : Int32) : Fn l M_X0_lent [.ref 0, .ref 4, .ref 11, .int x] (cws ra lo pr V dn fb S) (some (.int (hpI V S x))) (cws ra lo pr V dn fb S) := by
  have hV1 := hV.1
  have hV2 := hV.2.1
  have hV3 := hV.2.2
  refine con_of rfl rfl (Nat.le_of_ble_eq_true rfl) ?_
  refine g_lsN (ls' := [_, _, _, _]) rfl ?_
  refine g_aload_n (n := 1) dX0_lent_0 rfl rfl ?_
  refine g_iload_n (n := 2) dX0_lent_1 rfl rfl ?_
  refine g_cutVi (ps := [4, 5, 6, 7, 8, 9, 10]) (w' := [_, _, _, _, _, _, _, _, _, _, _, _, _, _, _]) (n := 5) cv_X0_56 (t_X7_hasBay l V hV dn _) dX0_lent_2 rfl rfl rfl ⟨by decide, by decide, rfl, rfl, Nat.zero_le _, Nat.zero_le _⟩ rfl rfl rfl (Nat.le_of_ble_eq_true rfl) rfl rfl rfl ?_
  refine g_if_eq (tgt := 16) (n := 8) dX0_lent_5 (by decide) rfl (fun c5 => ?_) (fun c5 => ?_)
  ·
    have e9 : hpI V S x = nI 0 := by unfold hpI; rw [bI_0.mp c5]; rfl
    refine g_iconst (v := nI 0) (n := 17) dX0_lent_16 (by decide) rfl ?_
    exact g_iret (ty := .int) dX0_lent_17 rfl rfl ⟨Nat.zero_le _, Nat.zero_le _⟩ ⟨by rw [e9], rfl⟩
  ·
    have a1 := bI_n0.mp c5
    obtain ⟨b, hb_, rfl⟩ := isB_t (by omega) a1
    refine g_aload_n (n := 9) dX0_lent_8 rfl rfl ?_
    refine g_iload_n (n := 10) dX0_lent_9 rfl rfl ?_
    refine g_cutVi (ps := [11, 12, 13, 14]) (w' := [_, _, _, _, _, _, _, _, _, _, _, _, _, _, _]) (n := 13) cv_X0_62 (t_X3_hasFallen l _ _) dX0_lent_10 rfl rfl rfl ⟨by decide, by decide, rfl, rfl, Nat.zero_le _, Nat.zero_le _⟩ rfl rfl rfl (Nat.le_of_ble_eq_true rfl) rfl rfl rfl ?_
    refine g_if_eq (tgt := 18) (n := 16) dX0_lent_13 (by decide) rfl (fun c13 => ?_) (fun c13 => ?_)
    ·
      have e9 : hpI V S (nI b) = (if nI 0 < srF V S b - ldF V S b then srF V S b - ldF V S b else nI 0) / nI 2 := by unfold hpI hpF; rw [a1, if_pos rfl, nI_clamp (by omega), bI_0.mp c13, if_neg Bool.false_ne_true, lent_eq]
      refine g_iconst (v := nI 0) (n := 19) dX0_lent_18 (by decide) rfl ?_
      refine g_aload_n (n := 20) dX0_lent_19 rfl rfl ?_
      refine g_get (n := 23) fl_X0_9 dX0_lent_20 rfl rfl rfl ?_
      refine g_iload_n (n := 24) dX0_lent_23 rfl rfl ?_
      refine g_iald (n := 25) dX0_lent_24 rfl (vp_in_nI (show b < 8 by omega) (by decide)) rfl ?_
      refine g_top (y := srF V S b) (by rw [nI_clamp (by omega)]; exact hra b hb_) ?_
      refine g_aload_n (n := 26) dX0_lent_25 rfl rfl ?_
      refine g_get (n := 29) fl_X0_15 dX0_lent_26 rfl rfl rfl ?_
      refine g_iload_n (n := 30) dX0_lent_29 rfl rfl ?_
      refine g_iald (n := 31) dX0_lent_30 rfl (vp_in_nI (show b < 8 by omega) (by decide)) rfl ?_
      refine g_top (y := ldF V S b) (by rw [nI_clamp (by omega)]; exact hlo b hb_) ?_
      refine g_isub (n := 32) dX0_lent_31 rfl ?_
      refine g_mmax (n := 35) dX0_lent_32 lk_X0_65 lw_max lw_math lc_max (by decide) (Nat.le_of_ble_eq_true rfl) ⟨Nat.zero_le _, Nat.zero_le _⟩ rfl ?_
      refine g_iconst (v := nI 2) (n := 36) dX0_lent_35 (by decide) rfl ?_
      refine g_idiv (n := 37) dX0_lent_36 (by decide) rfl ?_
      exact g_iret (ty := .int) dX0_lent_37 rfl rfl ⟨Nat.zero_le _, Nat.zero_le _⟩ ⟨by rw [e9], rfl⟩
    ·
      have e9 : hpI V S (nI b) = nI 0 := by unfold hpI hpF; rw [a1, if_pos rfl, nI_clamp (by omega), bI_n0.mp c13]; rfl
      refine g_iconst (v := nI 0) (n := 17) dX0_lent_16 (by decide) rfl ?_
      exact g_iret (ty := .int) dX0_lent_17 rfl rfl ⟨Nat.zero_le _, Nat.zero_le _⟩ ⟨by rw [e9], rfl⟩
def hcN (V : WT) (S : ST) : Nat → Int32
  | 0 => nI 0
  | b + 1 => if prF V S b < ldF V S b then hcN V S b else hcN V S b ||| nI 1 <<< (nI b &&& 31)
theorem hc_hd {V : WT} {S : ST} : ∀ b, b ≤ 8 → hcN V S b &&& (sfa S ^^^ (-1)) = hdN V S b
  | 0, _ => b_ext (fun i hi => by rw [b_and, show bt (hcN V S 0) i = false from b_0 i]; exact (b_0 i).symm)
  | b + 1, h => by
    have ih := hc_hd (V := V) (S := S) b (by omega)
    have e1 : (nI 1 <<< (nI b &&& 31)) &&& (sfa S ^^^ (-1)) = if hb (sfa S) (nI b) then nI 0 else nI 1 <<< (nI b &&& 31) := by
      apply hb_ext
      intro j hj
      rw [hb_and _ _ hj, hb_not _ hj, hb_shb (by omega) hj]
      by_cases hbj : b = j
      · subst hbj
        rw [decide_eq_true rfl, Bool.true_and]
        cases hx : hb (sfa S) (nI b) with
        | true => rw [if_pos rfl, hb_0 hj]; rfl
        | false => rw [if_neg Bool.false_ne_true, hb_shb hj hj, decide_eq_true rfl]; rfl
      · rw [decide_eq_false hbj, Bool.false_and]
        split
        · rw [hb_0 hj]
        · rw [hb_shb (by omega) hj, decide_eq_false hbj]
    have e2 : ∀ x y k : Int32, (x ||| y) &&& k = (x &&& k) ||| (y &&& k) := fun x y k => b_ext (fun i hi => by rw [b_and, b_or, b_or, b_and, b_and, Bool.and_or_distrib_right])
    rw [hcN, hdN]
    unfold isH
    by_cases hp : prF V S b < ldF V S b
    · rw [if_pos hp, ih, decide_eq_false (Int32.not_le.mpr hp), Bool.and_false, if_neg Bool.false_ne_true, or_0]
    · rw [if_neg hp, e2, ih, e1, decide_eq_true (Int32.not_lt.mp hp), Bool.and_true]
      cases hx : hb (sfa S) (nI b) with
      | true => rfl
      | false => rfl
set_option maxRecDepth 20000 in
theorem lp2_X0_heldBays (l : Launch) (z : Nat × Nat × Nat) (hz : z.2.1 ≤ 0 ∧ z.2.2 ≤ 0) (Q : Option Value → List va_E → Prop) (ra lo pr : Nat → Int32) (V : WT) (hV : okV V) (dn : Int32) (fb : Nat → Int32) (S : ST) (hQ : Q (some (.int (hdN V S (vnb V)))) (cws (mix (srF V S) ra 8) (mix (ldF V S) lo (vnb V)) (mix (prF V S) pr (vnb V)) V dn fb S)) : ∀ b, b ≤ vnb V → G l M_X0_heldBays z Q 63 [some (.ref 0), some (.ref 4), some (.ref 11), some (.int (hcN V S b)), some (.int (nI b))] [] (cws (mix (srF V S) ra 8) (mix (ldF V S) lo (vnb V)) (mix (prF V S) pr b) V dn fb S) := by
  have hV1 := hV.1
  have hV2 := hV.2.1
  have hV3 := hV.2.2
  refine loopN (vnb V) ?_ (fun b hb_ ih => ?_)
  ·
    have e9 := hc_hd (V := V) (S := S) (vnb V) hV1
    refine g_iload (n := 65) dX0_heldBays_63 rfl rfl ?_
    refine g_aload_n (n := 66) dX0_heldBays_65 rfl rfl ?_
    refine g_get (n := 69) fl_X0_25 dX0_heldBays_66 rfl rfl rfl ?_
    refine g_icmp_ge (tgt := 145) (n := 72) dX0_heldBays_69 (by decide) rfl (fun c69 => ?_) (fun c69 => absurd (nI_le (Nat.le_refl _) (by omega)) c69)
    refine g_iload_n (n := 146) dX0_heldBays_145 rfl rfl ?_
    refine g_aload_n (n := 147) dX0_heldBays_146 rfl rfl ?_
    refine g_get (n := 150) fl_X0_41 dX0_heldBays_147 rfl rfl rfl ?_
    refine g_iconst (v := (-1)) (n := 151) dX0_heldBays_150 (by decide) rfl ?_
    refine g_ixor (n := 152) dX0_heldBays_151 rfl ?_
    refine g_iand (n := 153) dX0_heldBays_152 rfl ?_
    rw [e9]
    exact g_iret (ty := .int) dX0_heldBays_153 rfl rfl hz hQ
  ·
    refine g_iload (n := 65) dX0_heldBays_63 rfl rfl ?_
    refine g_aload_n (n := 66) dX0_heldBays_65 rfl rfl ?_
    refine g_get (n := 69) fl_X0_25 dX0_heldBays_66 rfl rfl rfl ?_
    refine g_icmp_ge (tgt := 145) (n := 72) dX0_heldBays_69 (by decide) rfl (fun c69 => absurd c69 (nI_ge hb_ (by omega))) (fun c69 => ?_)
    refine g_iload (n := 74) dX0_heldBays_72 rfl rfl ?_
    refine g_bipush (v := nI 8) (n := 76) dX0_heldBays_74 (by decide) rfl ?_
    refine g_icmp_ge (tgt := 145) (n := 79) dX0_heldBays_76 (by decide) rfl (fun c76 => absurd c76 (nI_ge (show b < 8 by omega) (by decide))) (fun c76 => ?_)
    refine g_aload_n (n := 80) dX0_heldBays_79 rfl rfl ?_
    refine g_get (n := 83) fl_X0_18 dX0_heldBays_80 rfl rfl rfl ?_
    refine g_iload (n := 85) dX0_heldBays_83 rfl rfl ?_
    refine g_aload_n (n := 86) dX0_heldBays_85 rfl rfl ?_
    refine g_get (n := 89) fl_X0_9 dX0_heldBays_86 rfl rfl rfl ?_
    refine g_iload (n := 91) dX0_heldBays_89 rfl rfl ?_
    refine g_ialdN (n := 92) dX0_heldBays_91 rfl rfl (by decide) (by omega) ?_
    refine g_top (y := srF V S b) (by show mix _ _ _ _ = _; unfold mix; rw [if_pos (by omega)]) ?_
    refine g_aload_n (n := 93) dX0_heldBays_92 rfl rfl ?_
    refine g_aload_n (n := 94) dX0_heldBays_93 rfl rfl ?_
    refine g_aload_n (n := 95) dX0_heldBays_94 rfl rfl ?_
    refine g_iload (n := 97) dX0_heldBays_95 rfl rfl ?_
    refine g_iconst (v := nI 1) (n := 98) dX0_heldBays_97 (by decide) rfl ?_
    refine g_isub (n := 99) dX0_heldBays_98 rfl ?_
    refine g_cutVi (ps := [0, 1, 2, 3, 4, 5, 6, 7, 8, 9, 10, 11, 12, 13, 14]) (w' := [_, _, _, _, _, _, _, _, _, _, _, _, _, _, _]) (n := 102) cv_X0_38 (t_X0_lent l _ _ _ V hV dn fb S (fun b h => by show mix _ _ _ _ = _; unfold mix; rw [if_pos (by omega)]) (fun b h => by show mix _ _ _ _ = _; unfold mix; rw [if_pos h]) _) dX0_heldBays_99 rfl rfl rfl ⟨by decide, by decide, rfl, rfl, hz.1, hz.2⟩ rfl rfl rfl (Nat.le_of_ble_eq_true rfl) rfl rfl rfl ?_
    refine g_iadd (n := 103) dX0_heldBays_102 rfl ?_
    refine g_aload_n (n := 104) dX0_heldBays_103 rfl rfl ?_
    refine g_aload_n (n := 105) dX0_heldBays_104 rfl rfl ?_
    refine g_aload_n (n := 106) dX0_heldBays_105 rfl rfl ?_
    refine g_iload (n := 108) dX0_heldBays_106 rfl rfl ?_
    refine g_iconst (v := nI 1) (n := 109) dX0_heldBays_108 (by decide) rfl ?_
    refine g_iaddN (n := 110) dX0_heldBays_109 rfl ?_
    refine g_cutVi (ps := [0, 1, 2, 3, 4, 5, 6, 7, 8, 9, 10, 11, 12, 13, 14]) (w' := [_, _, _, _, _, _, _, _, _, _, _, _, _, _, _]) (n := 113) cv_X0_38 (t_X0_lent l _ _ _ V hV dn fb S (fun b h => by show mix _ _ _ _ = _; unfold mix; rw [if_pos (by omega)]) (fun b h => by show mix _ _ _ _ = _; unfold mix; rw [if_pos h]) _) dX0_heldBays_110 rfl rfl rfl ⟨by decide, by decide, rfl, rfl, hz.1, hz.2⟩ rfl rfl rfl (Nat.le_of_ble_eq_true rfl) rfl rfl rfl ?_
    refine g_iadd (n := 114) dX0_heldBays_113 rfl ?_
    have e5 : srF V S b + hpI V S (nI b - nI 1) + hpI V S (nI (b + 1)) = prF V S b := rfl
    refine g_iastN (n := 115) dX0_heldBays_114 rfl rfl (by decide) (by omega) ?_
    refine g_wN (w' := [_, _, _, _, _, _, _, _, _, _, _, _, _, _, _]) rfl ?_
    rw [e5, mix_s]
    refine g_aload_n (n := 116) dX0_heldBays_115 rfl rfl ?_
    refine g_get (n := 119) fl_X0_18 dX0_heldBays_116 rfl rfl rfl ?_
    refine g_iload (n := 121) dX0_heldBays_119 rfl rfl ?_
    refine g_ialdN (n := 122) dX0_heldBays_121 rfl rfl (by decide) (by omega) ?_
    refine g_top (y := prF V S b) (by show mix _ _ _ _ = _; unfold mix; rw [if_pos (by omega)]) ?_
    refine g_aload_n (n := 123) dX0_heldBays_122 rfl rfl ?_
    refine g_get (n := 126) fl_X0_15 dX0_heldBays_123 rfl rfl rfl ?_
    refine g_iload (n := 128) dX0_heldBays_126 rfl rfl ?_
    refine g_ialdN (n := 129) dX0_heldBays_128 rfl rfl (by decide) (by omega) ?_
    refine g_top (y := ldF V S b) (by show mix _ _ _ _ = _; unfold mix; rw [if_pos (by omega)]) ?_
    refine g_icmp_lt (tgt := 139) (n := 132) dX0_heldBays_129 (by decide) rfl (fun c129 => ?_) (fun c129 => ?_)
    ·
      have e1 : hcN V S (b + 1) = hcN V S b := by rw [hcN, if_pos c129]
      rw [e1] at ih
      refine g_iincN (k := 1) (n := 142) dX0_heldBays_139 rfl (by decide) rfl rfl ?_
      refine g_lsN (ls' := [_, _, _, _, _]) rfl ?_
      refine g_goto (tgt := 63) dX0_heldBays_142 (by decide) ?_
      exact ih
    ·
      have e1 : hcN V S (b + 1) = hcN V S b ||| nI 1 <<< (nI b &&& 31) := by rw [hcN, if_neg c129]
      rw [e1] at ih
      refine g_iload_n (n := 133) dX0_heldBays_132 rfl rfl ?_
      refine g_iconst (v := nI 1) (n := 134) dX0_heldBays_133 (by decide) rfl ?_
      refine g_iload (n := 136) dX0_heldBays_134 rfl rfl ?_
      refine g_ishl (n := 137) dX0_heldBays_136 rfl ?_
      refine g_ior (n := 138) dX0_heldBays_137 rfl ?_
      refine g_istore_n (n := 139) dX0_heldBays_138 (by decide) rfl rfl ?_
      refine g_lsN (ls' := [_, _, _, _, _]) rfl ?_
      refine g_iincN (k := 1) (n := 142) dX0_heldBays_139 rfl (by decide) rfl rfl ?_
      refine g_lsN (ls' := [_, _, _, _, _]) rfl ?_
      refine g_goto (tgt := 63) dX0_heldBays_142 (by decide) ?_
      exact ih
set_option maxRecDepth 20000 in
theorem lp1_X0_heldBays (l : Launch) (z : Nat × Nat × Nat) (hz : z.2.1 ≤ 0 ∧ z.2.2 ≤ 0) (Q : Option Value → List va_E → Prop) (ra lo pr : Nat → Int32) (V : WT) (hV : okV V) (dn : Int32) (fb : Nat → Int32) (S : ST) (hQ : Q (some (.int (hdN V S (vnb V)))) (cws (mix (srF V S) ra 8) (mix (ldF V S) lo (vnb V)) (mix (prF V S) pr (vnb V)) V dn fb S)) : ∀ b, b ≤ vnb V → G l M_X0_heldBays z Q 8 [some (.ref 0), some (.ref 4), some (.ref 11), some (.int (nI b)), none] [] (cws (mix (srF V S) ra 8) (mix (ldF V S) lo b) pr V dn fb S) := by
  have hV1 := hV.1
  have hV2 := hV.2.1
  have hV3 := hV.2.2
  refine loopN (vnb V) ?_ (fun b hb_ ih => ?_)
  ·
    refine g_iload_n (n := 9) dX0_heldBays_8 rfl rfl ?_
    refine g_aload_n (n := 10) dX0_heldBays_9 rfl rfl ?_
    refine g_get (n := 13) fl_X0_25 dX0_heldBays_10 rfl rfl rfl ?_
    refine g_icmp_ge (tgt := 58) (n := 16) dX0_heldBays_13 (by decide) rfl (fun c13 => ?_) (fun c13 => absurd (nI_le (Nat.le_refl _) (by omega)) c13)
    refine g_iconst (v := nI 0) (n := 59) dX0_heldBays_58 (by decide) rfl ?_
    refine g_istore_n (n := 60) dX0_heldBays_59 (by decide) rfl rfl ?_
    refine g_lsN (ls' := [_, _, _, _, _]) rfl ?_
    refine g_iconst (v := nI 0) (n := 61) dX0_heldBays_60 (by decide) rfl ?_
    refine g_istore (n := 63) dX0_heldBays_61 (by decide) rfl rfl ?_
    refine g_lsN (ls' := [_, _, _, _, _]) rfl ?_
    refine g_wN (w' := cws (mix (srF V S) ra 8) (mix (ldF V S) lo (vnb V)) (mix (prF V S) pr 0) V dn fb S) (by rw [mix_0]) ?_
    exact lp2_X0_heldBays l z hz Q ra lo pr V hV dn fb S hQ 0 (Nat.zero_le _)
  ·
    refine g_iload_n (n := 9) dX0_heldBays_8 rfl rfl ?_
    refine g_aload_n (n := 10) dX0_heldBays_9 rfl rfl ?_
    refine g_get (n := 13) fl_X0_25 dX0_heldBays_10 rfl rfl rfl ?_
    refine g_icmp_ge (tgt := 58) (n := 16) dX0_heldBays_13 (by decide) rfl (fun c13 => absurd c13 (nI_ge hb_ (by omega))) (fun c13 => ?_)
    refine g_iload_n (n := 17) dX0_heldBays_16 rfl rfl ?_
    refine g_bipush (v := nI 8) (n := 19) dX0_heldBays_17 (by decide) rfl ?_
    refine g_icmp_ge (tgt := 58) (n := 22) dX0_heldBays_19 (by decide) rfl (fun c19 => absurd c19 (nI_ge (show b < 8 by omega) (by decide))) (fun c19 => ?_)
    refine g_aload_n (n := 23) dX0_heldBays_22 rfl rfl ?_
    refine g_get (n := 26) fl_X0_15 dX0_heldBays_23 rfl rfl rfl ?_
    refine g_iload_n (n := 27) dX0_heldBays_26 rfl rfl ?_
    refine g_aload_n (n := 28) dX0_heldBays_27 rfl rfl ?_
    refine g_get (n := 31) fl_X0_31 dX0_heldBays_28 rfl rfl rfl ?_
    refine g_iload_n (n := 32) dX0_heldBays_31 rfl rfl ?_
    refine g_ialdN (n := 33) dX0_heldBays_32 rfl rfl (by decide) (by omega) ?_
    refine g_aload_n (n := 34) dX0_heldBays_33 rfl rfl ?_
    refine g_aload_n (n := 35) dX0_heldBays_34 rfl rfl ?_
    refine g_iload_n (n := 36) dX0_heldBays_35 rfl rfl ?_
    refine g_iconst (v := nI 1) (n := 37) dX0_heldBays_36 (by decide) rfl ?_
    refine g_isub (n := 38) dX0_heldBays_37 rfl ?_
    refine g_cutPi (ps := [4, 5, 6, 7, 8, 9, 10, 11, 12, 13, 14]) (w' := [_, _, _, _, _, _, _, _, _, _, _, _, _, _, _]) (n := 41) cs_X0_34 (t_X0_thrown l V hV dn fb S _) dX0_heldBays_38 rfl rfl rfl ⟨by decide, by decide, rfl, rfl, hz.1, hz.2⟩ rfl (Nat.le_of_ble_eq_true rfl) rfl rfl rfl ?_
    refine g_iadd (n := 42) dX0_heldBays_41 rfl ?_
    refine g_aload_n (n := 43) dX0_heldBays_42 rfl rfl ?_
    refine g_aload_n (n := 44) dX0_heldBays_43 rfl rfl ?_
    refine g_iload_n (n := 45) dX0_heldBays_44 rfl rfl ?_
    refine g_iconst (v := nI 1) (n := 46) dX0_heldBays_45 (by decide) rfl ?_
    refine g_iaddN (n := 47) dX0_heldBays_46 rfl ?_
    refine g_cutPi (ps := [4, 5, 6, 7, 8, 9, 10, 11, 12, 13, 14]) (w' := [_, _, _, _, _, _, _, _, _, _, _, _, _, _, _]) (n := 50) cs_X0_34 (t_X0_thrown l V hV dn fb S _) dX0_heldBays_47 rfl rfl rfl ⟨by decide, by decide, rfl, rfl, hz.1, hz.2⟩ rfl (Nat.le_of_ble_eq_true rfl) rfl rfl rfl ?_
    refine g_iadd (n := 51) dX0_heldBays_50 rfl ?_
    have e5 : vth V b + thI V S (nI b - nI 1) + thI V S (nI (b + 1)) = ldF V S b := by rw [thI_w hV hb_, thI_e hV hb_]; rfl
    refine g_iastN (n := 52) dX0_heldBays_51 rfl rfl (by decide) (by omega) ?_
    refine g_wN (w' := [_, _, _, _, _, _, _, _, _, _, _, _, _, _, _]) rfl ?_
    rw [e5, mix_s]
    refine g_iincN (k := 1) (n := 55) dX0_heldBays_52 rfl (by decide) rfl rfl ?_
    refine g_lsN (ls' := [_, _, _, _, _]) rfl ?_
    refine g_goto (tgt := 8) dX0_heldBays_55 (by decide) ?_
    exact ih
set_option maxRecDepth 20000 in
theorem t_X0_heldBays (l : Launch) (ra lo pr : Nat → Int32) (V : WT) (hV : okV V) (dn : Int32) (fb : Nat → Int32) (S : ST) (hB : okB V S) : Fn l M_X0_heldBays [.ref 0, .ref 4, .ref 11] (cws ra lo pr V dn fb S) (some (.int (hdN V S (vnb V)))) (cws (mix (srF V S) ra 8) (mix (ldF V S) lo (vnb V)) (mix (prF V S) pr (vnb V)) V dn fb S) := by
  have hV1 := hV.1
  have hV2 := hV.2.1
  have hV3 := hV.2.2
  refine con_of rfl rfl (Nat.le_of_ble_eq_true rfl) ?_
  refine g_lsN (ls' := [_, _, _, _, _]) rfl ?_
  refine g_aload_n (n := 1) dX0_heldBays_0 rfl rfl ?_
  refine g_aload_n (n := 2) dX0_heldBays_1 rfl rfl ?_
  refine g_aload_n (n := 3) dX0_heldBays_2 rfl rfl ?_
  refine g_cutVv (ps := [0, 1, 2, 3, 4, 5, 6, 7, 8, 9, 10, 11, 12, 13, 14]) (w' := [_, _, _, _, _, _, _, _, _, _, _, _, _, _, _]) (n := 6) cv_X0_21 (t_X0_weighRaised l ra lo pr V hV dn fb S hB) dX0_heldBays_3 rfl rfl rfl ⟨by decide, by decide, rfl, rfl, Nat.zero_le _, Nat.zero_le _⟩ rfl rfl rfl (Nat.le_of_ble_eq_true rfl) rfl rfl rfl ?_
  refine g_iconst (v := nI 0) (n := 7) dX0_heldBays_6 (by decide) rfl ?_
  refine g_istore_n (n := 8) dX0_heldBays_7 (by decide) rfl rfl ?_
  refine g_lsN (ls' := [_, _, _, _, _]) rfl ?_
  refine g_wN (w' := cws (mix (srF V S) ra 8) (mix (ldF V S) lo 0) pr V dn fb S) (by rw [mix_0]; rfl) ?_
  exact lp1_X0_heldBays l _ ⟨Nat.zero_le _, Nat.zero_le _⟩ _ ra lo pr V hV dn fb S ⟨rfl, rfl⟩ 0 (Nat.zero_le _)

/-! 24.mtext: the reference reads a text; lays a wall -/
theorem nuA_ge (ta : Nat → Nat) (n p : Nat) (lo hi : Int32) (e : Nat) : p ≤ (nuA ta n p lo hi e).2 := by
  unfold nuA
  cases h : nrF ta n p with
  | none => exact Nat.le_refl _
  | some q =>
    obtain ⟨v, q⟩ := q
    have := nrF_ok h
    show p ≤ q + 1
    omega
theorem rbF_ok (ta : Nat → Nat) (n p : Nat) (V : WT) (hV : okV V) : okV (rbF ta n p V).2.1 ∧ p ≤ (rbF ta n p V).2.2 := by
  have h1 := nuA_ge ta n p (nI 0) (nI 99) 44
  have h2 := nuA_ge ta n (nuA ta n p (nI 0) (nI 99) 44).2 (nI 0) (nI 20) 59
  unfold rbF
  split
  · exact ⟨hV, h1⟩
  · split
    · exact ⟨hV, Nat.le_trans h1 h2⟩
    · next q =>
      simp only [Bool.or_eq_true, decide_eq_true_eq, not_or] at q
      have := hV.1
      exact ⟨⟨by show vnb V + 1 ≤ 8; omega, hV.2⟩, Nat.le_trans h1 h2⟩
theorem rfF_ok (ta : Nat → Nat) (n p : Nat) (V : WT) (be : Nat → Int32) (hV : okV V) : okV (rfF ta n p V be).2.1 ∧ p ≤ (rfF ta n p V be).2.2.2 := by
  have h1 : p ≤ (b1A ta n p).2 := nuA_ge ta n p (nI 0) (nI 3) 44
  have h2 : (b1A ta n p).2 ≤ (b2A ta n p).2 := nuA_ge ta n _ (nI 1) (nI 99) 44
  have h3 : (b2A ta n p).2 ≤ (b3A ta n p (vnb V)).2 := nuA_ge ta n _ (nI 0) (nI (vnb V) - nI 1) 44
  have h4 : (b3A ta n p (vnb V)).2 ≤ (b4A ta n p (vnb V)).2 := nuA_ge ta n _ (nI 1) (nI 30) 59
  unfold rfF
  split
  · exact ⟨hV, h1⟩
  · split
    · exact ⟨hV, Nat.le_trans h1 h2⟩
    · split
      · exact ⟨hV, Nat.le_trans h1 (Nat.le_trans h2 h3)⟩
      · split
        · exact ⟨hV, Nat.le_trans h1 (Nat.le_trans h2 (Nat.le_trans h3 h4))⟩
        · next q =>
          simp only [Bool.or_eq_true, decide_eq_true_eq, not_or] at q
          have := hV.2.1
          exact ⟨⟨hV.1, by show vnf V + 1 ≤ 6; omega, hV.2.2⟩, Nat.le_trans h1 (Nat.le_trans h2 (Nat.le_trans h3 h4))⟩
theorem riF_ok (ta : Nat → Nat) (n p a : Nat) (V : WT) (be : Nat → Int32) (dn : Int32) (hV : okV V) : okV (riF ta n p a V be dn).2.1 ∧ p ≤ (riF ta n p a V be dn).2.2.2.2 := by
  unfold riF
  split
  · exact rbF_ok ta n p V hV
  · split
    · exact rfF_ok ta n p V be hV
    · split
      · unfold rcF
        have h1 := nuA_ge ta n p (nI 0) (nI 1) 59
        split
        · exact ⟨hV, h1⟩
        · next q =>
          simp only [Bool.or_eq_true, decide_eq_true_eq, not_or] at q
          have := hV.2.2
          exact ⟨⟨hV.1, hV.2.1, by show vnc V + 1 ≤ 12; omega⟩, h1⟩
      · split
        · unfold rdF
          have h1 := nuA_ge ta n p (nI 0) (nI (vnf V) - nI 1) 59
          split
          · exact ⟨hV, h1⟩
          · exact ⟨hV, h1⟩
        · exact ⟨hV, Nat.le_refl _⟩
abbrev RR : Type := Int32 × WT × (Nat → Int32) × Int32 × Nat
/-- reading items from p on: the first that is none (or NONE), what is told then -/
def rdR (ta : Nat → Nat) (n : Nat) : Nat → Nat → WT → (Nat → Int32) → Int32 → RR
  | 0, p, V, be, dn => ((-4), V, be, dn, p)
  | k + 1, p, V, be, dn => if p < n then (if (riF ta n (p + 1) (ta p) V be dn).1 then rdR ta n k (riF ta n (p + 1) (ta p) V be dn).2.2.2.2 (riF ta n (p + 1) (ta p) V be dn).2.1 (riF ta n (p + 1) (ta p) V be dn).2.2.1 (riF ta n (p + 1) (ta p) V be dn).2.2.2.1 else (nI p, (riF ta n (p + 1) (ta p) V be dn).2)) else ((-4), V, be, dn, p)
theorem rdR_ok (ta : Nat → Nat) (n : Nat) : ∀ (k p : Nat) (V : WT) (be : Nat → Int32) (dn : Int32), okV V → okV (rdR ta n k p V be dn).2.1
  | 0, p, V, be, dn, h => h
  | k + 1, p, V, be, dn, h => by
    rw [rdR]
    split
    · split
      · exact rdR_ok ta n k _ _ _ _ (riF_ok ta n _ _ V be dn h).1
      · exact (riF_ok ta n _ _ V be dn h).1
    · exact h

theorem riF_le (ta : Nat → Nat) (n p a : Nat) (V : WT) (be : Nat → Int32) (dn : Int32) : (riF ta n p a V be dn).2.2.2.2 ≤ p + 12 := by
  unfold riF
  split
  · have h1 := nuA_le ta n p (nI 0) (nI 99) 44
    have h2 := nuA_le ta n (nuA ta n p (nI 0) (nI 99) 44).2 (nI 0) (nI 20) 59
    show (rbF ta n p V).2.2 ≤ _
    unfold rbF
    split
    · show (nuA ta n p (nI 0) (nI 99) 44).2 ≤ _; omega
    · split
      · show (nuA ta n (nuA ta n p (nI 0) (nI 99) 44).2 (nI 0) (nI 20) 59).2 ≤ _; omega
      · show (nuA ta n (nuA ta n p (nI 0) (nI 99) 44).2 (nI 0) (nI 20) 59).2 ≤ _; omega
  · split
    · have h1 : (b1A ta n p).2 ≤ p + 3 := nuA_le ta n p (nI 0) (nI 3) 44
      have h2 : (b2A ta n p).2 ≤ (b1A ta n p).2 + 3 := nuA_le ta n _ (nI 1) (nI 99) 44
      have h3 : (b3A ta n p (vnb V)).2 ≤ (b2A ta n p).2 + 3 := nuA_le ta n _ (nI 0) (nI (vnb V) - nI 1) 44
      have h4 : (b4A ta n p (vnb V)).2 ≤ (b3A ta n p (vnb V)).2 + 3 := nuA_le ta n _ (nI 1) (nI 30) 59
      show (rfF ta n p V be).2.2.2 ≤ _
      unfold rfF
      split
      · show (b1A ta n p).2 ≤ _; omega
      · split
        · show (b2A ta n p).2 ≤ _; omega
        · split
          · show (b3A ta n p (vnb V)).2 ≤ _; omega
          · split
            · show (b4A ta n p (vnb V)).2 ≤ _; omega
            · show (b4A ta n p (vnb V)).2 ≤ _; omega
    · split
      · have h1 := nuA_le ta n p (nI 0) (nI 1) 59
        unfold rcF
        split
        · show (nuA ta n p (nI 0) (nI 1) 59).2 ≤ _; omega
        · show (nuA ta n p (nI 0) (nI 1) 59).2 ≤ _; omega
      · split
        · have h1 := nuA_le ta n p (nI 0) (nI (vnf V) - nI 1) 59
          unfold rdF
          split
          · show (nuA ta n p (nI 0) (nI (vnf V) - nI 1) 59).2 ≤ _; omega
          · show (nuA ta n p (nI 0) (nI (vnf V) - nI 1) 59).2 ≤ _; omega
        · exact Nat.le_add_right _ _
set_option maxRecDepth 20000 in
theorem lp_X9_readsAll (l : Launch) (z : Nat × Nat × Nat) (hz : z.2.1 ≤ 0 ∧ z.2.2 ≤ 0) (Q : Option Value → List va_E → Prop) (e : MR) (to s : Nat → Int32) (ta : Nat → Nat) (n : Nat) (hT : TX e ta n) : ∀ (k p : Nat) (V : WT) (be : Nat → Int32) (dn : Int32) (o1 : Option Value), n ≤ p + k → p ≤ 300 → okV V → Q (some (.int (rdR ta n k p V be dn).1)) (mw (sRd e (tk (rdR ta n k p V be dn).2.1) (rdR ta n k p V be dn).2.2.1 (rdR ta n k p V be dn).2.2.2.1 (nI (rdR ta n k p V be dn).2.2.2.2)) to s) → G l M_X9_readsAll z Q 9 [some (.ref 0), o1] [] (mw (sRd e (tk V) be dn (nI p)) to s) := by
  have hT1 := hT.1
  have hT2 := hT.2.1
  intro k
  induction k with
  | zero =>
    intro p V be dn o1 hk hp hV hQ
    refine g_aload_n (n := 10) dX9_readsAll_9 rfl rfl ?_
    refine g_get (n := 13) fl_X9_59 dX9_readsAll_10 rfl rfl rfl ?_
    refine g_aload_n (n := 14) dX9_readsAll_13 rfl rfl ?_
    refine g_get (n := 17) fl_X9_56 dX9_readsAll_14 rfl rfl rfl ?_
    refine g_top hT1 ?_
    refine g_icmp_ge (tgt := 53) (n := 20) dX9_readsAll_17 (by decide) rfl (fun c17 => ?_) (fun c17 => absurd (nI_le (by omega) (by omega)) c17)
    refine g_bipush (v := (-4)) (n := 55) dX9_readsAll_53 (by decide) rfl ?_
    exact g_iret (ty := .int) dX9_readsAll_55 rfl rfl hz hQ
  | succ k ih =>
    intro p V be dn o1 hk hp hV hQ
    rw [rdR] at hQ
    by_cases hpn : p < n
    ·
      rw [if_pos hpn] at hQ
      have hok := riF_ok ta n (p + 1) (ta p) V be dn hV
      have hle := riF_le ta n (p + 1) (ta p) V be dn
      refine g_aload_n (n := 10) dX9_readsAll_9 rfl rfl ?_
      refine g_get (n := 13) fl_X9_59 dX9_readsAll_10 rfl rfl rfl ?_
      refine g_aload_n (n := 14) dX9_readsAll_13 rfl rfl ?_
      refine g_get (n := 17) fl_X9_56 dX9_readsAll_14 rfl rfl rfl ?_
      refine g_top hT1 ?_
      refine g_icmp_ge (tgt := 53) (n := 20) dX9_readsAll_17 (by decide) rfl (fun c17 => absurd c17 (nI_ge hpn (by omega))) (fun c17 => ?_)
      refine g_aload_n (n := 21) dX9_readsAll_20 rfl rfl ?_
      refine g_get (n := 24) fl_X9_59 dX9_readsAll_21 rfl rfl rfl ?_
      refine g_istore_n (n := 25) dX9_readsAll_24 (by decide) rfl rfl ?_
      refine g_lsN (ls' := [_, _]) rfl ?_
      refine g_aload_n (n := 26) dX9_readsAll_25 rfl rfl ?_
      refine g_dup (n := 27) dX9_readsAll_26 rfl rfl ?_
      refine g_get (n := 30) fl_X9_59 dX9_readsAll_27 rfl rfl rfl ?_
      refine g_iconst (v := nI 1) (n := 31) dX9_readsAll_30 (by decide) rfl ?_
      refine g_iaddN (n := 32) dX9_readsAll_31 rfl ?_
      refine g_put (n := 35) pf_X9_59 dX9_readsAll_32 rfl (Nat.le_of_ble_eq_true rfl) (fun _ => rfl) (fun _ => rfl) rfl ?_
      refine g_wN (w' := [_, _, _, _, _, _, _, _, _]) rfl ?_
      refine g_aload_n (n := 36) dX9_readsAll_35 rfl rfl ?_
      refine g_aload_n (n := 37) dX9_readsAll_36 rfl rfl ?_
      refine g_get (n := 40) fl_X9_7 dX9_readsAll_37 rfl rfl rfl ?_
      refine g_iload_n (n := 41) dX9_readsAll_40 rfl rfl ?_
      refine g_ialdN (n := 42) dX9_readsAll_41 rfl rfl (by decide) (by omega) ?_
      refine g_top (hT.2.2 p hpn).1 ?_
      refine g_callWi (n := 45) cv_X9_81 (t_X9_readsItem l e to s V hV be dn ta n hT (p + 1) (by omega) (ta p) (by have := (hT.2.2 p hpn).2.2; omega)) dX9_readsAll_42 rfl ⟨by decide, by decide, rfl, rfl, hz.1, hz.2⟩ rfl rfl rfl (Nat.le_of_ble_eq_true rfl) rfl rfl ?_
      generalize riF ta n (p + 1) (ta p) V be dn = r at hQ hok hle ⊢
      refine g_if_ne (tgt := 50) (n := 48) dX9_readsAll_45 (by decide) rfl (fun c45 => ?_) (fun c45 => ?_)
      ·
        rw [bI_n0.mp c45, if_pos rfl] at hQ
        refine g_goto (tgt := 9) dX9_readsAll_50 (by decide) ?_
        exact ih r.2.2.2.2 r.2.1 r.2.2.1 r.2.2.2.1 _ (by omega) (by omega) hok.1 hQ
      ·
        rw [bI_0.mp c45, if_neg Bool.false_ne_true] at hQ
        refine g_iload_n (n := 49) dX9_readsAll_48 rfl rfl ?_
        exact g_iret (ty := .int) dX9_readsAll_49 rfl rfl hz hQ
    ·
      rw [if_neg hpn] at hQ
      refine g_aload_n (n := 10) dX9_readsAll_9 rfl rfl ?_
      refine g_get (n := 13) fl_X9_59 dX9_readsAll_10 rfl rfl rfl ?_
      refine g_aload_n (n := 14) dX9_readsAll_13 rfl rfl ?_
      refine g_get (n := 17) fl_X9_56 dX9_readsAll_14 rfl rfl rfl ?_
      refine g_top hT1 ?_
      refine g_icmp_ge (tgt := 53) (n := 20) dX9_readsAll_17 (by decide) rfl (fun c17 => ?_) (fun c17 => absurd (nI_le (by omega) (by omega)) c17)
      refine g_bipush (v := (-4)) (n := 55) dX9_readsAll_53 (by decide) rfl ?_
      exact g_iret (ty := .int) dX9_readsAll_55 rfl rfl hz hQ
set_option maxRecDepth 20000 in
theorem t_X9_readsAll (l : Launch) (e : MR) (to s dr be : Nat → Int32) (dn at_ : Int32) (ta : Nat → Nat) (n : Nat) (hT : TX e ta n) (hd : ∀ j, 38 ≤ j → dr j = 0) : Fn l M_X9_readsAll [.ref 0] (mw (sRd e dr be dn at_) to s) (some (.int (rdR ta n 200 0 V0 be (nI 0)).1)) (mw (sRd e (tk (rdR ta n 200 0 V0 be (nI 0)).2.1) (rdR ta n 200 0 V0 be (nI 0)).2.2.1 (rdR ta n 200 0 V0 be (nI 0)).2.2.2.1 (nI (rdR ta n 200 0 V0 be (nI 0)).2.2.2.2)) to s) := by
  have hT1 := hT.1
  have hT2 := hT.2.1
  refine con_of rfl rfl (Nat.le_of_ble_eq_true rfl) ?_
  refine g_lsN (ls' := [_, _]) rfl ?_
  refine g_aload_n (n := 1) dX9_readsAll_0 rfl rfl ?_
  refine g_callWv (n := 4) cv_X9_34 (t_X9_begins l e to s dr be dn at_ hd) dX9_readsAll_1 rfl ⟨by decide, by decide, rfl, rfl, Nat.zero_le _, Nat.zero_le _⟩ rfl rfl rfl (Nat.le_of_ble_eq_true rfl) rfl rfl ?_
  refine g_aload_n (n := 5) dX9_readsAll_4 rfl rfl ?_
  refine g_iconst (v := nI 0) (n := 6) dX9_readsAll_5 (by decide) rfl ?_
  refine g_put (n := 9) pf_X9_59 dX9_readsAll_6 rfl (Nat.le_of_ble_eq_true rfl) (fun _ => rfl) (fun _ => rfl) rfl ?_
  refine g_wN (w' := [_, _, _, _, _, _, _, _, _]) rfl ?_
  exact lp_X9_readsAll l _ ⟨Nat.zero_le _, Nat.zero_le _⟩ _ e to s ta n hT 200 0 V0 be (nI 0) _ (by omega) (by decide) ⟨by decide, by decide, by decide⟩ ⟨rfl, rfl⟩
set_option maxRecDepth 20000 in
theorem t_X9_fault (l : Launch) (e : MR) (to s dr be : Nat → Int32) (dn at_ : Int32) (ta : Nat → Nat) (n : Nat) (hT : TX e ta n) (hd : ∀ j, 38 ≤ j → dr j = 0) : Fn l M_X9_fault [.ref 0] (mw (sRd e dr be dn at_) to s) (some (.int (rdR ta n 200 0 V0 be (nI 0)).1)) (mw (sRd e (tk (rdR ta n 200 0 V0 be (nI 0)).2.1) (rdR ta n 200 0 V0 be (nI 0)).2.2.1 (rdR ta n 200 0 V0 be (nI 0)).2.2.2.1 (nI (rdR ta n 200 0 V0 be (nI 0)).2.2.2.2)) to s) := by
  have hT1 := hT.1
  have hT2 := hT.2.1
  refine con_of rfl rfl (Nat.le_of_ble_eq_true rfl) ?_
  refine g_lsN (ls' := [_]) rfl ?_
  refine g_aload_n (n := 1) dX9_fault_0 rfl rfl ?_
  refine g_callWi (n := 4) cv_X9_84 (t_X9_readsAll l e to s dr be dn at_ ta n hT hd) dX9_fault_1 rfl ⟨by decide, by decide, rfl, rfl, Nat.zero_le _, Nat.zero_le _⟩ rfl rfl rfl (Nat.le_of_ble_eq_true rfl) rfl rfl ?_
  exact g_iret (ty := .int) dX9_fault_4 rfl rfl ⟨Nat.zero_le _, Nat.zero_le _⟩ ⟨rfl, rfl⟩
/-- nothing is told beyond the rows -/
def okW (V : WT) : Prop := ∀ j, 6 ≤ j → vkn V j = 0
theorem tk_big {V : WT} (h : okW V) {j : Nat} (hj : 38 ≤ j) : tk V j = 0 := by
  unfold tk
  rw [if_neg (by omega), if_neg (by omega), if_neg (by omega), if_neg (by omega), if_neg (by omega), if_neg (by omega), if_neg (by omega), if_neg (by omega)]
  exact h _ (by omega)
def boS (nf : Nat) (be : Nat → Int32) : Nat → Int32 := fun f => if f < nf then be f else 0
/-- how things stand when a wall is laid -/
def lyS (V : WT) (be : Nat → Int32) (dn : Int32) : ST := (nI 0, (nI (2 ^ vnf V) - nI 1) &&& (dn ^^^ (-1)), nI 0, fun _ => nI 0, boS (vnf V) be, fun _ => nI 0)
def lyF (nf : Nat) (be : Nat → Int32) : Nat → Int32 := fun k => if 9 ≤ k ∧ k ≤ 14 ∧ k - 9 < nf then be (k - 9) else nI 0
set_option maxRecDepth 20000 in
theorem lp2_X9_lays (l : Launch) (z : Nat × Nat × Nat) (hz : z.2.1 ≤ 0 ∧ z.2.2 ≤ 0) (Q : Option Value → List va_E → Prop) (e : MR) (to s : Nat → Int32) (V : WT) (hV : okV V) (be : Nat → Int32) (dn at_ : Int32) (hQ : Q none (mw (sPK (sIK (sRd e (tk V) be dn at_) (eIm e) (nI 0)) (ePa e) (nI 0)) (tk V) (upd (mix (lyF (vnf V) be) s 23) 1 ((nI (2 ^ vnf V) - nI 1) &&& (dn ^^^ (-1)))))) : ∀ k, k ≤ 23 → G l M_X9_lays z Q 28 [some (.ref 0), some (.int (nI k))] [] (mw (sRd e (tk V) be dn at_) (tk V) (mix (lyF (vnf V) be) s k)) := by
  have hV1 := hV.1
  have hV2 := hV.2.1
  have hV3 := hV.2.2
  refine loopN 23 ?_ (fun k hk ih => ?_)
  ·
    refine g_iload_n (n := 29) dX9_lays_28 rfl rfl ?_
    refine g_bipush (v := nI 23) (n := 31) dX9_lays_29 (by decide) rfl ?_
    refine g_icmp_ge (tgt := 83) (n := 34) dX9_lays_31 (by decide) rfl (fun c31 => ?_) (fun c31 => absurd (nI_le (Nat.le_refl _) (by decide)) c31)
    refine g_aload_n (n := 84) dX9_lays_83 rfl rfl ?_
    refine g_get (n := 87) fl_X9_22 dX9_lays_84 rfl rfl rfl ?_
    refine g_iconst (v := nI 1) (n := 88) dX9_lays_87 (by decide) rfl ?_
    refine g_iconst (v := nI 1) (n := 89) dX9_lays_88 (by decide) rfl ?_
    refine g_aload_n (n := 90) dX9_lays_89 rfl rfl ?_
    refine g_get (n := 93) fl_X9_13 dX9_lays_90 rfl rfl rfl ?_
    refine g_iconst (v := nI 1) (n := 94) dX9_lays_93 (by decide) rfl ?_
    refine g_ialdN (n := 95) dX9_lays_94 rfl rfl (by decide) (by omega) ?_
    refine g_top (tk_1 _) ?_
    refine g_ishl (n := 96) dX9_lays_95 rfl ?_
    refine g_top (shl_pow (by omega)) ?_
    refine g_iconst (v := nI 1) (n := 97) dX9_lays_96 (by decide) rfl ?_
    refine g_isub (n := 98) dX9_lays_97 rfl ?_
    refine g_aload_n (n := 99) dX9_lays_98 rfl rfl ?_
    refine g_get (n := 102) fl_X9_45 dX9_lays_99 rfl rfl rfl ?_
    refine g_iconst (v := (-1)) (n := 103) dX9_lays_102 (by decide) rfl ?_
    refine g_ixor (n := 104) dX9_lays_103 rfl ?_
    refine g_iand (n := 105) dX9_lays_104 rfl ?_
    refine g_iastN (n := 106) dX9_lays_105 rfl rfl (by decide) (by omega) ?_
    refine g_wN (w' := [_, _, _, _, _, _, _, _, _]) rfl ?_
    refine g_aload_n (n := 107) dX9_lays_106 rfl rfl ?_
    refine g_iconst (v := nI 0) (n := 108) dX9_lays_107 (by decide) rfl ?_
    refine g_put (n := 111) pf_X9_88 dX9_lays_108 rfl (Nat.le_of_ble_eq_true rfl) (fun _ => rfl) (fun _ => rfl) rfl ?_
    refine g_wN (w' := [_, _, _, _, _, _, _, _, _]) rfl ?_
    refine g_aload_n (n := 112) dX9_lays_111 rfl rfl ?_
    refine g_iconst (v := nI 0) (n := 113) dX9_lays_112 (by decide) rfl ?_
    refine g_put (n := 116) pf_X9_91 dX9_lays_113 rfl (Nat.le_of_ble_eq_true rfl) (fun _ => rfl) (fun _ => rfl) rfl ?_
    refine g_wN (w' := [_, _, _, _, _, _, _, _, _]) rfl ?_
    exact g_vret dX9_lays_116 rfl hz hQ
  ·
    refine g_iload_n (n := 29) dX9_lays_28 rfl rfl ?_
    refine g_bipush (v := nI 23) (n := 31) dX9_lays_29 (by decide) rfl ?_
    refine g_icmp_ge (tgt := 83) (n := 34) dX9_lays_31 (by decide) rfl (fun c31 => absurd c31 (nI_ge hk (by decide))) (fun c31 => ?_)
    refine g_aload_n (n := 35) dX9_lays_34 rfl rfl ?_
    refine g_get (n := 38) fl_X9_22 dX9_lays_35 rfl rfl rfl ?_
    refine g_iload_n (n := 39) dX9_lays_38 rfl rfl ?_
    refine g_iload_n (n := 40) dX9_lays_39 rfl rfl ?_
    refine g_bipush (v := nI 9) (n := 42) dX9_lays_40 (by decide) rfl ?_
    refine g_bipush (v := nI 14) (n := 44) dX9_lays_42 (by decide) rfl ?_
    refine g_callSi (n := 47) cs_X9_52 (t_X9_in l _ _ _) dX9_lays_44 rfl rfl ⟨by decide, by decide, rfl, rfl, hz.1, hz.2⟩ rfl (Nat.le_of_ble_eq_true rfl) rfl ?_
    rw [inB_nI (by omega) (by decide) (by decide)]
    refine g_if_eq (tgt := 75) (n := 50) dX9_lays_47 (by decide) rfl (fun c47 => ?_) (fun c47 => ?_)
    ·
      have b1 := bI_0.mp c47
      simp only [Bool.and_eq_false_iff, decide_eq_false_iff_not] at b1
      have e5 : nI 0 = lyF (vnf V) be k := by unfold lyF; rw [if_neg (by omega)]
      refine g_iconst (v := nI 0) (n := 76) dX9_lays_75 (by decide) rfl ?_
      refine g_iastN (n := 77) dX9_lays_76 rfl rfl (by decide) (by omega) ?_
      refine g_wN (w' := [_, _, _, _, _, _, _, _, _]) rfl ?_
      rw [e5, mix_s]
      refine g_iincN (k := 1) (n := 80) dX9_lays_77 rfl (by decide) rfl rfl ?_
      refine g_lsN (ls' := [_, _]) rfl ?_
      refine g_goto (tgt := 28) dX9_lays_80 (by decide) ?_
      exact ih
    ·
      have b1 := bI_n0.mp c47
      simp only [Bool.and_eq_true, decide_eq_true_eq] at b1
      refine g_iload_n (n := 51) dX9_lays_50 rfl rfl ?_
      refine g_bipush (v := nI 9) (n := 53) dX9_lays_51 (by decide) rfl ?_
      refine g_isubN (n := 54) dX9_lays_53 rfl (by omega) ?_
      refine g_aload_n (n := 55) dX9_lays_54 rfl rfl ?_
      refine g_get (n := 58) fl_X9_13 dX9_lays_55 rfl rfl rfl ?_
      refine g_iconst (v := nI 1) (n := 59) dX9_lays_58 (by decide) rfl ?_
      refine g_ialdN (n := 60) dX9_lays_59 rfl rfl (by decide) (by omega) ?_
      refine g_top (tk_1 _) ?_
      refine g_icmp_ge (tgt := 75) (n := 63) dX9_lays_60 (by decide) rfl (fun c60 => ?_) (fun c60 => ?_)
      ·
        have b2 : ¬ k - 9 < vnf V := fun q => nI_ge q (by omega) c60
        have e5 : nI 0 = lyF (vnf V) be k := by unfold lyF; rw [if_neg (by omega)]
        refine g_iconst (v := nI 0) (n := 76) dX9_lays_75 (by decide) rfl ?_
        refine g_iastN (n := 77) dX9_lays_76 rfl rfl (by decide) (by omega) ?_
        refine g_wN (w' := [_, _, _, _, _, _, _, _, _]) rfl ?_
        rw [e5, mix_s]
        refine g_iincN (k := 1) (n := 80) dX9_lays_77 rfl (by decide) rfl rfl ?_
        refine g_lsN (ls' := [_, _]) rfl ?_
        refine g_goto (tgt := 28) dX9_lays_80 (by decide) ?_
        exact ih
      ·
        have b2 : k - 9 < vnf V := by
          rcases Nat.lt_or_ge (k - 9) (vnf V) with q | q
          · exact q
          · exact absurd (nI_le q (by omega)) c60
        have e5 : be (k - 9) = lyF (vnf V) be k := by unfold lyF; rw [if_pos ⟨b1.1, b1.2, b2⟩]
        refine g_aload_n (n := 64) dX9_lays_63 rfl rfl ?_
        refine g_get (n := 67) fl_X9_19 dX9_lays_64 rfl rfl rfl ?_
        refine g_iload_n (n := 68) dX9_lays_67 rfl rfl ?_
        refine g_bipush (v := nI 9) (n := 70) dX9_lays_68 (by decide) rfl ?_
        refine g_isubN (n := 71) dX9_lays_70 rfl (by omega) ?_
        refine g_ialdN (n := 72) dX9_lays_71 rfl rfl (by decide) (by omega) ?_
        refine g_top (y := be (k - 9)) rfl ?_
        refine g_goto (tgt := 76) dX9_lays_72 (by decide) ?_
        refine g_iastN (n := 77) dX9_lays_76 rfl rfl (by decide) (by omega) ?_
        refine g_wN (w' := [_, _, _, _, _, _, _, _, _]) rfl ?_
        rw [e5, mix_s]
        refine g_iincN (k := 1) (n := 80) dX9_lays_77 rfl (by decide) rfl rfl ?_
        refine g_lsN (ls' := [_, _]) rfl ?_
        refine g_goto (tgt := 28) dX9_lays_80 (by decide) ?_
        exact ih
set_option maxRecDepth 20000 in
theorem lp1_X9_lays (l : Launch) (z : Nat × Nat × Nat) (hz : z.2.1 ≤ 0 ∧ z.2.2 ≤ 0) (Q : Option Value → List va_E → Prop) (e : MR) (to s : Nat → Int32) (V : WT) (hV : okV V) (be : Nat → Int32) (dn at_ : Int32) (hQ : Q none (mw (sPK (sIK (sRd e (tk V) be dn at_) (eIm e) (nI 0)) (ePa e) (nI 0)) (tk V) (upd (mix (lyF (vnf V) be) s 23) 1 ((nI (2 ^ vnf V) - nI 1) &&& (dn ^^^ (-1)))))) (hto : mix (tk V) to 38 = tk V) : ∀ k, k ≤ 38 → G l M_X9_lays z Q 2 [some (.ref 0), some (.int (nI k))] [] (mw (sRd e (tk V) be dn at_) (mix (tk V) to k) s) := by
  refine loopN 38 ?_ (fun k hk ih => ?_)
  ·
    rw [hto]
    refine g_iload_n (n := 3) dX9_lays_2 rfl rfl ?_
    refine g_bipush (v := nI 38) (n := 5) dX9_lays_3 (by decide) rfl ?_
    refine g_icmp_ge (tgt := 26) (n := 8) dX9_lays_5 (by decide) rfl (fun c5 => ?_) (fun c5 => absurd (nI_le (Nat.le_refl _) (by decide)) c5)
    refine g_iconst (v := nI 0) (n := 27) dX9_lays_26 (by decide) rfl ?_
    refine g_istore_n (n := 28) dX9_lays_27 (by decide) rfl rfl ?_
    refine g_lsN (ls' := [_, _]) rfl ?_
    have h2 := lp2_X9_lays l z hz Q e to s V hV be dn at_ hQ 0 (Nat.zero_le _)
    rw [mix_0] at h2
    exact h2
  ·
    refine g_iload_n (n := 3) dX9_lays_2 rfl rfl ?_
    refine g_bipush (v := nI 38) (n := 5) dX9_lays_3 (by decide) rfl ?_
    refine g_icmp_ge (tgt := 26) (n := 8) dX9_lays_5 (by decide) rfl (fun c5 => absurd c5 (nI_ge hk (by decide))) (fun c5 => ?_)
    refine g_aload_n (n := 9) dX9_lays_8 rfl rfl ?_
    refine g_get (n := 12) fl_X9_13 dX9_lays_9 rfl rfl rfl ?_
    refine g_iload_n (n := 13) dX9_lays_12 rfl rfl ?_
    refine g_aload_n (n := 14) dX9_lays_13 rfl rfl ?_
    refine g_get (n := 17) fl_X9_16 dX9_lays_14 rfl rfl rfl ?_
    refine g_iload_n (n := 18) dX9_lays_17 rfl rfl ?_
    refine g_ialdN (n := 19) dX9_lays_18 rfl rfl (by decide) (by omega) ?_
    refine g_iastN (n := 20) dX9_lays_19 rfl rfl (by decide) (by omega) ?_
    refine g_wN (w' := [_, _, _, _, _, _, _, _, _]) rfl ?_
    rw [mix_s]
    refine g_iincN (k := 1) (n := 23) dX9_lays_20 rfl (by decide) rfl rfl ?_
    refine g_lsN (ls' := [_, _]) rfl ?_
    refine g_goto (tgt := 2) dX9_lays_23 (by decide) ?_
    exact ih
theorem lyS_eq (V : WT) (be s : Nat → Int32) (dn : Int32) (hs : ∀ j, 23 ≤ j → s j = 0) : upd (mix (lyF (vnf V) be) s 23) 1 ((nI (2 ^ vnf V) - nI 1) &&& (dn ^^^ (-1))) = pk (lyS V be dn) := by
  funext k
  unfold upd mix lyF pk lyS
  by_cases h1 : k = 1
  · subst h1; rfl
  · rw [if_neg h1]
    by_cases h2 : k < 23
    · rw [if_pos h2]
      by_cases h3 : k < 9
      · rw [if_neg (by omega)]
        by_cases h4 : k < 3
        · rcases (show k = 0 ∨ k = 2 by omega) with rfl | rfl <;> rfl
        · rw [if_neg (by omega), if_neg (by omega), if_neg (by omega), if_pos h3]
      · rw [if_neg (show ¬ k = 0 by omega), if_neg (show ¬ k = 1 by omega), if_neg (show ¬ k = 2 by omega), if_neg h3]
        by_cases h4 : k < 15
        · rw [if_pos h4]
          show _ = boS (vnf V) be (k - 9)
          unfold boS
          by_cases h5 : k - 9 < vnf V
          · rw [if_pos ⟨by omega, by omega, h5⟩, if_pos h5]
          · rw [if_neg (by omega), if_neg h5]
            rfl
        · rw [if_neg (by omega), if_neg h4]
    · rw [if_neg h2, hs k (by omega), if_neg (by omega), if_neg (by omega), if_neg (by omega), if_neg (by omega), if_neg (by omega)]
      rfl
set_option maxRecDepth 20000 in
theorem t_X9_lays (l : Launch) (e : MR) (to s : Nat → Int32) (V : WT) (hV : okV V) (be : Nat → Int32) (dn at_ : Int32) (hs : ∀ j, 23 ≤ j → s j = 0) (hto : ∀ j, 38 ≤ j → to j = 0) (hW : okW V) : Fn l M_X9_lays [.ref 0] (mw (sRd e (tk V) be dn at_) to s) none (mw (sPK (sIK (sRd e (tk V) be dn at_) (eIm e) (nI 0)) (ePa e) (nI 0)) (tk V) (pk (lyS V be dn))) := by
  have em : mix (tk V) to 38 = tk V := by
    funext j
    unfold mix
    by_cases hj : j < 38
    · rw [if_pos hj]
    · rw [if_neg hj, hto j (by omega), tk_big hW (by omega)]
  have h2 := lp1_X9_lays l ((mw (sRd e (tk V) be dn at_) to s).length, 0, 0) ⟨Nat.zero_le _, Nat.zero_le _⟩ (fun r u => r = none ∧ u = (mw (sPK (sIK (sRd e (tk V) be dn at_) (eIm e) (nI 0)) (ePa e) (nI 0)) (tk V) (pk (lyS V be dn)))) e to s V hV be dn at_ ⟨rfl, by rw [lyS_eq V be s dn hs]⟩ em 0 (Nat.zero_le _)
  rw [mix_0] at h2
  refine con_of rfl rfl (Nat.le_of_ble_eq_true rfl) ?_
  refine g_lsN (ls' := [_, _]) rfl ?_
  refine g_iconst (v := nI 0) (n := 1) dX9_lays_0 (by decide) rfl ?_
  refine g_istore_n (n := 2) dX9_lays_1 (by decide) rfl rfl ?_
  refine g_lsN (ls' := [_, _]) rfl ?_
  exact h2
theorem okW_V0 : okW V0 := fun _ _ => rfl
theorem riF_okW (ta : Nat → Nat) (n p a : Nat) (V : WT) (be : Nat → Int32) (dn : Int32) (hV : okV V) (h : okW V) : okW (riF ta n p a V be dn).2.1 := by
  unfold riF
  split
  · show okW (rbF ta n p V).2.1
    unfold rbF
    split
    · exact h
    · split
      · exact h
      · exact h
  · split
    · show okW (rfF ta n p V be).2.1
      unfold rfF
      split
      · exact h
      · split
        · exact h
        · split
          · exact h
          · split
            · exact h
            · next q =>
              simp only [Bool.or_eq_true, decide_eq_true_eq, not_or] at q
              have := hV.2.1
              exact upd_z (show vnf V < 6 by omega) h
    · split
      · unfold rcF
        split
        · exact h
        · exact h
      · split
        · unfold rdF
          split
          · exact h
          · exact h
        · exact h
theorem rdR_okW (ta : Nat → Nat) (n : Nat) : ∀ (k p : Nat) (V : WT) (be : Nat → Int32) (dn : Int32), okV V → okW V → okW (rdR ta n k p V be dn).2.1
  | 0, p, V, be, dn, _, h => h
  | k + 1, p, V, be, dn, hV, h => by
    rw [rdR]
    split
    · split
      · exact rdR_okW ta n k _ _ _ _ (riF_ok ta n _ _ V be dn hV).1 (riF_okW ta n _ _ V be dn hV h)
      · exact riF_okW ta n _ _ V be dn hV h
    · exact h
set_option maxRecDepth 20000 in
theorem t_X9_lay_no1 (l : Launch) (e : MR) (to s dr be : Nat → Int32) (dn at_ : Int32) (ta : Nat → Nat) (n : Nat) (hT : TX e ta n) (hd : ∀ j, 38 ≤ j → dr j = 0) (h : ¬ (rdR ta n 200 0 V0 be (nI 0)).1 = (-4)) : Fn l M_X9_lay [.ref 0] (mw (sRd e dr be dn at_) to s) (some (.int (-2))) (mw (sRd e (tk (rdR ta n 200 0 V0 be (nI 0)).2.1) (rdR ta n 200 0 V0 be (nI 0)).2.2.1 (rdR ta n 200 0 V0 be (nI 0)).2.2.2.1 (nI (rdR ta n 200 0 V0 be (nI 0)).2.2.2.2)) to s) := by
  have hT1 := hT.1
  have hT2 := hT.2.1
  refine con_of rfl rfl (Nat.le_of_ble_eq_true rfl) ?_
  refine g_lsN (ls' := [_]) rfl ?_
  refine g_aload_n (n := 1) dX9_lay_0 rfl rfl ?_
  refine g_callWi (n := 4) cv_X9_84 (t_X9_readsAll l e to s dr be dn at_ ta n hT hd) dX9_lay_1 rfl ⟨by decide, by decide, rfl, rfl, Nat.zero_le _, Nat.zero_le _⟩ rfl rfl rfl (Nat.le_of_ble_eq_true rfl) rfl rfl ?_
  refine g_bipush (v := (-4)) (n := 6) dX9_lay_4 (by decide) rfl ?_
  refine g_icmp_ne (tgt := 18) (n := 9) dX9_lay_6 (by decide) rfl (fun c6 => ?_) (fun c6 => absurd c6 h)
  refine g_bipush (v := (-2)) (n := 20) dX9_lay_18 (by decide) rfl ?_
  exact g_iret (ty := .int) dX9_lay_20 rfl rfl ⟨Nat.zero_le _, Nat.zero_le _⟩ ⟨rfl, rfl⟩
set_option maxRecDepth 20000 in
theorem t_X9_lay_no2 (l : Launch) (e : MR) (to s dr be : Nat → Int32) (dn at_ : Int32) (ta : Nat → Nat) (n : Nat) (hT : TX e ta n) (hd : ∀ j, 38 ≤ j → dr j = 0) (h : (rdR ta n 200 0 V0 be (nI 0)).1 = (-4)) (h0 : vnb (rdR ta n 200 0 V0 be (nI 0)).2.1 = 0) : Fn l M_X9_lay [.ref 0] (mw (sRd e dr be dn at_) to s) (some (.int (-2))) (mw (sRd e (tk (rdR ta n 200 0 V0 be (nI 0)).2.1) (rdR ta n 200 0 V0 be (nI 0)).2.2.1 (rdR ta n 200 0 V0 be (nI 0)).2.2.2.1 (nI (rdR ta n 200 0 V0 be (nI 0)).2.2.2.2)) to s) := by
  have hT1 := hT.1
  have hT2 := hT.2.1
  refine con_of rfl rfl (Nat.le_of_ble_eq_true rfl) ?_
  refine g_lsN (ls' := [_]) rfl ?_
  refine g_aload_n (n := 1) dX9_lay_0 rfl rfl ?_
  refine g_callWi (n := 4) cv_X9_84 (t_X9_readsAll l e to s dr be dn at_ ta n hT hd) dX9_lay_1 rfl ⟨by decide, by decide, rfl, rfl, Nat.zero_le _, Nat.zero_le _⟩ rfl rfl rfl (Nat.le_of_ble_eq_true rfl) rfl rfl ?_
  refine g_bipush (v := (-4)) (n := 6) dX9_lay_4 (by decide) rfl ?_
  refine g_icmp_ne (tgt := 18) (n := 9) dX9_lay_6 (by decide) rfl (fun c6 => absurd h c6) (fun c6 => ?_)
  refine g_aload_n (n := 10) dX9_lay_9 rfl rfl ?_
  refine g_get (n := 13) fl_X9_16 dX9_lay_10 rfl rfl rfl ?_
  refine g_iconst (v := nI 0) (n := 14) dX9_lay_13 (by decide) rfl ?_
  refine g_ialdN (n := 15) dX9_lay_14 rfl rfl (by decide) (by omega) ?_
  refine g_top (tk_0 _) ?_
  refine g_if_ne (tgt := 21) (n := 18) dX9_lay_15 (by decide) rfl (fun c15 => absurd (by rw [h0]; rfl) c15) (fun c15 => ?_)
  refine g_bipush (v := (-2)) (n := 20) dX9_lay_18 (by decide) rfl ?_
  exact g_iret (ty := .int) dX9_lay_20 rfl rfl ⟨Nat.zero_le _, Nat.zero_le _⟩ ⟨rfl, rfl⟩
set_option maxRecDepth 20000 in
theorem t_X9_lay_ok (l : Launch) (e : MR) (to s dr be : Nat → Int32) (dn at_ : Int32) (ta : Nat → Nat) (n : Nat) (hT : TX e ta n) (hd : ∀ j, 38 ≤ j → dr j = 0) (hs : ∀ j, 23 ≤ j → s j = 0) (hto : ∀ j, 38 ≤ j → to j = 0) (h : (rdR ta n 200 0 V0 be (nI 0)).1 = (-4)) (h0 : ¬ vnb (rdR ta n 200 0 V0 be (nI 0)).2.1 = 0) : Fn l M_X9_lay [.ref 0] (mw (sRd e dr be dn at_) to s) (some (.int (nI (vnb (rdR ta n 200 0 V0 be (nI 0)).2.1)))) (mw (sPK (sIK (sRd e (tk (rdR ta n 200 0 V0 be (nI 0)).2.1) (rdR ta n 200 0 V0 be (nI 0)).2.2.1 (rdR ta n 200 0 V0 be (nI 0)).2.2.2.1 (nI (rdR ta n 200 0 V0 be (nI 0)).2.2.2.2)) (eIm e) (nI 0)) (ePa e) (nI 0)) (tk (rdR ta n 200 0 V0 be (nI 0)).2.1) (pk (lyS (rdR ta n 200 0 V0 be (nI 0)).2.1 (rdR ta n 200 0 V0 be (nI 0)).2.2.1 (rdR ta n 200 0 V0 be (nI 0)).2.2.2.1))) := by
  have hT1 := hT.1
  have hT2 := hT.2.1
  have hok : okV (rdR ta n 200 0 V0 be (nI 0)).2.1 := rdR_ok ta n 200 0 V0 be (nI 0) ⟨by decide, by decide, by decide⟩
  have hoW : okW (rdR ta n 200 0 V0 be (nI 0)).2.1 := rdR_okW ta n 200 0 V0 be (nI 0) ⟨by decide, by decide, by decide⟩ okW_V0
  have hnb : vnb (rdR ta n 200 0 V0 be (nI 0)).2.1 ≤ 8 := hok.1
  refine con_of rfl rfl (Nat.le_of_ble_eq_true rfl) ?_
  refine g_lsN (ls' := [_]) rfl ?_
  refine g_aload_n (n := 1) dX9_lay_0 rfl rfl ?_
  refine g_callWi (n := 4) cv_X9_84 (t_X9_readsAll l e to s dr be dn at_ ta n hT hd) dX9_lay_1 rfl ⟨by decide, by decide, rfl, rfl, Nat.zero_le _, Nat.zero_le _⟩ rfl rfl rfl (Nat.le_of_ble_eq_true rfl) rfl rfl ?_
  refine g_bipush (v := (-4)) (n := 6) dX9_lay_4 (by decide) rfl ?_
  refine g_icmp_ne (tgt := 18) (n := 9) dX9_lay_6 (by decide) rfl (fun c6 => absurd h c6) (fun c6 => ?_)
  refine g_aload_n (n := 10) dX9_lay_9 rfl rfl ?_
  refine g_get (n := 13) fl_X9_16 dX9_lay_10 rfl rfl rfl ?_
  refine g_iconst (v := nI 0) (n := 14) dX9_lay_13 (by decide) rfl ?_
  refine g_ialdN (n := 15) dX9_lay_14 rfl rfl (by decide) (by omega) ?_
  refine g_top (tk_0 _) ?_
  refine g_if_ne (tgt := 21) (n := 18) dX9_lay_15 (by decide) rfl (fun c15 => ?_) (fun c15 => absurd c15 (nI_ne0 (by omega) (by omega)))
  refine g_aload_n (n := 22) dX9_lay_21 rfl rfl ?_
  refine g_callWv (n := 25) cv_X9_49 (t_X9_lays l e to s _ hok _ _ _ hs hto hoW) dX9_lay_22 rfl ⟨by decide, by decide, rfl, rfl, Nat.zero_le _, Nat.zero_le _⟩ rfl rfl rfl (Nat.le_of_ble_eq_true rfl) rfl rfl ?_
  refine g_aload_n (n := 26) dX9_lay_25 rfl rfl ?_
  refine g_get (n := 29) fl_X9_13 dX9_lay_26 rfl rfl rfl ?_
  refine g_iconst (v := nI 0) (n := 30) dX9_lay_29 (by decide) rfl ?_
  refine g_ialdN (n := 31) dX9_lay_30 rfl rfl (by decide) (by omega) ?_
  refine g_top (tk_0 _) ?_
  exact g_iret (ty := .int) dX9_lay_31 rfl rfl ⟨Nat.zero_le _, Nat.zero_le _⟩ ⟨rfl, rfl⟩

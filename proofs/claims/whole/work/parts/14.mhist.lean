/-! 14.mhist: the reference: undone, kept, held aside; how long -/
theorem sw (x : Int32) (lo hi : Nat) (h : hi < 1000) : (x.toInt < (lo : Int) ∨ (hi : Int) < x.toInt) ∨ ∃ k : Nat, (lo ≤ k ∧ k ≤ hi) ∧ x = nI k := by
  by_cases h1 : x.toInt < (lo : Int)
  · exact Or.inl (Or.inl h1)
  · by_cases h2 : (hi : Int) < x.toInt
    · exact Or.inl (Or.inr h2)
    · refine Or.inr ⟨x.toInt.toNat, ⟨by omega, by omega⟩, ?_⟩
      apply Int32.toInt_inj.mp
      rw [nI_toInt (by omega)]
      omega
abbrev ePa (e : MR) : Nat → Int32 := e.2.2.2.2.2.1
abbrev eKn (e : MR) : Int32 := e.2.2.2.2.2.2.1
abbrev eIm (e : MR) : Nat → Int32 := e.2.2.2.2.2.2.2.1
abbrev eKe (e : MR) : Int32 := e.2.2.2.2.2.2.2.2.1
abbrev eAs (e : MR) : Nat → Int32 := e.2.2.2.2.2.2.2.2.2.2
abbrev sPK (e : MR) (p : Nat → Int32) (k : Int32) : MR := (e.1, e.2.1, e.2.2.1, e.2.2.2.1, e.2.2.2.2.1, p, k, e.2.2.2.2.2.2.2.1, e.2.2.2.2.2.2.2.2.1, e.2.2.2.2.2.2.2.2.2.1, e.2.2.2.2.2.2.2.2.2.2)
abbrev sIK (e : MR) (p : Nat → Int32) (k : Int32) : MR := (e.1, e.2.1, e.2.2.1, e.2.2.2.1, e.2.2.2.2.1, e.2.2.2.2.2.1, e.2.2.2.2.2.2.1, p, k, e.2.2.2.2.2.2.2.2.2.1, e.2.2.2.2.2.2.2.2.2.2)
abbrev sAs (e : MR) (a : Nat → Int32) : MR := (e.1, e.2.1, e.2.2.1, e.2.2.2.1, e.2.2.2.2.1, e.2.2.2.2.2.1, e.2.2.2.2.2.2.1, e.2.2.2.2.2.2.2.1, e.2.2.2.2.2.2.2.2.1, e.2.2.2.2.2.2.2.2.2.1, a)
abbrev sTx (e : MR) (t : Nat → Int32) (n : Int32) : MR := (t, n, e.2.2)
def wr (p : Nat → Int32) (q : Nat) (s : Nat → Int32) (k : Nat) : Nat → Int32 := fun j => if 23 * q ≤ j ∧ j < 23 * q + k then s (j - 23 * q) else p j
theorem wr_0 (p : Nat → Int32) (q : Nat) (s : Nat → Int32) : wr p q s 0 = p := by
  funext j; unfold wr; rw [if_neg (by omega)]
theorem wr_s (p : Nat → Int32) (q : Nat) (s : Nat → Int32) (k : Nat) : upd (wr p q s k) (23 * q + k) (s k) = wr p q s (k + 1) := by
  funext j
  unfold upd wr
  by_cases h : j = 23 * q + k
  · subst h
    rw [if_pos rfl, if_pos (by omega), Nat.add_sub_cancel_left]
  · rw [if_neg h]
    by_cases h2 : 23 * q ≤ j ∧ j < 23 * q + k
    · rw [if_pos h2, if_pos (by omega)]
    · rw [if_neg h2, if_neg (by omega)]
/-- the past behind one thing more that can be undone -/
def kpP (p : Nat → Int32) (kn : Nat) (s : Nat → Int32) : Nat → Int32 := if kn = 8 then wr (mix (fun j => p (j + 23)) p 161) 7 s 23 else wr p kn s 23
def kpK (kn : Nat) : Nat := if kn = 8 then 8 else kn + 1

set_option maxRecDepth 20000 in
theorem lp2_X9_keeps (l : Launch) (z : Nat × Nat × Nat) (hz : z.2.1 ≤ 0 ∧ z.2.2 ≤ 0) (Q : Option Value → List va_E → Prop) (e : MR) (to s p : Nat → Int32) (q : Nat) (hq : q < 8) (hQ : Q none (mw (sPK e (wr p q s 23) (nI (q + 1))) to s)) : ∀ k, k ≤ 23 → G l M_X9_keeps z Q 51 [some (.ref 0), some (.int (nI k))] [] (mw (sPK e (wr p q s k) (nI q)) to s) := by
  refine loopN (23) ?_ (fun k hk ih => ?_)
  ·
    refine g_iload_n (n := 52) dX9_keeps_51 rfl rfl ?_
    refine g_bipush (v := nI 23) (n := 54) dX9_keeps_52 (by decide) rfl ?_
    refine g_icmp_ge (tgt := 83) (n := 57) dX9_keeps_54 (by decide) rfl (fun c54 => ?_) (fun c54 => absurd (nI_le (Nat.le_refl _) (by decide)) c54)
    refine g_aload_n (n := 84) dX9_keeps_83 rfl rfl ?_
    refine g_dup (n := 85) dX9_keeps_84 rfl rfl ?_
    refine g_get (n := 88) fl_X9_88 dX9_keeps_85 rfl rfl rfl ?_
    refine g_iconst (v := nI 1) (n := 89) dX9_keeps_88 (by decide) rfl ?_
    refine g_iaddN (n := 90) dX9_keeps_89 rfl ?_
    refine g_put (n := 93) pf_X9_88 dX9_keeps_90 rfl (Nat.le_of_ble_eq_true rfl) (fun _ => rfl) (fun _ => rfl) rfl ?_
    refine g_wN (w' := [_, _, _, _, _, _, _, _, _]) rfl ?_
    exact g_vret dX9_keeps_93 rfl hz hQ
  ·
    refine g_iload_n (n := 52) dX9_keeps_51 rfl rfl ?_
    refine g_bipush (v := nI 23) (n := 54) dX9_keeps_52 (by decide) rfl ?_
    refine g_icmp_ge (tgt := 83) (n := 57) dX9_keeps_54 (by decide) rfl (fun c54 => absurd c54 (nI_ge hk (by decide))) (fun c54 => ?_)
    refine g_aload_n (n := 58) dX9_keeps_57 rfl rfl ?_
    refine g_get (n := 61) fl_X9_25 dX9_keeps_58 rfl rfl rfl ?_
    refine g_bipush (v := nI 23) (n := 63) dX9_keeps_61 (by decide) rfl ?_
    refine g_aload_n (n := 64) dX9_keeps_63 rfl rfl ?_
    refine g_get (n := 67) fl_X9_88 dX9_keeps_64 rfl rfl rfl ?_
    refine g_imulN (n := 68) dX9_keeps_67 rfl ?_
    refine g_iload_n (n := 69) dX9_keeps_68 rfl rfl ?_
    refine g_iaddN (n := 70) dX9_keeps_69 rfl ?_
    refine g_aload_n (n := 71) dX9_keeps_70 rfl rfl ?_
    refine g_get (n := 74) fl_X9_22 dX9_keeps_71 rfl rfl rfl ?_
    refine g_iload_n (n := 75) dX9_keeps_74 rfl rfl ?_
    refine g_ialdN (n := 76) dX9_keeps_75 rfl rfl (by decide) (by omega) ?_
    refine g_iastN (n := 77) dX9_keeps_76 rfl rfl (by decide) (by omega) ?_
    refine g_wN (w' := [_, _, _, _, _, _, _, _, _]) rfl ?_
    rw [wr_s]
    refine g_iincN (k := 1) (n := 80) dX9_keeps_77 rfl (by decide) rfl rfl ?_
    refine g_lsN (ls' := [_, _]) rfl ?_
    refine g_goto (tgt := 51) dX9_keeps_80 (by decide) ?_
    exact ih
set_option maxRecDepth 20000 in
theorem lp1_X9_keeps (l : Launch) (z : Nat × Nat × Nat) (hz : z.2.1 ≤ 0 ∧ z.2.2 ≤ 0) (Q : Option Value → List va_E → Prop) (e : MR) (to s p : Nat → Int32) (hQ : Q none (mw (sPK e (wr (mix (fun j => p (j + 23)) p 161) 7 s 23) (nI 8)) to s)) : ∀ k, k ≤ 161 → G l M_X9_keeps z Q 11 [some (.ref 0), some (.int (nI k))] [] (mw (sPK e (mix (fun j => p (j + 23)) p k) (nI 8)) to s) := by
  refine loopN (161) ?_ (fun k hk ih => ?_)
  ·
    refine g_iload_n (n := 12) dX9_keeps_11 rfl rfl ?_
    refine g_sipush (v := nI 161) (n := 15) dX9_keeps_12 (by decide) rfl ?_
    refine g_icmp_ge (tgt := 39) (n := 18) dX9_keeps_15 (by decide) rfl (fun c15 => ?_) (fun c15 => absurd (nI_le (Nat.le_refl _) (by decide)) c15)
    refine g_aload_n (n := 40) dX9_keeps_39 rfl rfl ?_
    refine g_dup (n := 41) dX9_keeps_40 rfl rfl ?_
    refine g_get (n := 44) fl_X9_88 dX9_keeps_41 rfl rfl rfl ?_
    refine g_iconst (v := nI 1) (n := 45) dX9_keeps_44 (by decide) rfl ?_
    refine g_isubN (n := 46) dX9_keeps_45 rfl (by decide) ?_
    refine g_put (n := 49) pf_X9_88 dX9_keeps_46 rfl (Nat.le_of_ble_eq_true rfl) (fun _ => rfl) (fun _ => rfl) rfl ?_
    refine g_wN (w' := [_, _, _, _, _, _, _, _, _]) rfl ?_
    refine g_iconst (v := nI 0) (n := 50) dX9_keeps_49 (by decide) rfl ?_
    refine g_istore_n (n := 51) dX9_keeps_50 (by decide) rfl rfl ?_
    refine g_lsN (ls' := [_, _]) rfl ?_
    have h2 := lp2_X9_keeps l z hz Q e to s (mix (fun j => p (j + 23)) p 161) 7 (by decide) hQ 0 (Nat.zero_le _)
    rw [wr_0] at h2
    exact h2
  ·
    refine g_iload_n (n := 12) dX9_keeps_11 rfl rfl ?_
    refine g_sipush (v := nI 161) (n := 15) dX9_keeps_12 (by decide) rfl ?_
    refine g_icmp_ge (tgt := 39) (n := 18) dX9_keeps_15 (by decide) rfl (fun c15 => absurd c15 (nI_ge hk (by decide))) (fun c15 => ?_)
    refine g_aload_n (n := 19) dX9_keeps_18 rfl rfl ?_
    refine g_get (n := 22) fl_X9_25 dX9_keeps_19 rfl rfl rfl ?_
    refine g_iload_n (n := 23) dX9_keeps_22 rfl rfl ?_
    refine g_aload_n (n := 24) dX9_keeps_23 rfl rfl ?_
    refine g_get (n := 27) fl_X9_25 dX9_keeps_24 rfl rfl rfl ?_
    refine g_iload_n (n := 28) dX9_keeps_27 rfl rfl ?_
    refine g_bipush (v := nI 23) (n := 30) dX9_keeps_28 (by decide) rfl ?_
    refine g_iaddN (n := 31) dX9_keeps_30 rfl ?_
    refine g_ialdN (n := 32) dX9_keeps_31 rfl rfl (by decide) (by omega) ?_
    refine g_top (y := p (k + 23)) (show mix (fun j => p (j + 23)) p k (k + 23) = p (k + 23) by unfold mix; rw [if_neg (by omega)]) ?_
    refine g_iastN (n := 33) dX9_keeps_32 rfl rfl (by decide) (by omega) ?_
    refine g_wN (w' := [_, _, _, _, _, _, _, _, _]) rfl ?_
    rw [mix_s (fun j => p (j + 23)) p k]
    refine g_iincN (k := 1) (n := 36) dX9_keeps_33 rfl (by decide) rfl rfl ?_
    refine g_lsN (ls' := [_, _]) rfl ?_
    refine g_goto (tgt := 11) dX9_keeps_36 (by decide) ?_
    exact ih
set_option maxRecDepth 20000 in
theorem t_X9_keeps (l : Launch) (e : MR) (to s : Nat → Int32) (kn : Nat) (hk8 : kn ≤ 8) (hk : eKn e = nI kn) : Fn l M_X9_keeps [.ref 0] (mw e to s) none (mw (sPK e (kpP (ePa e) kn s) (nI (kpK kn))) to s) := by
  refine con_of rfl rfl (Nat.le_of_ble_eq_true rfl) ?_
  refine g_lsN (ls' := [_, _]) rfl ?_
  refine g_aload_n (n := 1) dX9_keeps_0 rfl rfl ?_
  refine g_get (n := 4) fl_X9_88 dX9_keeps_1 rfl rfl rfl ?_
  refine g_top hk ?_
  refine g_bipush (v := nI 8) (n := 6) dX9_keeps_4 (by decide) rfl ?_
  refine g_icmp_ne (tgt := 49) (n := 9) dX9_keeps_6 (by decide) rfl (fun c6 => ?_) (fun c6 => ?_)
  ·
    have hn : ¬ kn = 8 := fun q => c6 (by rw [q])
    have h2 := lp2_X9_keeps l ((mw e to s).length, 0, 0) ⟨Nat.zero_le _, Nat.zero_le _⟩ (fun r u => r = none ∧ u = mw (sPK e (kpP (ePa e) kn s) (nI (kpK kn))) to s) e to s (ePa e) kn (by omega) ⟨rfl, by unfold kpP kpK; rw [if_neg hn, if_neg hn]⟩ 0 (Nat.zero_le _)
    rw [wr_0, ← hk] at h2
    refine g_iconst (v := nI 0) (n := 50) dX9_keeps_49 (by decide) rfl ?_
    refine g_istore_n (n := 51) dX9_keeps_50 (by decide) rfl rfl ?_
    refine g_lsN (ls' := [_, _]) rfl ?_
    exact h2
  ·
    have hn : kn = 8 := (nI_eq (by omega) (by omega)).mp c6
    subst hn
    have h1 := lp1_X9_keeps l ((mw e to s).length, 0, 0) ⟨Nat.zero_le _, Nat.zero_le _⟩ (fun r u => r = none ∧ u = mw (sPK e (kpP (ePa e) 8 s) (nI (kpK 8))) to s) e to s (ePa e) ⟨rfl, rfl⟩ 0 (Nat.zero_le _)
    rw [mix_0, ← hk] at h1
    refine g_iconst (v := nI 0) (n := 10) dX9_keeps_9 (by decide) rfl ?_
    refine g_istore_n (n := 11) dX9_keeps_10 (by decide) rfl rfl ?_
    refine g_lsN (ls' := [_, _]) rfl ?_
    exact h1
set_option maxRecDepth 20000 in
theorem lp_X9_holds (l : Launch) (z : Nat × Nat × Nat) (hz : z.2.1 ≤ 0 ∧ z.2.2 ≤ 0) (Q : Option Value → List va_E → Prop) (e : MR) (to s a : Nat → Int32) (hQ : Q none (mw (sAs e (mix s a 23)) to s)) : ∀ k, k ≤ 23 → G l M_X9_holds z Q 2 [some (.ref 0), some (.int (nI k))] [] (mw (sAs e (mix s a k)) to s) := by
  refine loopN (23) ?_ (fun k hk ih => ?_)
  ·
    refine g_iload_n (n := 3) dX9_holds_2 rfl rfl ?_
    refine g_bipush (v := nI 23) (n := 5) dX9_holds_3 (by decide) rfl ?_
    refine g_icmp_ge (tgt := 26) (n := 8) dX9_holds_5 (by decide) rfl (fun c5 => ?_) (fun c5 => absurd (nI_le (Nat.le_refl _) (by decide)) c5)
    exact g_vret dX9_holds_26 rfl hz hQ
  ·
    refine g_iload_n (n := 3) dX9_holds_2 rfl rfl ?_
    refine g_bipush (v := nI 23) (n := 5) dX9_holds_3 (by decide) rfl ?_
    refine g_icmp_ge (tgt := 26) (n := 8) dX9_holds_5 (by decide) rfl (fun c5 => absurd c5 (nI_ge hk (by decide))) (fun c5 => ?_)
    refine g_aload_n (n := 9) dX9_holds_8 rfl rfl ?_
    refine g_get (n := 12) fl_X9_31 dX9_holds_9 rfl rfl rfl ?_
    refine g_iload_n (n := 13) dX9_holds_12 rfl rfl ?_
    refine g_aload_n (n := 14) dX9_holds_13 rfl rfl ?_
    refine g_get (n := 17) fl_X9_22 dX9_holds_14 rfl rfl rfl ?_
    refine g_iload_n (n := 18) dX9_holds_17 rfl rfl ?_
    refine g_ialdN (n := 19) dX9_holds_18 rfl rfl (by decide) (by omega) ?_
    refine g_iastN (n := 20) dX9_holds_19 rfl rfl (by decide) (by omega) ?_
    refine g_wN (w' := [_, _, _, _, _, _, _, _, _]) rfl ?_
    rw [mix_s]
    refine g_iincN (k := 1) (n := 23) dX9_holds_20 rfl (by decide) rfl rfl ?_
    refine g_lsN (ls' := [_, _]) rfl ?_
    refine g_goto (tgt := 2) dX9_holds_23 (by decide) ?_
    exact ih
set_option maxRecDepth 20000 in
theorem lp_X9_lets (l : Launch) (z : Nat × Nat × Nat) (hz : z.2.1 ≤ 0 ∧ z.2.2 ≤ 0) (Q : Option Value → List va_E → Prop) (e : MR) (to s : Nat → Int32) (hQ : Q none (mw e to (mix (eAs e) s 23))) : ∀ k, k ≤ 23 → G l M_X9_lets z Q 2 [some (.ref 0), some (.int (nI k))] [] (mw e to (mix (eAs e) s k)) := by
  refine loopN (23) ?_ (fun k hk ih => ?_)
  ·
    refine g_iload_n (n := 3) dX9_lets_2 rfl rfl ?_
    refine g_bipush (v := nI 23) (n := 5) dX9_lets_3 (by decide) rfl ?_
    refine g_icmp_ge (tgt := 26) (n := 8) dX9_lets_5 (by decide) rfl (fun c5 => ?_) (fun c5 => absurd (nI_le (Nat.le_refl _) (by decide)) c5)
    exact g_vret dX9_lets_26 rfl hz hQ
  ·
    refine g_iload_n (n := 3) dX9_lets_2 rfl rfl ?_
    refine g_bipush (v := nI 23) (n := 5) dX9_lets_3 (by decide) rfl ?_
    refine g_icmp_ge (tgt := 26) (n := 8) dX9_lets_5 (by decide) rfl (fun c5 => absurd c5 (nI_ge hk (by decide))) (fun c5 => ?_)
    refine g_aload_n (n := 9) dX9_lets_8 rfl rfl ?_
    refine g_get (n := 12) fl_X9_22 dX9_lets_9 rfl rfl rfl ?_
    refine g_iload_n (n := 13) dX9_lets_12 rfl rfl ?_
    refine g_aload_n (n := 14) dX9_lets_13 rfl rfl ?_
    refine g_get (n := 17) fl_X9_31 dX9_lets_14 rfl rfl rfl ?_
    refine g_iload_n (n := 18) dX9_lets_17 rfl rfl ?_
    refine g_ialdN (n := 19) dX9_lets_18 rfl rfl (by decide) (by omega) ?_
    refine g_iastN (n := 20) dX9_lets_19 rfl rfl (by decide) (by omega) ?_
    refine g_wN (w' := [_, _, _, _, _, _, _, _, _]) rfl ?_
    rw [mix_s]
    refine g_iincN (k := 1) (n := 23) dX9_lets_20 rfl (by decide) rfl rfl ?_
    refine g_lsN (ls' := [_, _]) rfl ?_
    refine g_goto (tgt := 2) dX9_lets_23 (by decide) ?_
    exact ih
/-- nothing stands beyond the rows -/
def okZ (S : ST) : Prop := (∀ j, 6 ≤ j → sti S j = 0) ∧ (∀ j, 6 ≤ j → sbo S j = 0) ∧ (∀ j, 8 ≤ j → sun S j = 0)
theorem pk_big (S : ST) (h : okZ S) {j : Nat} (hj : 23 ≤ j) : pk S j = 0 := by
  unfold pk
  rw [if_neg (by omega), if_neg (by omega), if_neg (by omega), if_neg (by omega), if_neg (by omega)]
  exact h.2.2 _ (by omega)
theorem mix_23 {a b : Nat → Int32} (h : ∀ j, 23 ≤ j → a j = b j) : mix a b 23 = a := by
  funext j
  unfold mix
  by_cases hj : j < 23
  · rw [if_pos hj]
  · rw [if_neg hj, h j (by omega)]

set_option maxRecDepth 20000 in
theorem t_X9_holds (l : Launch) (e : MR) (to : Nat → Int32) (S : ST) (hS : okZ S) (ha : ∀ j, 23 ≤ j → eAs e j = 0) : Fn l M_X9_holds [.ref 0] (mw e to (pk S)) none (mw (sAs e (pk S)) to (pk S)) := by
  have em : mix (pk S) (eAs e) 23 = pk S := mix_23 (fun j hj => by rw [pk_big S hS hj, ha j hj])
  have h2 := lp_X9_holds l ((mw e to (pk S)).length, 0, 0) ⟨Nat.zero_le _, Nat.zero_le _⟩ (fun r u => r = none ∧ u = mw (sAs e (pk S)) to (pk S)) e to (pk S) (eAs e) ⟨rfl, by rw [em]⟩ 0 (Nat.zero_le _)
  rw [mix_0] at h2
  refine con_of rfl rfl (Nat.le_of_ble_eq_true rfl) ?_
  refine g_lsN (ls' := [_, _]) rfl ?_
  refine g_iconst (v := nI 0) (n := 1) dX9_holds_0 (by decide) rfl ?_
  refine g_istore_n (n := 2) dX9_holds_1 (by decide) rfl rfl ?_
  refine g_lsN (ls' := [_, _]) rfl ?_
  exact h2
set_option maxRecDepth 20000 in
theorem t_X9_lets (l : Launch) (e : MR) (to : Nat → Int32) (S S0 : ST) (hS : okZ S) (hS0 : okZ S0) (ha : eAs e = pk S0) : Fn l M_X9_lets [.ref 0] (mw e to (pk S)) none (mw e to (pk S0)) := by
  have em : mix (eAs e) (pk S) 23 = pk S0 := by
    rw [ha]
    exact mix_23 (fun j hj => by rw [pk_big S hS hj, pk_big S0 hS0 hj])
  have h2 := lp_X9_lets l ((mw e to (pk S)).length, 0, 0) ⟨Nat.zero_le _, Nat.zero_le _⟩ (fun r u => r = none ∧ u = mw e to (pk S0)) e to (pk S) ⟨rfl, by rw [em]⟩ 0 (Nat.zero_le _)
  rw [mix_0] at h2
  refine con_of rfl rfl (Nat.le_of_ble_eq_true rfl) ?_
  refine g_lsN (ls' := [_, _]) rfl ?_
  refine g_iconst (v := nI 0) (n := 1) dX9_lets_0 (by decide) rfl ?_
  refine g_istore_n (n := 2) dX9_lets_1 (by decide) rfl rfl ?_
  refine g_lsN (ls' := [_, _]) rfl ?_
  exact h2
set_option maxRecDepth 20000 in
theorem lp_X9_undo (l : Launch) (z : Nat × Nat × Nat) (hz : z.2.1 ≤ 0 ∧ z.2.2 ≤ 0) (Q : Option Value → List va_E → Prop) (e : MR) (to s : Nat → Int32) (q : Nat) (hq : q < 8) (hQ : Q (some (.int (nI q))) (mw (sPK e (ePa e) (nI q)) to (mix (fun j => ePa e (23 * q + j)) s 23))) : ∀ k, k ≤ 23 → G l M_X9_undo z Q 22 [some (.ref 0), some (.int (nI k))] [] (mw (sPK e (ePa e) (nI q)) to (mix (fun j => ePa e (23 * q + j)) s k)) := by
  refine loopN (23) ?_ (fun k hk ih => ?_)
  ·
    refine g_iload_n (n := 23) dX9_undo_22 rfl rfl ?_
    refine g_bipush (v := nI 23) (n := 25) dX9_undo_23 (by decide) rfl ?_
    refine g_icmp_ge (tgt := 54) (n := 28) dX9_undo_25 (by decide) rfl (fun c25 => ?_) (fun c25 => absurd (nI_le (Nat.le_refl _) (by decide)) c25)
    refine g_aload_n (n := 55) dX9_undo_54 rfl rfl ?_
    refine g_get (n := 58) fl_X9_88 dX9_undo_55 rfl rfl rfl ?_
    exact g_iret (ty := .int) dX9_undo_58 rfl rfl hz hQ
  ·
    refine g_iload_n (n := 23) dX9_undo_22 rfl rfl ?_
    refine g_bipush (v := nI 23) (n := 25) dX9_undo_23 (by decide) rfl ?_
    refine g_icmp_ge (tgt := 54) (n := 28) dX9_undo_25 (by decide) rfl (fun c25 => absurd c25 (nI_ge hk (by decide))) (fun c25 => ?_)
    refine g_aload_n (n := 29) dX9_undo_28 rfl rfl ?_
    refine g_get (n := 32) fl_X9_22 dX9_undo_29 rfl rfl rfl ?_
    refine g_iload_n (n := 33) dX9_undo_32 rfl rfl ?_
    refine g_aload_n (n := 34) dX9_undo_33 rfl rfl ?_
    refine g_get (n := 37) fl_X9_25 dX9_undo_34 rfl rfl rfl ?_
    refine g_bipush (v := nI 23) (n := 39) dX9_undo_37 (by decide) rfl ?_
    refine g_aload_n (n := 40) dX9_undo_39 rfl rfl ?_
    refine g_get (n := 43) fl_X9_88 dX9_undo_40 rfl rfl rfl ?_
    refine g_imulN (n := 44) dX9_undo_43 rfl ?_
    refine g_iload_n (n := 45) dX9_undo_44 rfl rfl ?_
    refine g_iaddN (n := 46) dX9_undo_45 rfl ?_
    refine g_ialdN (n := 47) dX9_undo_46 rfl rfl (by decide) (by omega) ?_
    refine g_iastN (n := 48) dX9_undo_47 rfl rfl (by decide) (by omega) ?_
    refine g_wN (w' := [_, _, _, _, _, _, _, _, _]) rfl ?_
    rw [mix_s (fun j => ePa e (23 * q + j)) s k]
    refine g_iincN (k := 1) (n := 51) dX9_undo_48 rfl (by decide) rfl rfl ?_
    refine g_lsN (ls' := [_, _]) rfl ?_
    refine g_goto (tgt := 22) dX9_undo_51 (by decide) ?_
    exact ih
set_option maxRecDepth 20000 in
theorem t_X9_undo (l : Launch) (e : MR) (to s : Nat → Int32) (kn : Nat) (hk8 : kn ≤ 8) (hk : eKn e = nI kn) : Fn l M_X9_undo [.ref 0] (mw e to s) (some (.int (if kn = 0 then (-2) else nI (kn - 1)))) (mw (sPK e (ePa e) (nI (kn - 1))) to (if kn = 0 then s else mix (fun j => ePa e (23 * (kn - 1) + j)) s 23)) := by
  refine con_of rfl rfl (Nat.le_of_ble_eq_true rfl) ?_
  refine g_lsN (ls' := [_, _]) rfl ?_
  refine g_aload_n (n := 1) dX9_undo_0 rfl rfl ?_
  refine g_get (n := 4) fl_X9_88 dX9_undo_1 rfl rfl rfl ?_
  refine g_top hk ?_
  refine g_if_ne (tgt := 10) (n := 7) dX9_undo_4 (by decide) rfl (fun c4 => ?_) (fun c4 => ?_)
  ·
    have hn : ¬ kn = 0 := fun q => c4 (by rw [q]; rfl)
    have h2 := lp_X9_undo l ((mw e to s).length, 0, 0) ⟨Nat.zero_le _, Nat.zero_le _⟩ (fun r u => r = some (.int (if kn = 0 then (-2) else nI (kn - 1))) ∧ u = (mw (sPK e (ePa e) (nI (kn - 1))) to (if kn = 0 then s else mix (fun j => ePa e (23 * (kn - 1) + j)) s 23))) e to s (kn - 1) (by omega) ⟨by rw [if_neg hn], by rw [if_neg hn]⟩ 0 (Nat.zero_le _)
    rw [mix_0] at h2
    refine g_aload_n (n := 11) dX9_undo_10 rfl rfl ?_
    refine g_dup (n := 12) dX9_undo_11 rfl rfl ?_
    refine g_get (n := 15) fl_X9_88 dX9_undo_12 rfl rfl rfl ?_
    refine g_top hk ?_
    refine g_iconst (v := nI 1) (n := 16) dX9_undo_15 (by decide) rfl ?_
    refine g_isubN (n := 17) dX9_undo_16 rfl (by omega) ?_
    refine g_put (n := 20) pf_X9_88 dX9_undo_17 rfl (Nat.le_of_ble_eq_true rfl) (fun _ => rfl) (fun _ => rfl) rfl ?_
    refine g_wN (w' := [_, _, _, _, _, _, _, _, _]) rfl ?_
    refine g_iconst (v := nI 0) (n := 21) dX9_undo_20 (by decide) rfl ?_
    refine g_istore_n (n := 22) dX9_undo_21 (by decide) rfl rfl ?_
    refine g_lsN (ls' := [_, _]) rfl ?_
    exact h2
  ·
    have hn : kn = 0 := by
      rcases Nat.eq_zero_or_pos kn with q | q
      · exact q
      · exact absurd c4 (nI_ne0 q (by omega))
    subst hn
    refine g_bipush (v := (-2)) (n := 9) dX9_undo_7 (by decide) rfl ?_
    exact g_iret (ty := .int) dX9_undo_9 rfl rfl ⟨Nat.zero_le _, Nat.zero_le _⟩ ⟨rfl, by rw [if_pos rfl, ← hk]⟩
set_option maxRecDepth 20000 in
theorem lp_X9_keep (l : Launch) (z : Nat × Nat × Nat) (hz : z.2.1 ≤ 0 ∧ z.2.2 ≤ 0) (Q : Option Value → List va_E → Prop) (e : MR) (to s p : Nat → Int32) (q : Nat) (hq : q < 2) (hQ : Q (some (.int (nI (q + 1)))) (mw (sIK e (wr p q s 23) (nI (q + 1))) to s)) : ∀ k, k ≤ 23 → G l M_X9_keep z Q 13 [some (.ref 0), some (.int (nI k))] [] (mw (sIK e (wr p q s k) (nI q)) to s) := by
  refine loopN (23) ?_ (fun k hk ih => ?_)
  ·
    refine g_iload_n (n := 14) dX9_keep_13 rfl rfl ?_
    refine g_bipush (v := nI 23) (n := 16) dX9_keep_14 (by decide) rfl ?_
    refine g_icmp_ge (tgt := 45) (n := 19) dX9_keep_16 (by decide) rfl (fun c16 => ?_) (fun c16 => absurd (nI_le (Nat.le_refl _) (by decide)) c16)
    refine g_aload_n (n := 46) dX9_keep_45 rfl rfl ?_
    refine g_dup (n := 47) dX9_keep_46 rfl rfl ?_
    refine g_get (n := 50) fl_X9_91 dX9_keep_47 rfl rfl rfl ?_
    refine g_iconst (v := nI 1) (n := 51) dX9_keep_50 (by decide) rfl ?_
    refine g_iaddN (n := 52) dX9_keep_51 rfl ?_
    refine g_put (n := 55) pf_X9_91 dX9_keep_52 rfl (Nat.le_of_ble_eq_true rfl) (fun _ => rfl) (fun _ => rfl) rfl ?_
    refine g_wN (w' := [_, _, _, _, _, _, _, _, _]) rfl ?_
    refine g_aload_n (n := 56) dX9_keep_55 rfl rfl ?_
    refine g_get (n := 59) fl_X9_91 dX9_keep_56 rfl rfl rfl ?_
    exact g_iret (ty := .int) dX9_keep_59 rfl rfl hz hQ
  ·
    refine g_iload_n (n := 14) dX9_keep_13 rfl rfl ?_
    refine g_bipush (v := nI 23) (n := 16) dX9_keep_14 (by decide) rfl ?_
    refine g_icmp_ge (tgt := 45) (n := 19) dX9_keep_16 (by decide) rfl (fun c16 => absurd c16 (nI_ge hk (by decide))) (fun c16 => ?_)
    refine g_aload_n (n := 20) dX9_keep_19 rfl rfl ?_
    refine g_get (n := 23) fl_X9_28 dX9_keep_20 rfl rfl rfl ?_
    refine g_bipush (v := nI 23) (n := 25) dX9_keep_23 (by decide) rfl ?_
    refine g_aload_n (n := 26) dX9_keep_25 rfl rfl ?_
    refine g_get (n := 29) fl_X9_91 dX9_keep_26 rfl rfl rfl ?_
    refine g_imulN (n := 30) dX9_keep_29 rfl ?_
    refine g_iload_n (n := 31) dX9_keep_30 rfl rfl ?_
    refine g_iaddN (n := 32) dX9_keep_31 rfl ?_
    refine g_aload_n (n := 33) dX9_keep_32 rfl rfl ?_
    refine g_get (n := 36) fl_X9_22 dX9_keep_33 rfl rfl rfl ?_
    refine g_iload_n (n := 37) dX9_keep_36 rfl rfl ?_
    refine g_ialdN (n := 38) dX9_keep_37 rfl rfl (by decide) (by omega) ?_
    refine g_iastN (n := 39) dX9_keep_38 rfl rfl (by decide) (by omega) ?_
    refine g_wN (w' := [_, _, _, _, _, _, _, _, _]) rfl ?_
    rw [wr_s]
    refine g_iincN (k := 1) (n := 42) dX9_keep_39 rfl (by decide) rfl rfl ?_
    refine g_lsN (ls' := [_, _]) rfl ?_
    refine g_goto (tgt := 13) dX9_keep_42 (by decide) ?_
    exact ih
set_option maxRecDepth 20000 in
theorem t_X9_keep (l : Launch) (e : MR) (to s : Nat → Int32) (ke : Nat) (hk8 : ke ≤ 2) (hk : eKe e = nI ke) : Fn l M_X9_keep [.ref 0] (mw e to s) (some (.int (if ke = 2 then (-3) else nI (ke + 1)))) (mw (if ke = 2 then e else sIK e (wr (eIm e) ke s 23) (nI (ke + 1))) to s) := by
  refine con_of rfl rfl (Nat.le_of_ble_eq_true rfl) ?_
  refine g_lsN (ls' := [_, _]) rfl ?_
  refine g_aload_n (n := 1) dX9_keep_0 rfl rfl ?_
  refine g_get (n := 4) fl_X9_91 dX9_keep_1 rfl rfl rfl ?_
  refine g_top hk ?_
  refine g_iconst (v := nI 2) (n := 5) dX9_keep_4 (by decide) rfl ?_
  refine g_icmp_ne (tgt := 11) (n := 8) dX9_keep_5 (by decide) rfl (fun c5 => ?_) (fun c5 => ?_)
  ·
    have hn : ¬ ke = 2 := fun q => c5 (by rw [q])
    have h2 := lp_X9_keep l ((mw e to s).length, 0, 0) ⟨Nat.zero_le _, Nat.zero_le _⟩ (fun r u => r = some (.int (if ke = 2 then (-3) else nI (ke + 1))) ∧ u = (mw (if ke = 2 then e else sIK e (wr (eIm e) ke s 23) (nI (ke + 1))) to s)) e to s (eIm e) ke (by omega) ⟨by rw [if_neg hn], by rw [if_neg hn]⟩ 0 (Nat.zero_le _)
    rw [wr_0, ← hk] at h2
    refine g_iconst (v := nI 0) (n := 12) dX9_keep_11 (by decide) rfl ?_
    refine g_istore_n (n := 13) dX9_keep_12 (by decide) rfl rfl ?_
    refine g_lsN (ls' := [_, _]) rfl ?_
    exact h2
  ·
    have hn : ke = 2 := (nI_eq (by omega) (by omega)).mp c5
    subst hn
    refine g_bipush (v := (-3)) (n := 10) dX9_keep_8 (by decide) rfl ?_
    exact g_iret (ty := .int) dX9_keep_10 rfl rfl ⟨Nat.zero_le _, Nat.zero_le _⟩ ⟨rfl, rfl⟩
set_option maxRecDepth 20000 in
theorem lp_X9_back (l : Launch) (z : Nat × Nat × Nat) (hz : z.2.1 ≤ 0 ∧ z.2.2 ≤ 0) (Q : Option Value → List va_E → Prop) (e : MR) (to s : Nat → Int32) (q : Nat) (hq : q < 2) (hQ : Q (some (.int (nI q))) (mw (sPK (sIK e (eIm e) (nI q)) (ePa e) (nI 0)) to (mix (fun j => eIm e (23 * q + j)) s 23))) : ∀ k, k ≤ 23 → G l M_X9_back z Q 22 [some (.ref 0), some (.int (nI k))] [] (mw (sIK e (eIm e) (nI q)) to (mix (fun j => eIm e (23 * q + j)) s k)) := by
  refine loopN (23) ?_ (fun k hk ih => ?_)
  ·
    refine g_iload_n (n := 23) dX9_back_22 rfl rfl ?_
    refine g_bipush (v := nI 23) (n := 25) dX9_back_23 (by decide) rfl ?_
    refine g_icmp_ge (tgt := 54) (n := 28) dX9_back_25 (by decide) rfl (fun c25 => ?_) (fun c25 => absurd (nI_le (Nat.le_refl _) (by decide)) c25)
    refine g_aload_n (n := 55) dX9_back_54 rfl rfl ?_
    refine g_iconst (v := nI 0) (n := 56) dX9_back_55 (by decide) rfl ?_
    refine g_put (n := 59) pf_X9_88 dX9_back_56 rfl (Nat.le_of_ble_eq_true rfl) (fun _ => rfl) (fun _ => rfl) rfl ?_
    refine g_wN (w' := [_, _, _, _, _, _, _, _, _]) rfl ?_
    refine g_aload_n (n := 60) dX9_back_59 rfl rfl ?_
    refine g_get (n := 63) fl_X9_91 dX9_back_60 rfl rfl rfl ?_
    exact g_iret (ty := .int) dX9_back_63 rfl rfl hz hQ
  ·
    refine g_iload_n (n := 23) dX9_back_22 rfl rfl ?_
    refine g_bipush (v := nI 23) (n := 25) dX9_back_23 (by decide) rfl ?_
    refine g_icmp_ge (tgt := 54) (n := 28) dX9_back_25 (by decide) rfl (fun c25 => absurd c25 (nI_ge hk (by decide))) (fun c25 => ?_)
    refine g_aload_n (n := 29) dX9_back_28 rfl rfl ?_
    refine g_get (n := 32) fl_X9_22 dX9_back_29 rfl rfl rfl ?_
    refine g_iload_n (n := 33) dX9_back_32 rfl rfl ?_
    refine g_aload_n (n := 34) dX9_back_33 rfl rfl ?_
    refine g_get (n := 37) fl_X9_28 dX9_back_34 rfl rfl rfl ?_
    refine g_bipush (v := nI 23) (n := 39) dX9_back_37 (by decide) rfl ?_
    refine g_aload_n (n := 40) dX9_back_39 rfl rfl ?_
    refine g_get (n := 43) fl_X9_91 dX9_back_40 rfl rfl rfl ?_
    refine g_imulN (n := 44) dX9_back_43 rfl ?_
    refine g_iload_n (n := 45) dX9_back_44 rfl rfl ?_
    refine g_iaddN (n := 46) dX9_back_45 rfl ?_
    refine g_ialdN (n := 47) dX9_back_46 rfl rfl (by decide) (by omega) ?_
    refine g_iastN (n := 48) dX9_back_47 rfl rfl (by decide) (by omega) ?_
    refine g_wN (w' := [_, _, _, _, _, _, _, _, _]) rfl ?_
    rw [mix_s (fun j => eIm e (23 * q + j)) s k]
    refine g_iincN (k := 1) (n := 51) dX9_back_48 rfl (by decide) rfl rfl ?_
    refine g_lsN (ls' := [_, _]) rfl ?_
    refine g_goto (tgt := 22) dX9_back_51 (by decide) ?_
    exact ih
set_option maxRecDepth 20000 in
theorem t_X9_back (l : Launch) (e : MR) (to s : Nat → Int32) (ke : Nat) (hk8 : ke ≤ 2) (hk : eKe e = nI ke) : Fn l M_X9_back [.ref 0] (mw e to s) (some (.int (if ke = 0 then (-2) else nI (ke - 1)))) (mw (if ke = 0 then e else sPK (sIK e (eIm e) (nI (ke - 1))) (ePa e) (nI 0)) to (if ke = 0 then s else mix (fun j => eIm e (23 * (ke - 1) + j)) s 23)) := by
  refine con_of rfl rfl (Nat.le_of_ble_eq_true rfl) ?_
  refine g_lsN (ls' := [_, _]) rfl ?_
  refine g_aload_n (n := 1) dX9_back_0 rfl rfl ?_
  refine g_get (n := 4) fl_X9_91 dX9_back_1 rfl rfl rfl ?_
  refine g_top hk ?_
  refine g_if_ne (tgt := 10) (n := 7) dX9_back_4 (by decide) rfl (fun c4 => ?_) (fun c4 => ?_)
  ·
    have hn : ¬ ke = 0 := fun q => c4 (by rw [q]; rfl)
    have h2 := lp_X9_back l ((mw e to s).length, 0, 0) ⟨Nat.zero_le _, Nat.zero_le _⟩ (fun r u => r = some (.int (if ke = 0 then (-2) else nI (ke - 1))) ∧ u = (mw (if ke = 0 then e else sPK (sIK e (eIm e) (nI (ke - 1))) (ePa e) (nI 0)) to (if ke = 0 then s else mix (fun j => eIm e (23 * (ke - 1) + j)) s 23))) e to s (ke - 1) (by omega) ⟨by rw [if_neg hn], by rw [if_neg hn, if_neg hn]⟩ 0 (Nat.zero_le _)
    rw [mix_0] at h2
    refine g_aload_n (n := 11) dX9_back_10 rfl rfl ?_
    refine g_dup (n := 12) dX9_back_11 rfl rfl ?_
    refine g_get (n := 15) fl_X9_91 dX9_back_12 rfl rfl rfl ?_
    refine g_top hk ?_
    refine g_iconst (v := nI 1) (n := 16) dX9_back_15 (by decide) rfl ?_
    refine g_isubN (n := 17) dX9_back_16 rfl (by omega) ?_
    refine g_put (n := 20) pf_X9_91 dX9_back_17 rfl (Nat.le_of_ble_eq_true rfl) (fun _ => rfl) (fun _ => rfl) rfl ?_
    refine g_wN (w' := [_, _, _, _, _, _, _, _, _]) rfl ?_
    refine g_iconst (v := nI 0) (n := 21) dX9_back_20 (by decide) rfl ?_
    refine g_istore_n (n := 22) dX9_back_21 (by decide) rfl rfl ?_
    refine g_lsN (ls' := [_, _]) rfl ?_
    exact h2
  ·
    have hn : ke = 0 := by
      rcases Nat.eq_zero_or_pos ke with q | q
      · exact q
      · exact absurd c4 (nI_ne0 q (by omega))
    subst hn
    refine g_bipush (v := (-2)) (n := 9) dX9_back_7 (by decide) rfl ?_
    exact g_iret (ty := .int) dX9_back_9 rfl rfl ⟨Nat.zero_le _, Nat.zero_le _⟩ ⟨rfl, rfl⟩
/-- how many hours go by until another bay falls, at most n; and how things stand then -/
def flR (V : WT) (fa : Int32) : Nat → ST → Nat × ST
  | 0, S => (0, S)
  | n + 1, S => if sfa S = fa then ((flR V fa n (psF V S)).1 + 1, (flR V fa n (psF V S)).2) else (0, S)

set_option maxRecDepth 20000 in
theorem lp_X9_falls (l : Launch) (z : Nat × Nat × Nat) (hz : z.2.1 ≤ 0 ∧ z.2.2 ≤ 0) (Q : Option Value → List va_E → Prop) (e : MR) (V : WT) (hV : okV V) (fa : Int32) (lim : Nat) (hl : lim ≤ 100) : ∀ (n k : Nat) (S : ST), k + n = lim + 1 → Q (some (.int (nI (k + (flR V fa n S).1)))) (mw e (tk V) (pk (flR V fa n S).2)) → G l M_X9_falls z Q 9 [some (.ref 0), some (.int (nI lim)), some (.int fa), some (.int (nI k))] [] (mw e (tk V) (pk S)) := by
  intro n
  induction n with
  | zero =>
    intro k S hk hQ
    have hk2 : k = lim + 1 := by omega
    subst hk2
    refine g_iload_n (n := 10) dX9_falls_9 rfl rfl ?_
    refine g_iload_n (n := 11) dX9_falls_10 rfl rfl ?_
    refine g_iconst (v := nI 1) (n := 12) dX9_falls_11 (by decide) rfl ?_
    refine g_iaddN (n := 13) dX9_falls_12 rfl ?_
    refine g_icmp_ge (tgt := 36) (n := 16) dX9_falls_13 (by decide) rfl (fun c13 => ?_) (fun c13 => absurd (nI_le (Nat.le_refl _) (by omega)) c13)
    refine g_iload_n (n := 37) dX9_falls_36 rfl rfl ?_
    exact g_iret (ty := .int) dX9_falls_37 rfl rfl hz hQ
  | succ n ih =>
    intro k S hk hQ
    refine g_iload_n (n := 10) dX9_falls_9 rfl rfl ?_
    refine g_iload_n (n := 11) dX9_falls_10 rfl rfl ?_
    refine g_iconst (v := nI 1) (n := 12) dX9_falls_11 (by decide) rfl ?_
    refine g_iaddN (n := 13) dX9_falls_12 rfl ?_
    refine g_icmp_ge (tgt := 36) (n := 16) dX9_falls_13 (by decide) rfl (fun c13 => absurd c13 (nI_ge (show k < lim + 1 by omega) (by omega))) (fun c13 => ?_)
    refine g_aload_n (n := 17) dX9_falls_16 rfl rfl ?_
    refine g_get (n := 20) fl_X9_22 dX9_falls_17 rfl rfl rfl ?_
    refine g_iconst (v := nI 2) (n := 21) dX9_falls_20 (by decide) rfl ?_
    refine g_ialdN (n := 22) dX9_falls_21 rfl rfl (by decide) (by omega) ?_
    refine g_top (sk_2 _) ?_
    refine g_iload_n (n := 23) dX9_falls_22 rfl rfl ?_
    refine g_icmp_ne (tgt := 36) (n := 26) dX9_falls_23 (by decide) rfl (fun c23 => ?_) (fun c23 => ?_)
    ·
      have e1 : flR V fa (n + 1) S = (0, S) := by rw [flR, if_neg c23]
      rw [e1] at hQ
      refine g_iload_n (n := 37) dX9_falls_36 rfl rfl ?_
      exact g_iret (ty := .int) dX9_falls_37 rfl rfl hz hQ
    ·
      have e1 : flR V fa (n + 1) S = ((flR V fa n (psF V S)).1 + 1, (flR V fa n (psF V S)).2) := by rw [flR, if_pos c23]
      rw [e1] at hQ
      rw [show k + ((flR V fa n (psF V S)).1 + 1) = k + 1 + (flR V fa n (psF V S)).1 by omega] at hQ
      refine g_aload_n (n := 27) dX9_falls_26 rfl rfl ?_
      refine g_callWv (n := 30) cv_X9_134 (t_X9_passes l _ _ _ hV) dX9_falls_27 rfl ⟨by decide, by decide, rfl, rfl, hz.1, hz.2⟩ rfl rfl rfl (Nat.le_of_ble_eq_true rfl) rfl rfl ?_
      refine g_iincN (k := 1) (n := 33) dX9_falls_30 rfl (by decide) rfl rfl ?_
      refine g_lsN (ls' := [_, _, _, _]) rfl ?_
      refine g_goto (tgt := 9) dX9_falls_33 (by decide) ?_
      exact ih (k + 1) (psF V S) (by omega) hQ
set_option maxRecDepth 20000 in
theorem t_X9_falls (l : Launch) (e : MR) (V : WT) (S : ST) (hV : okV V) (lim : Nat) (hl : lim ≤ 100) : Fn l M_X9_falls [.ref 0, .int (nI lim)] (mw e (tk V) (pk S)) (some (.int (nI (flR V (sfa S) (lim + 1) S).1))) (mw e (tk V) (pk (flR V (sfa S) (lim + 1) S).2)) := by
  refine con_of rfl rfl (Nat.le_of_ble_eq_true rfl) ?_
  refine g_lsN (ls' := [_, _, _, _]) rfl ?_
  refine g_aload_n (n := 1) dX9_falls_0 rfl rfl ?_
  refine g_get (n := 4) fl_X9_22 dX9_falls_1 rfl rfl rfl ?_
  refine g_iconst (v := nI 2) (n := 5) dX9_falls_4 (by decide) rfl ?_
  refine g_ialdN (n := 6) dX9_falls_5 rfl rfl (by decide) (by omega) ?_
  refine g_top (sk_2 _) ?_
  refine g_istore_n (n := 7) dX9_falls_6 (by decide) rfl rfl ?_
  refine g_lsN (ls' := [_, _, _, _]) rfl ?_
  refine g_iconst (v := nI 0) (n := 8) dX9_falls_7 (by decide) rfl ?_
  refine g_istore_n (n := 9) dX9_falls_8 (by decide) rfl rfl ?_
  refine g_lsN (ls' := [_, _, _, _]) rfl ?_
  exact lp_X9_falls l _ ⟨Nat.zero_le _, Nat.zero_le _⟩ _ e V hV (sfa S) lim hl (lim + 1) 0 S (by omega) ⟨by rw [Nat.zero_add], rfl⟩

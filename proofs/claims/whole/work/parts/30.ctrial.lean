/-! 30.ctrial: the class's trials -/
theorem clamp_ok (x : Int32) : ∃ t : Nat, t ≤ 99 ∧ clamp x = nI t := by
  unfold clamp
  by_cases h : nI 0 < (if x < nI 99 then x else nI 99)
  · rw [if_pos h]
    refine nI_of2 (M := nI 99) (by decide) (fun q => ?_) ?_
    · rw [Int32.lt_iff_toInt_lt] at h q
      rw [nI_toInt (by decide)] at h
      have : (0 : Int32).toInt = 0 := by decide
      omega
    · split
      · next q => exact Int32.le_of_lt q
      · exact Int32.le_refl _
  · rw [if_neg h]
    exact ⟨0, by decide, rfl⟩
theorem okTi_ps {V : WT} {S : ST} (hV : okV V) (h : okTi V S) : okTi V (psF V S) := fun f hf => by
  have e1 : sti (psF V S) f = tiF V S f := by show mix _ _ _ _ = _; unfold mix; rw [if_pos hf]
  rw [e1]
  cases hu : hb (sup S) (nI f) with
  | true => rw [← tiF_up hV h hf hu]; exact clamp_ok _
  | false => rw [← tiF_dn h hf hu]; exact clamp_ok _
/-- a state as it can be: nothing beyond the rows, all at bays that there are, tired within measure, its hour a number -/
def okS (V : WT) (S : ST) (a : Nat) : Prop := okZ S ∧ okB V S ∧ okTi V S ∧ sho S = nI a
theorem okS_ps {V : WT} {S : ST} {a : Nat} (hV : okV V) (h : okS V S a) : okS V (psF V S) (a + 1) := ⟨okZ_ps hV h.1, h.2.1, okTi_ps hV h.2.2.1, by show sho S + nI 1 = _; rw [h.2.2.2, nI_add]⟩
abbrev tw (fell : Int32) (S : ST) (ra lo pr : Nat → Int32) (V : WT) (dn : Int32) (fb : Nat → Int32) : List va_E := [.inr (6, [.ref 1, .ref 5, .int fell]), so S 1, a6 (sbo S), a6 (sti S), a8 (sun S), co 5, a8 ra, a8 lo, a8 pr, wo V dn 9, a8 (vth V), a8 (vpa V), a6 (vki V), a6 (vsg V), a6 fb, a6 (vkn V)]
/-- hours go by until a bay falls, at most n: behind how many (or NONE), the state, what fell -/
def ffR (V : WT) : Nat → Nat → ST → Int32 → Int32 × ST × Int32
  | 0, _, S, fl => ((-4), S, fl)
  | n + 1, h, S, _ => if flN V S (vnb V) = 0 then ffR V n (h + 1) (psF V S) (flN V S (vnb V)) else (nI (h + 1), psF V S, flN V S (vnb V))

set_option maxRecDepth 20000 in
theorem t_X6_startFrom (l : Launch) (fell : Int32) (S S2 : ST) (h1 : okZ S) (h2 : okZ S2) : Fn l M_X6_startFrom [.ref 0, .ref 5] ([.inr (6, [.ref 1, .ref 9, .int fell]), so S 1, a6 (sbo S), a6 (sti S), a8 (sun S), so S2 5, a6 (sbo S2), a6 (sti S2), a8 (sun S2)]) none ([.inr (6, [.ref 1, .ref 9, .int (nI 0)]), so S2 1, a6 (sbo S2), a6 (sti S2), a8 (sun S2), so S2 5, a6 (sbo S2), a6 (sti S2), a8 (sun S2)]) := by
  refine con_of rfl rfl (Nat.le_of_ble_eq_true rfl) ?_
  refine g_lsN (ls' := [_, _]) rfl ?_
  refine g_aload_n (n := 1) dX6_startFrom_0 rfl rfl ?_
  refine g_get (n := 4) fl_X6_12 dX6_startFrom_1 rfl rfl rfl ?_
  refine g_aload_n (n := 5) dX6_startFrom_4 rfl rfl ?_
  refine g_cutVv (ps := [1, 2, 3, 4, 5, 6, 7, 8]) (w' := [_, _, _, _, _, _, _, _, _]) (n := 8) cv_X6_25 (t_X3_takeFrom l S S2 h1 h2) dX6_startFrom_5 rfl rfl rfl ⟨by decide, by decide, rfl, rfl, Nat.zero_le _, Nat.zero_le _⟩ rfl rfl rfl (Nat.le_of_ble_eq_true rfl) rfl rfl rfl ?_
  refine g_aload_n (n := 9) dX6_startFrom_8 rfl rfl ?_
  refine g_iconst (v := nI 0) (n := 10) dX6_startFrom_9 (by decide) rfl ?_
  refine g_put (n := 13) pf_X6_29 dX6_startFrom_10 rfl (Nat.le_of_ble_eq_true rfl) (fun _ => rfl) (fun _ => rfl) rfl ?_
  refine g_wN (w' := [_, _, _, _, _, _, _, _, _]) rfl ?_
  exact g_vret dX6_startFrom_13 rfl ⟨Nat.zero_le _, Nat.zero_le _⟩ ⟨rfl, rfl⟩
set_option maxRecDepth 20000 in
theorem lp_X6_fallsBehind (l : Launch) (z : Nat × Nat × Nat) (hz : z.2.1 ≤ 0 ∧ z.2.2 ≤ 0) (Q : Option Value → List va_E → Prop) (V : WT) (hV : okV V) (dn : Int32) (fb : Nat → Int32) (m : Nat) (hm : m ≤ 100) : ∀ (n h : Nat) (S : ST) (fell : Int32) (ra lo pr : Nat → Int32) (a : Nat), h + n = m → a + n < 2 ^ 31 → okS V S a → (∀ ra lo pr, Q (some (.int (ffR V n h S fell).1)) (tw (ffR V n h S fell).2.2 (ffR V n h S fell).2.1 ra lo pr V dn fb)) → G l M_X6_fallsBehind z Q 2 [some (.ref 0), some (.ref 9), some (.int (nI m)), some (.int (nI h))] [] (tw fell S ra lo pr V dn fb) := by
  have hV1 := hV.1
  have hV2 := hV.2.1
  have hV3 := hV.2.2
  intro n
  induction n with
  | zero =>
    intro h S fell ra lo pr a hh ha hS hQ
    refine g_iload_n (n := 3) dX6_fallsBehind_2 rfl rfl ?_
    refine g_iload_n (n := 4) dX6_fallsBehind_3 rfl rfl ?_
    refine g_icmp_ge (tgt := 40) (n := 7) dX6_fallsBehind_4 (by decide) rfl (fun c4 => ?_) (fun c4 => absurd (nI_le (by omega) (by omega)) c4)
    refine g_bipush (v := (-4)) (n := 42) dX6_fallsBehind_40 (by decide) rfl ?_
    exact g_iret (ty := .int) dX6_fallsBehind_42 rfl rfl hz (hQ _ _ _)
  | succ n ih =>
    intro h S fell ra lo pr a hh ha hS hQ
    refine g_iload_n (n := 3) dX6_fallsBehind_2 rfl rfl ?_
    refine g_iload_n (n := 4) dX6_fallsBehind_3 rfl rfl ?_
    refine g_icmp_ge (tgt := 40) (n := 7) dX6_fallsBehind_4 (by decide) rfl (fun c4 => absurd c4 (nI_ge (by omega) (by omega))) (fun c4 => ?_)
    refine g_aload_n (n := 8) dX6_fallsBehind_7 rfl rfl ?_
    refine g_aload_n (n := 9) dX6_fallsBehind_8 rfl rfl ?_
    refine g_get (n := 12) fl_X6_21 dX6_fallsBehind_9 rfl rfl rfl ?_
    refine g_aload_n (n := 13) dX6_fallsBehind_12 rfl rfl ?_
    refine g_aload_n (n := 14) dX6_fallsBehind_13 rfl rfl ?_
    refine g_get (n := 17) fl_X6_12 dX6_fallsBehind_14 rfl rfl rfl ?_
    refine g_cutV (ps := [5, 6, 7, 8, 9, 10, 11, 12, 13, 14, 15, 1, 2, 3, 4]) (n := 20) cv_X6_33 (t_X0_goBy l _ _ _ V hV dn fb S (hS).2.1 (hS).2.2.1 _ (by omega) (hS).2.2.2) dX6_fallsBehind_17 rfl rfl rfl ⟨by decide, by decide, rfl, rfl, hz.1, hz.2⟩ rfl rfl rfl (Nat.le_of_ble_eq_true rfl) rfl (fun r cw' hq => ?_)
    obtain ⟨rfl, rfl⟩ := hq
    refine ⟨rfl, ?_⟩
    refine g_stN (st' := .int _ :: _) rfl ?_
    refine g_wN (w' := [_, _, _, _, _, _, _, _, _, _, _, _, _, _, _, _]) rfl ?_
    refine g_put (n := 23) pf_X6_29 dX6_fallsBehind_20 rfl (Nat.le_of_ble_eq_true rfl) (fun _ => rfl) (fun _ => rfl) rfl ?_
    refine g_wN (w' := [_, _, _, _, _, _, _, _, _, _, _, _, _, _, _, _]) rfl ?_
    refine g_aload_n (n := 24) dX6_fallsBehind_23 rfl rfl ?_
    refine g_get (n := 27) fl_X6_29 dX6_fallsBehind_24 rfl rfl rfl ?_
    refine g_if_eq (tgt := 34) (n := 30) dX6_fallsBehind_27 (by decide) rfl (fun c27 => ?_) (fun c27 => ?_)
    ·
      rw [ffR, if_pos c27] at hQ
      refine g_iincN (k := 1) (n := 37) dX6_fallsBehind_34 rfl (by decide) rfl rfl ?_
      refine g_lsN (ls' := [_, _, _, _]) rfl ?_
      refine g_goto (tgt := 2) dX6_fallsBehind_37 (by decide) ?_
      exact ih (h + 1) (psF V S) _ _ _ _ (a + 1) (by omega) (by omega) (okS_ps hV hS) hQ
    ·
      rw [ffR, if_neg c27] at hQ
      refine g_iload_n (n := 31) dX6_fallsBehind_30 rfl rfl ?_
      refine g_iconst (v := nI 1) (n := 32) dX6_fallsBehind_31 (by decide) rfl ?_
      refine g_iaddN (n := 33) dX6_fallsBehind_32 rfl ?_
      exact g_iret (ty := .int) dX6_fallsBehind_33 rfl rfl hz (hQ _ _ _)
set_option maxRecDepth 20000 in
theorem t_X6_fallsBehind (l : Launch) (V : WT) (hV : okV V) (dn : Int32) (fb : Nat → Int32) (m : Nat) (hm : m ≤ 100) (S : ST) (fell : Int32) (ra lo pr : Nat → Int32) (a : Nat) (ha : a + m < 2 ^ 31) (hS : okS V S a) : Con l M_X6_fallsBehind [.ref 0, .ref 9, .int (nI m)] (tw fell S ra lo pr V dn fb) (fun r u => r = some (.int (ffR V m 0 S fell).1) ∧ ∃ ra lo pr, u = tw (ffR V m 0 S fell).2.2 (ffR V m 0 S fell).2.1 ra lo pr V dn fb) := by
  refine con_of rfl rfl (Nat.le_of_ble_eq_true rfl) ?_
  refine g_lsN (ls' := [_, _, _, _]) rfl ?_
  refine g_iconst (v := nI 0) (n := 1) dX6_fallsBehind_0 (by decide) rfl ?_
  refine g_istore_n (n := 2) dX6_fallsBehind_1 (by decide) rfl rfl ?_
  refine g_lsN (ls' := [_, _, _, _]) rfl ?_
  exact lp_X6_fallsBehind l _ ⟨Nat.zero_le _, Nat.zero_le _⟩ _ V hV dn fb m hm m 0 S fell ra lo pr a (by omega) ha hS (fun ra lo pr => ⟨rfl, ra, lo, pr, rfl⟩)

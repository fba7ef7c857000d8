/-! 21.mread: the reference reads a text -/
abbrev sRd (e : MR) (dr be : Nat → Int32) (dn at_ : Int32) : MR := (e.1, e.2.1, dr, be, dn, e.2.2.2.2.2.1, e.2.2.2.2.2.2.1, e.2.2.2.2.2.2.2.1, e.2.2.2.2.2.2.2.2.1, at_, e.2.2.2.2.2.2.2.2.2.2)
/-- the text: n letters ta -/
def TX (e : MR) (ta : Nat → Nat) (n : Nat) : Prop := e.2.1 = nI n ∧ n ≤ 200 ∧ ∀ p, p < n → e.1 p = nI (ta p) ∧ 32 ≤ ta p ∧ ta p ≤ 126
def ltI (ta : Nat → Nat) (n p : Nat) : Int32 := if p < n then nI (ta p) else (-1)
def fg (ta : Nat → Nat) (n p : Nat) : Bool := decide (p < n) && (decide (48 ≤ ta p) && decide (ta p ≤ 57))
theorem inB_nI {v a b : Nat} (hv : v < 1000) (ha : a < 1000) (hb : b < 1000) : inB (nI v) (nI a) (nI b) = (decide (a ≤ v) && decide (v ≤ b)) := by
  unfold inB
  rw [show decide (nI a ≤ nI v) = decide (a ≤ v) from decide_eq_decide.mpr (nI_leI (by omega) (by omega)), show decide (nI v ≤ nI b) = decide (v ≤ b) from decide_eq_decide.mpr (nI_leI (by omega) (by omega))]
theorem fg_eq {ta : Nat → Nat} {n p : Nat} (h : p < n → ta p ≤ 126) : inB (ltI ta n p) (nI 48) (nI 57) = fg ta n p := by
  unfold ltI fg
  by_cases hp : p < n
  · have := h hp
    rw [if_pos hp, decide_eq_true hp, Bool.true_and, inB_nI (by omega) (by decide) (by decide)]
  · rw [if_neg hp, decide_eq_false hp, Bool.false_and]
    decide
/-- a number of one or two figures at p: it, and the place behind it -/
def nrF (ta : Nat → Nat) (n p : Nat) : Option (Nat × Nat) := if fg ta n p then (if fg ta n (p + 1) then some (10 * (ta p - 48) + (ta (p + 1) - 48), p + 2) else some (ta p - 48, p + 1)) else none
/-- a number within lo and hi, with e behind it -/
def nuA (ta : Nat → Nat) (n p : Nat) (lo hi : Int32) (e : Nat) : Int32 × Nat := match nrF ta n p with
  | none => ((-1), p)
  | some (v, q) => (if decide (ltI ta n q = nI e) && inB (nI v) lo hi then nI v else (-1), q + 1)
theorem nrF_ok {ta : Nat → Nat} {n p v q : Nat} (h : nrF ta n p = some (v, q)) : v ≤ 99 ∧ p < q ∧ q ≤ p + 2 ∧ q ≤ n := by
  unfold nrF at h
  by_cases h1 : fg ta n p = true
  · rw [if_pos h1] at h
    simp only [fg, Bool.and_eq_true, decide_eq_true_eq] at h1
    by_cases h2 : fg ta n (p + 1) = true
    · rw [if_pos h2] at h
      simp only [fg, Bool.and_eq_true, decide_eq_true_eq] at h2
      cases h
      omega
    · rw [if_neg h2] at h
      cases h
      omega
  · rw [if_neg h1] at h
    cases h

set_option maxRecDepth 20000 in
theorem t_X9_letterAt (l : Launch) (e : MR) (to s : Nat → Int32) (ta : Nat → Nat) (n : Nat) (hT : TX e ta n) (p : Nat) (hp : p < 1000) : Fn l M_X9_letterAt [.ref 0, .int (nI p)] (mw e to s) (some (.int (ltI ta n p))) (mw e to s) := by
  have hT1 := hT.1
  have hT2 := hT.2.1
  refine con_of rfl rfl (Nat.le_of_ble_eq_true rfl) ?_
  refine g_lsN (ls' := [_, _]) rfl ?_
  refine g_iload_n (n := 1) dX9_letterAt_0 rfl rfl ?_
  refine g_aload_n (n := 2) dX9_letterAt_1 rfl rfl ?_
  refine g_get (n := 5) fl_X9_56 dX9_letterAt_2 rfl rfl rfl ?_
  refine g_top hT1 ?_
  refine g_icmp_ge (tgt := 17) (n := 8) dX9_letterAt_5 (by decide) rfl (fun c5 => ?_) (fun c5 => ?_)
  ·
    have e1 : ltI ta n p = (-1) := by unfold ltI; rw [if_neg (fun q => nI_ge q (by omega) c5)]
    refine g_iconst (v := (-1)) (n := 18) dX9_letterAt_17 (by decide) rfl ?_
    exact g_iret (ty := .int) dX9_letterAt_18 rfl rfl ⟨Nat.zero_le _, Nat.zero_le _⟩ ⟨by rw [e1], rfl⟩
  ·
    have hpn : p < n := by
      rcases Nat.lt_or_ge p n with q | q
      · exact q
      · exact absurd (nI_le q (by omega)) c5
    have e1 : ltI ta n p = nI (ta p) := by unfold ltI; rw [if_pos hpn]
    refine g_aload_n (n := 9) dX9_letterAt_8 rfl rfl ?_
    refine g_get (n := 12) fl_X9_7 dX9_letterAt_9 rfl rfl rfl ?_
    refine g_iload_n (n := 13) dX9_letterAt_12 rfl rfl ?_
    refine g_ialdN (n := 14) dX9_letterAt_13 rfl rfl (by decide) (by omega) ?_
    refine g_top (hT.2.2 p hpn).1 ?_
    refine g_goto (tgt := 18) dX9_letterAt_14 (by decide) ?_
    exact g_iret (ty := .int) dX9_letterAt_18 rfl rfl ⟨Nat.zero_le _, Nat.zero_le _⟩ ⟨by rw [e1], rfl⟩
set_option maxRecDepth 20000 in
theorem t_X9_isFigure (l : Launch) (x : Int32) : Fn l M_X9_isFigure [.int x] [] (some (.int (bI (inB x (nI 48) (nI 57))))) [] := by
  refine con_of rfl rfl (Nat.le_of_ble_eq_true rfl) ?_
  refine g_lsN (ls' := [_]) rfl ?_
  refine g_iload_n (n := 1) dX9_isFigure_0 rfl rfl ?_
  refine g_bipush (v := nI 48) (n := 3) dX9_isFigure_1 (by decide) rfl ?_
  refine g_bipush (v := nI 57) (n := 5) dX9_isFigure_3 (by decide) rfl ?_
  refine g_callSi (n := 8) cs_X9_52 (t_X9_in l _ _ _) dX9_isFigure_5 rfl rfl ⟨by decide, by decide, rfl, rfl, Nat.zero_le _, Nat.zero_le _⟩ rfl (Nat.le_of_ble_eq_true rfl) rfl ?_
  exact g_iret (ty := .boolean) dX9_isFigure_8 rfl (by first | exact bI_nar _ | decide) ⟨Nat.zero_le _, Nat.zero_le _⟩ ⟨rfl, rfl⟩
set_option maxRecDepth 20000 in
theorem t_X9_number (l : Launch) (e : MR) (to s dr be : Nat → Int32) (dn : Int32) (ta : Nat → Nat) (n : Nat) (hT : TX e ta n) (lo hi : Int32) (en : Nat) (hen : en < 1000) (p : Nat) (hp : p ≤ 400) : Fn l M_X9_number [.ref 0, .int lo, .int hi, .int (nI en)] (mw (sRd e dr be dn (nI p)) to s) (some (.int (nuA ta n p lo hi en).1)) (mw (sRd e dr be dn (nI (nuA ta n p lo hi en).2)) to s) := by
  have hT1 := hT.1
  have hT2 := hT.2.1
  have h126 : ∀ p, p < n → ta p ≤ 126 := fun p q => (hT.2.2 p q).2.2
  have J82 : ∀ (v q : Nat) (o5 : Option Value), nrF ta n p = some (v, q) → G l M_X9_number ((mw (sRd e dr be dn (nI p)) to s).length, 0, 0) (fun r u => r = some (.int (nuA ta n p lo hi en).1) ∧ u = (mw (sRd e dr be dn (nI (nuA ta n p lo hi en).2)) to s)) 82 [some (.ref 0), some (.int lo), some (.int hi), some (.int (nI en)), some (.int (nI v)), o5] [] (mw (sRd e dr be dn (nI q)) to s) := by
    intro v q o5 hr
    obtain ⟨r1, r2, r3, r4⟩ := nrF_ok hr
    have e0 : nuA ta n p lo hi en = (if decide (ltI ta n q = nI en) && inB (nI v) lo hi then nI v else (-1), q + 1) := by unfold nuA; rw [hr]
    refine g_aload_n (n := 83) dX9_number_82 rfl rfl ?_
    refine g_aload_n (n := 84) dX9_number_83 rfl rfl ?_
    refine g_get (n := 87) fl_X9_59 dX9_number_84 rfl rfl rfl ?_
    refine g_callWi (n := 90) cv_X9_62 (t_X9_letterAt l (sRd e dr be dn (nI q)) to s ta n hT q (by omega)) dX9_number_87 rfl ⟨by decide, by decide, rfl, rfl, Nat.zero_le _, Nat.zero_le _⟩ rfl rfl rfl (Nat.le_of_ble_eq_true rfl) rfl rfl ?_
    refine g_iload_n (n := 91) dX9_number_90 rfl rfl ?_
    refine g_icmp_ne (tgt := 108) (n := 94) dX9_number_91 (by decide) rfl (fun c91 => ?_) (fun c91 => ?_)
    ·
      have e1 : nuA ta n p lo hi en = ((-1), q + 1) := by rw [e0, decide_eq_false c91]; rfl
      refine g_iconst (v := nI 0) (n := 109) dX9_number_108 (by decide) rfl ?_
      refine g_istore (n := 111) dX9_number_109 (by decide) rfl rfl ?_
      refine g_lsN (ls' := [_, _, _, _, _, _]) rfl ?_
      refine g_aload_n (n := 112) dX9_number_111 rfl rfl ?_
      refine g_dup (n := 113) dX9_number_112 rfl rfl ?_
      refine g_get (n := 116) fl_X9_59 dX9_number_113 rfl rfl rfl ?_
      refine g_iconst (v := nI 1) (n := 117) dX9_number_116 (by decide) rfl ?_
      refine g_iaddN (n := 118) dX9_number_117 rfl ?_
      refine g_put (n := 121) pf_X9_59 dX9_number_118 rfl (Nat.le_of_ble_eq_true rfl) (fun _ => rfl) (fun _ => rfl) rfl ?_
      refine g_wN (w' := [_, _, _, _, _, _, _, _, _]) rfl ?_
      refine g_iload (n := 123) dX9_number_121 rfl rfl ?_
      refine g_if_eq (tgt := 131) (n := 126) dX9_number_123 (by decide) rfl (fun c123 => ?_) (fun c123 => absurd (by decide) c123)
      refine g_iconst (v := (-1)) (n := 132) dX9_number_131 (by decide) rfl ?_
      exact g_iret (ty := .int) dX9_number_132 rfl rfl ⟨Nat.zero_le _, Nat.zero_le _⟩ ⟨by rw [e1], by rw [e1] <;> rfl⟩
    ·
      have a1 := decide_eq_true c91
      refine g_iload (n := 96) dX9_number_94 rfl rfl ?_
      refine g_iload_n (n := 97) dX9_number_96 rfl rfl ?_
      refine g_iload_n (n := 98) dX9_number_97 rfl rfl ?_
      refine g_callSi (n := 101) cs_X9_52 (t_X9_in l _ _ _) dX9_number_98 rfl rfl ⟨by decide, by decide, rfl, rfl, Nat.zero_le _, Nat.zero_le _⟩ rfl (Nat.le_of_ble_eq_true rfl) rfl ?_
      refine g_if_eq (tgt := 108) (n := 104) dX9_number_101 (by decide) rfl (fun c101 => ?_) (fun c101 => ?_)
      ·
        have e1 : nuA ta n p lo hi en = ((-1), q + 1) := by rw [e0, bI_0.mp c101, Bool.and_false]; rfl
        refine g_iconst (v := nI 0) (n := 109) dX9_number_108 (by decide) rfl ?_
        refine g_istore (n := 111) dX9_number_109 (by decide) rfl rfl ?_
        refine g_lsN (ls' := [_, _, _, _, _, _]) rfl ?_
        refine g_aload_n (n := 112) dX9_number_111 rfl rfl ?_
        refine g_dup (n := 113) dX9_number_112 rfl rfl ?_
        refine g_get (n := 116) fl_X9_59 dX9_number_113 rfl rfl rfl ?_
        refine g_iconst (v := nI 1) (n := 117) dX9_number_116 (by decide) rfl ?_
        refine g_iaddN (n := 118) dX9_number_117 rfl ?_
        refine g_put (n := 121) pf_X9_59 dX9_number_118 rfl (Nat.le_of_ble_eq_true rfl) (fun _ => rfl) (fun _ => rfl) rfl ?_
        refine g_wN (w' := [_, _, _, _, _, _, _, _, _]) rfl ?_
        refine g_iload (n := 123) dX9_number_121 rfl rfl ?_
        refine g_if_eq (tgt := 131) (n := 126) dX9_number_123 (by decide) rfl (fun c123 => ?_) (fun c123 => absurd (by decide) c123)
        refine g_iconst (v := (-1)) (n := 132) dX9_number_131 (by decide) rfl ?_
        exact g_iret (ty := .int) dX9_number_132 rfl rfl ⟨Nat.zero_le _, Nat.zero_le _⟩ ⟨by rw [e1], by rw [e1] <;> rfl⟩
      ·
        have e1 : nuA ta n p lo hi en = (nI v, q + 1) := by rw [e0, a1, bI_n0.mp c101]; rfl
        refine g_iconst (v := nI 1) (n := 105) dX9_number_104 (by decide) rfl ?_
        refine g_goto (tgt := 109) dX9_number_105 (by decide) ?_
        refine g_istore (n := 111) dX9_number_109 (by decide) rfl rfl ?_
        refine g_lsN (ls' := [_, _, _, _, _, _]) rfl ?_
        refine g_aload_n (n := 112) dX9_number_111 rfl rfl ?_
        refine g_dup (n := 113) dX9_number_112 rfl rfl ?_
        refine g_get (n := 116) fl_X9_59 dX9_number_113 rfl rfl rfl ?_
        refine g_iconst (v := nI 1) (n := 117) dX9_number_116 (by decide) rfl ?_
        refine g_iaddN (n := 118) dX9_number_117 rfl ?_
        refine g_put (n := 121) pf_X9_59 dX9_number_118 rfl (Nat.le_of_ble_eq_true rfl) (fun _ => rfl) (fun _ => rfl) rfl ?_
        refine g_wN (w' := [_, _, _, _, _, _, _, _, _]) rfl ?_
        refine g_iload (n := 123) dX9_number_121 rfl rfl ?_
        refine g_if_eq (tgt := 131) (n := 126) dX9_number_123 (by decide) rfl (fun c123 => absurd c123 (by decide)) (fun c123 => ?_)
        refine g_iload (n := 128) dX9_number_126 rfl rfl ?_
        refine g_goto (tgt := 132) dX9_number_128 (by decide) ?_
        exact g_iret (ty := .int) dX9_number_132 rfl rfl ⟨Nat.zero_le _, Nat.zero_le _⟩ ⟨by rw [e1], by rw [e1] <;> rfl⟩
  refine con_of rfl rfl (Nat.le_of_ble_eq_true rfl) ?_
  refine g_lsN (ls' := [_, _, _, _, _, _]) rfl ?_
  refine g_aload_n (n := 1) dX9_number_0 rfl rfl ?_
  refine g_aload_n (n := 2) dX9_number_1 rfl rfl ?_
  refine g_get (n := 5) fl_X9_59 dX9_number_2 rfl rfl rfl ?_
  refine g_callWi (n := 8) cv_X9_62 (t_X9_letterAt l (sRd e dr be dn (nI p)) to s ta n hT p (by omega)) dX9_number_5 rfl ⟨by decide, by decide, rfl, rfl, Nat.zero_le _, Nat.zero_le _⟩ rfl rfl rfl (Nat.le_of_ble_eq_true rfl) rfl rfl ?_
  refine g_callSi (n := 11) cs_X9_66 (t_X9_isFigure l _) dX9_number_8 rfl rfl ⟨by decide, by decide, rfl, rfl, Nat.zero_le _, Nat.zero_le _⟩ rfl (Nat.le_of_ble_eq_true rfl) rfl ?_
  rw [fg_eq (h126 p)]
  refine g_if_ne (tgt := 16) (n := 14) dX9_number_11 (by decide) rfl (fun c11 => ?_) (fun c11 => ?_)
  ·
    have a1 := bI_n0.mp c11
    have b1 := a1
    simp only [fg, Bool.and_eq_true, decide_eq_true_eq] at b1
    have l1 : ltI ta n p = nI (ta p) := by unfold ltI; rw [if_pos b1.1]
    refine g_aload_n (n := 17) dX9_number_16 rfl rfl ?_
    refine g_aload_n (n := 18) dX9_number_17 rfl rfl ?_
    refine g_get (n := 21) fl_X9_59 dX9_number_18 rfl rfl rfl ?_
    refine g_callWi (n := 24) cv_X9_62 (t_X9_letterAt l (sRd e dr be dn (nI p)) to s ta n hT p (by omega)) dX9_number_21 rfl ⟨by decide, by decide, rfl, rfl, Nat.zero_le _, Nat.zero_le _⟩ rfl rfl rfl (Nat.le_of_ble_eq_true rfl) rfl rfl ?_
    refine g_top l1 ?_
    refine g_bipush (v := nI 48) (n := 26) dX9_number_24 (by decide) rfl ?_
    refine g_isubN (n := 27) dX9_number_26 rfl (by omega) ?_
    refine g_istore (n := 29) dX9_number_27 (by decide) rfl rfl ?_
    refine g_lsN (ls' := [_, _, _, _, _, _]) rfl ?_
    refine g_aload_n (n := 30) dX9_number_29 rfl rfl ?_
    refine g_dup (n := 31) dX9_number_30 rfl rfl ?_
    refine g_get (n := 34) fl_X9_59 dX9_number_31 rfl rfl rfl ?_
    refine g_iconst (v := nI 1) (n := 35) dX9_number_34 (by decide) rfl ?_
    refine g_iaddN (n := 36) dX9_number_35 rfl ?_
    refine g_put (n := 39) pf_X9_59 dX9_number_36 rfl (Nat.le_of_ble_eq_true rfl) (fun _ => rfl) (fun _ => rfl) rfl ?_
    refine g_wN (w' := [_, _, _, _, _, _, _, _, _]) rfl ?_
    refine g_aload_n (n := 40) dX9_number_39 rfl rfl ?_
    refine g_aload_n (n := 41) dX9_number_40 rfl rfl ?_
    refine g_get (n := 44) fl_X9_59 dX9_number_41 rfl rfl rfl ?_
    refine g_callWi (n := 47) cv_X9_62 (t_X9_letterAt l (sRd e dr be dn (nI (p + 1))) to s ta n hT (p + 1) (by omega)) dX9_number_44 rfl ⟨by decide, by decide, rfl, rfl, Nat.zero_le _, Nat.zero_le _⟩ rfl rfl rfl (Nat.le_of_ble_eq_true rfl) rfl rfl ?_
    refine g_callSi (n := 50) cs_X9_66 (t_X9_isFigure l _) dX9_number_47 rfl rfl ⟨by decide, by decide, rfl, rfl, Nat.zero_le _, Nat.zero_le _⟩ rfl (Nat.le_of_ble_eq_true rfl) rfl ?_
    rw [fg_eq (h126 (p + 1))]
    refine g_if_eq (tgt := 82) (n := 53) dX9_number_50 (by decide) rfl (fun c50 => ?_) (fun c50 => ?_)
    ·
      have e5 : nrF ta n p = some (ta p - 48, p + 1) := by unfold nrF; rw [a1, bI_0.mp c50]; rfl
      exact J82 _ _ _ e5
    ·
      have a2 := bI_n0.mp c50
      have b2 := a2
      simp only [fg, Bool.and_eq_true, decide_eq_true_eq] at b2
      have l2 : ltI ta n (p + 1) = nI (ta (p + 1)) := by unfold ltI; rw [if_pos b2.1]
      have e5 : nrF ta n p = some (10 * (ta p - 48) + (ta (p + 1) - 48), p + 2) := by unfold nrF; rw [a1, a2]; rfl
      have e6 : 10 * (ta p - 48) + ta (p + 1) - 48 = 10 * (ta p - 48) + (ta (p + 1) - 48) := by omega
      refine g_bipush (v := nI 10) (n := 55) dX9_number_53 (by decide) rfl ?_
      refine g_iload (n := 57) dX9_number_55 rfl rfl ?_
      refine g_imulN (n := 58) dX9_number_57 rfl ?_
      refine g_aload_n (n := 59) dX9_number_58 rfl rfl ?_
      refine g_aload_n (n := 60) dX9_number_59 rfl rfl ?_
      refine g_get (n := 63) fl_X9_59 dX9_number_60 rfl rfl rfl ?_
      refine g_callWi (n := 66) cv_X9_62 (t_X9_letterAt l (sRd e dr be dn (nI (p + 1))) to s ta n hT (p + 1) (by omega)) dX9_number_63 rfl ⟨by decide, by decide, rfl, rfl, Nat.zero_le _, Nat.zero_le _⟩ rfl rfl rfl (Nat.le_of_ble_eq_true rfl) rfl rfl ?_
      refine g_top l2 ?_
      refine g_iaddN (n := 67) dX9_number_66 rfl ?_
      refine g_bipush (v := nI 48) (n := 69) dX9_number_67 (by decide) rfl ?_
      refine g_isubN (n := 70) dX9_number_69 rfl (by omega) ?_
      rw [e6]
      refine g_istore (n := 72) dX9_number_70 (by decide) rfl rfl ?_
      refine g_lsN (ls' := [_, _, _, _, _, _]) rfl ?_
      refine g_aload_n (n := 73) dX9_number_72 rfl rfl ?_
      refine g_dup (n := 74) dX9_number_73 rfl rfl ?_
      refine g_get (n := 77) fl_X9_59 dX9_number_74 rfl rfl rfl ?_
      refine g_iconst (v := nI 1) (n := 78) dX9_number_77 (by decide) rfl ?_
      refine g_iaddN (n := 79) dX9_number_78 rfl ?_
      refine g_put (n := 82) pf_X9_59 dX9_number_79 rfl (Nat.le_of_ble_eq_true rfl) (fun _ => rfl) (fun _ => rfl) rfl ?_
      refine g_wN (w' := [_, _, _, _, _, _, _, _, _]) rfl ?_
      exact J82 _ _ _ e5
  ·
    have e1 : nuA ta n p lo hi en = ((-1), p) := by unfold nuA nrF; rw [bI_0.mp c11]; rfl
    refine g_iconst (v := (-1)) (n := 15) dX9_number_14 (by decide) rfl ?_
    exact g_iret (ty := .int) dX9_number_15 rfl rfl ⟨Nat.zero_le _, Nat.zero_le _⟩ ⟨by rw [e1], by rw [e1] <;> rfl⟩
theorem nuA_le (ta : Nat → Nat) (n p : Nat) (lo hi : Int32) (e : Nat) : (nuA ta n p lo hi e).2 ≤ p + 3 := by
  unfold nuA
  cases h : nrF ta n p with
  | none => exact Nat.le_add_right _ _
  | some q =>
    obtain ⟨v, q⟩ := q
    have := nrF_ok h
    show q + 1 ≤ p + 3
    omega
/-- a wall of which nothing is told -/
def V0 : WT := (0, 0, 0, nI 0, fun _ => nI 0, fun _ => nI 0, fun _ => nI 0, fun _ => nI 0, fun _ => nI 0)
theorem tk_V0 : tk V0 = fun _ => nI 0 := by
  funext k
  unfold tk V0
  repeat' split
  all_goals rfl
abbrev vB (V : WT) (t h : Int32) : WT := (vnb V + 1, vnf V, vnc V, vca V, upd (vth V) (vnb V) t, upd (vpa V) (vnb V) h, vki V, vsg V, vkn V)
abbrev vF (V : WT) (k s l : Int32) : WT := (vnb V, vnf V + 1, vnc V, vca V, vth V, vpa V, upd (vki V) (vnf V) k, upd (vsg V) (vnf V) s, upd (vkn V) (vnf V) l)
abbrev vC (V : WT) (c : Int32) : WT := (vnb V, vnf V, vnc V + 1, vca V ||| c <<< (nI (vnc V) &&& 31), vth V, vpa V, vki V, vsg V, vkn V)
theorem tk_nb (a b c d : Nat) (ca : Int32) (th pa ki sg kn : Nat → Int32) : upd (tk (a, b, c, ca, th, pa, ki, sg, kn)) 0 (nI d) = tk (d, b, c, ca, th, pa, ki, sg, kn) := by
  funext k; unfold upd tk; by_cases h : k = 0 <;> simp [h]
theorem tk_nf (a b c d : Nat) (ca : Int32) (th pa ki sg kn : Nat → Int32) : upd (tk (a, b, c, ca, th, pa, ki, sg, kn)) 1 (nI d) = tk (a, d, c, ca, th, pa, ki, sg, kn) := by
  funext k; unfold upd tk; by_cases h : k = 1 <;> simp [h]
theorem tk_nc (a b c d : Nat) (ca : Int32) (th pa ki sg kn : Nat → Int32) : upd (tk (a, b, c, ca, th, pa, ki, sg, kn)) 2 (nI d) = tk (a, b, d, ca, th, pa, ki, sg, kn) := by
  funext k; unfold upd tk; by_cases h : k = 2 <;> simp [h]
theorem tk_uca (a b c : Nat) (ca x : Int32) (th pa ki sg kn : Nat → Int32) : upd (tk (a, b, c, ca, th, pa, ki, sg, kn)) 3 x = tk (a, b, c, x, th, pa, ki, sg, kn) := by
  funext k; unfold upd tk; by_cases h : k = 3 <;> simp [h]
theorem tk_uth (a b c : Nat) (ca x : Int32) (th pa ki sg kn : Nat → Int32) {j : Nat} (hj : j < 8) : upd (tk (a, b, c, ca, th, pa, ki, sg, kn)) (4 + j) x = tk (a, b, c, ca, upd th j x, pa, ki, sg, kn) := by
  funext k
  unfold upd tk
  by_cases h1 : k = 4 + j
  · subst h1
    rw [if_pos rfl, if_neg (by omega), if_neg (by omega), if_neg (by omega), if_neg (by omega), if_pos (by omega)]
    show x = if 4 + j - 4 = j then x else _
    rw [if_pos (by omega)]
  · rw [if_neg h1]
    by_cases h2 : k < 4
    · rcases (show k = 0 ∨ k = 1 ∨ k = 2 ∨ k = 3 by omega) with rfl | rfl | rfl | rfl <;> rfl
    · by_cases h3 : k < 12
      · simp only [h3, if_true]
        show _ = if k = 0 then _ else if k = 1 then _ else if k = 2 then _ else if k = 3 then _ else (if k - 4 = j then x else th (k - 4))
        rw [if_neg (show ¬ k - 4 = j by omega)]
      · simp only [h3, if_false]
theorem tk_upa (a b c : Nat) (ca x : Int32) (th pa ki sg kn : Nat → Int32) {j : Nat} (hj : j < 8) : upd (tk (a, b, c, ca, th, pa, ki, sg, kn)) (12 + j) x = tk (a, b, c, ca, th, upd pa j x, ki, sg, kn) := by
  funext k
  unfold upd tk
  by_cases h1 : k = 12 + j
  · subst h1
    rw [if_pos rfl, if_neg (by omega), if_neg (by omega), if_neg (by omega), if_neg (by omega), if_neg (by omega), if_pos (by omega)]
    show x = if 12 + j - 12 = j then x else _
    rw [if_pos (by omega)]
  · rw [if_neg h1]
    by_cases h2 : k < 12
    · simp only [h2, if_true]
    · by_cases h3 : k < 20
      · simp only [h2, h3, if_true, if_false]
        show _ = if k = 0 then _ else if k = 1 then _ else if k = 2 then _ else if k = 3 then _ else (if k - 12 = j then x else pa (k - 12))
        rw [if_neg (show ¬ k - 12 = j by omega)]
      · simp only [h2, h3, if_false]
theorem tk_uki (a b c : Nat) (ca x : Int32) (th pa ki sg kn : Nat → Int32) {j : Nat} (hj : j < 6) : upd (tk (a, b, c, ca, th, pa, ki, sg, kn)) (20 + j) x = tk (a, b, c, ca, th, pa, upd ki j x, sg, kn) := by
  funext k
  unfold upd tk
  by_cases h1 : k = 20 + j
  · subst h1
    rw [if_pos rfl, if_neg (by omega), if_neg (by omega), if_neg (by omega), if_neg (by omega), if_neg (by omega), if_neg (by omega), if_pos (by omega)]
    show x = if 20 + j - 20 = j then x else _
    rw [if_pos (by omega)]
  · rw [if_neg h1]
    by_cases h2 : k < 20
    · simp only [h2, if_true]
    · by_cases h3 : k < 26
      · simp only [h2, h3, if_true, if_false]
        show _ = if k = 0 then _ else if k = 1 then _ else if k = 2 then _ else if k = 3 then _ else if k < 12 then _ else (if k - 20 = j then x else ki (k - 20))
        rw [if_neg (show ¬ k - 20 = j by omega)]
      · simp only [h2, h3, if_false]
set_option maxRecDepth 20000 in
theorem lp_X9_begins (l : Launch) (z : Nat × Nat × Nat) (hz : z.2.1 ≤ 0 ∧ z.2.2 ≤ 0) (Q : Option Value → List va_E → Prop) (e : MR) (to s dr be : Nat → Int32) (dn at_ : Int32) (hQ : Q none (mw (sRd e (mix (fun _ => nI 0) dr 38) be (nI 0) at_) to s)) : ∀ k, k ≤ 38 → G l M_X9_begins z Q 2 [some (.ref 0), some (.int (nI k))] [] (mw (sRd e (mix (fun _ => nI 0) dr k) be dn at_) to s) := by
  refine loopN 38 ?_ (fun k hk ih => ?_)
  ·
    refine g_iload_n (n := 3) dX9_begins_2 rfl rfl ?_
    refine g_bipush (v := nI 38) (n := 5) dX9_begins_3 (by decide) rfl ?_
    refine g_icmp_ge (tgt := 21) (n := 8) dX9_begins_5 (by decide) rfl (fun c5 => ?_) (fun c5 => absurd (nI_le (Nat.le_refl _) (by decide)) c5)
    refine g_aload_n (n := 22) dX9_begins_21 rfl rfl ?_
    refine g_iconst (v := nI 0) (n := 23) dX9_begins_22 (by decide) rfl ?_
    refine g_put (n := 26) pf_X9_45 dX9_begins_23 rfl (Nat.le_of_ble_eq_true rfl) (fun _ => rfl) (fun _ => rfl) rfl ?_
    refine g_wN (w' := [_, _, _, _, _, _, _, _, _]) rfl ?_
    exact g_vret dX9_begins_26 rfl hz hQ
  ·
    refine g_iload_n (n := 3) dX9_begins_2 rfl rfl ?_
    refine g_bipush (v := nI 38) (n := 5) dX9_begins_3 (by decide) rfl ?_
    refine g_icmp_ge (tgt := 21) (n := 8) dX9_begins_5 (by decide) rfl (fun c5 => absurd c5 (nI_ge hk (by decide))) (fun c5 => ?_)
    refine g_aload_n (n := 9) dX9_begins_8 rfl rfl ?_
    refine g_get (n := 12) fl_X9_16 dX9_begins_9 rfl rfl rfl ?_
    refine g_iload_n (n := 13) dX9_begins_12 rfl rfl ?_
    refine g_iconst (v := nI 0) (n := 14) dX9_begins_13 (by decide) rfl ?_
    refine g_iastN (n := 15) dX9_begins_14 rfl rfl (by decide) (by omega) ?_
    refine g_wN (w' := [_, _, _, _, _, _, _, _, _]) rfl ?_
    rw [mix_s (fun _ => nI 0) dr k]
    refine g_iincN (k := 1) (n := 18) dX9_begins_15 rfl (by decide) rfl rfl ?_
    refine g_lsN (ls' := [_, _]) rfl ?_
    refine g_goto (tgt := 2) dX9_begins_18 (by decide) ?_
    exact ih
set_option maxRecDepth 20000 in
theorem t_X9_begins (l : Launch) (e : MR) (to s dr be : Nat → Int32) (dn at_ : Int32) (hd : ∀ j, 38 ≤ j → dr j = 0) : Fn l M_X9_begins [.ref 0] (mw (sRd e dr be dn at_) to s) none (mw (sRd e (tk V0) be (nI 0) at_) to s) := by
  have em : mix (fun _ => nI 0) dr 38 = tk V0 := by
    rw [tk_V0]
    funext j
    unfold mix
    by_cases hj : j < 38
    · rw [if_pos hj]
    · rw [if_neg hj, hd j (by omega)]
      rfl
  have h2 := lp_X9_begins l ((mw (sRd e dr be dn at_) to s).length, 0, 0) ⟨Nat.zero_le _, Nat.zero_le _⟩ (fun r u => r = none ∧ u = (mw (sRd e (tk V0) be (nI 0) at_) to s)) e to s dr be dn at_ ⟨rfl, by rw [em]⟩ 0 (Nat.zero_le _)
  rw [mix_0] at h2
  refine con_of rfl rfl (Nat.le_of_ble_eq_true rfl) ?_
  refine g_lsN (ls' := [_, _]) rfl ?_
  refine g_iconst (v := nI 0) (n := 1) dX9_begins_0 (by decide) rfl ?_
  refine g_istore_n (n := 2) dX9_begins_1 (by decide) rfl rfl ?_
  refine g_lsN (ls' := [_, _]) rfl ?_
  exact h2
set_option maxRecDepth 20000 in
theorem t_X9_bayOf (l : Launch) (e : MR) (to s : Nat → Int32) (V : WT) (be : Nat → Int32) (dn at_ : Int32) (hb8 : vnb V < 8) (t h : Int32) : Fn l M_X9_bayOf [.ref 0, .int t, .int h] (mw (sRd e (tk V) be dn at_) to s) none (mw (sRd e (tk (vB V t h)) be dn at_) to s) := by
  refine con_of rfl rfl (Nat.le_of_ble_eq_true rfl) ?_
  refine g_lsN (ls' := [_, _, _]) rfl ?_
  refine g_aload_n (n := 1) dX9_bayOf_0 rfl rfl ?_
  refine g_get (n := 4) fl_X9_16 dX9_bayOf_1 rfl rfl rfl ?_
  refine g_iconst (v := nI 4) (n := 5) dX9_bayOf_4 (by decide) rfl ?_
  refine g_aload_n (n := 6) dX9_bayOf_5 rfl rfl ?_
  refine g_get (n := 9) fl_X9_16 dX9_bayOf_6 rfl rfl rfl ?_
  refine g_iconst (v := nI 0) (n := 10) dX9_bayOf_9 (by decide) rfl ?_
  refine g_ialdN (n := 11) dX9_bayOf_10 rfl rfl (by decide) (by omega) ?_
  refine g_top (tk_0 _) ?_
  refine g_iaddN (n := 12) dX9_bayOf_11 rfl ?_
  refine g_iload_n (n := 13) dX9_bayOf_12 rfl rfl ?_
  refine g_iastN (n := 14) dX9_bayOf_13 rfl rfl (by decide) (by omega) ?_
  refine g_wN (w' := [_, _, _, _, _, _, _, _, _]) rfl ?_
  rw [tk_uth _ _ _ _ _ _ _ _ _ _ (by omega)]
  refine g_aload_n (n := 15) dX9_bayOf_14 rfl rfl ?_
  refine g_get (n := 18) fl_X9_16 dX9_bayOf_15 rfl rfl rfl ?_
  refine g_bipush (v := nI 12) (n := 20) dX9_bayOf_18 (by decide) rfl ?_
  refine g_aload_n (n := 21) dX9_bayOf_20 rfl rfl ?_
  refine g_get (n := 24) fl_X9_16 dX9_bayOf_21 rfl rfl rfl ?_
  refine g_iconst (v := nI 0) (n := 25) dX9_bayOf_24 (by decide) rfl ?_
  refine g_ialdN (n := 26) dX9_bayOf_25 rfl rfl (by decide) (by omega) ?_
  refine g_top (y := nI (vnb V)) rfl ?_
  refine g_iaddN (n := 27) dX9_bayOf_26 rfl ?_
  refine g_iload_n (n := 28) dX9_bayOf_27 rfl rfl ?_
  refine g_iastN (n := 29) dX9_bayOf_28 rfl rfl (by decide) (by omega) ?_
  refine g_wN (w' := [_, _, _, _, _, _, _, _, _]) rfl ?_
  rw [tk_upa _ _ _ _ _ _ _ _ _ _ (by omega)]
  refine g_aload_n (n := 30) dX9_bayOf_29 rfl rfl ?_
  refine g_get (n := 33) fl_X9_16 dX9_bayOf_30 rfl rfl rfl ?_
  refine g_iconst (v := nI 0) (n := 34) dX9_bayOf_33 (by decide) rfl ?_
  refine g_dup2 (n := 35) dX9_bayOf_34 rfl rfl rfl ?_
  refine g_ialdN (n := 36) dX9_bayOf_35 rfl rfl (by decide) (by omega) ?_
  refine g_top (y := nI (vnb V)) rfl ?_
  refine g_iconst (v := nI 1) (n := 37) dX9_bayOf_36 (by decide) rfl ?_
  refine g_iaddN (n := 38) dX9_bayOf_37 rfl ?_
  refine g_iastN (n := 39) dX9_bayOf_38 rfl rfl (by decide) (by omega) ?_
  refine g_wN (w' := [_, _, _, _, _, _, _, _, _]) rfl ?_
  rw [tk_nb]
  exact g_vret dX9_bayOf_39 rfl ⟨Nat.zero_le _, Nat.zero_le _⟩ ⟨rfl, rfl⟩
set_option maxRecDepth 20000 in
theorem t_X9_buttressOf (l : Launch) (e : MR) (to s : Nat → Int32) (V : WT) (be : Nat → Int32) (dn at_ : Int32) (hf6 : vnf V < 6) (k s_ x t : Int32) : Fn l M_X9_buttressOf [.ref 0, .int k, .int s_, .int x, .int t] (mw (sRd e (tk V) be dn at_) to s) none (mw (sRd e (tk (vF V k s_ t)) (upd be (vnf V) x) dn at_) to s) := by
  refine con_of rfl rfl (Nat.le_of_ble_eq_true rfl) ?_
  refine g_lsN (ls' := [_, _, _, _, _, _]) rfl ?_
  refine g_aload_n (n := 1) dX9_buttressOf_0 rfl rfl ?_
  refine g_get (n := 4) fl_X9_16 dX9_buttressOf_1 rfl rfl rfl ?_
  refine g_iconst (v := nI 1) (n := 5) dX9_buttressOf_4 (by decide) rfl ?_
  refine g_ialdN (n := 6) dX9_buttressOf_5 rfl rfl (by decide) (by omega) ?_
  refine g_top (tk_1 _) ?_
  refine g_istore (n := 8) dX9_buttressOf_6 (by decide) rfl rfl ?_
  refine g_lsN (ls' := [_, _, _, _, _, _]) rfl ?_
  refine g_aload_n (n := 9) dX9_buttressOf_8 rfl rfl ?_
  refine g_get (n := 12) fl_X9_16 dX9_buttressOf_9 rfl rfl rfl ?_
  refine g_bipush (v := nI 20) (n := 14) dX9_buttressOf_12 (by decide) rfl ?_
  refine g_iload (n := 16) dX9_buttressOf_14 rfl rfl ?_
  refine g_iaddN (n := 17) dX9_buttressOf_16 rfl ?_
  refine g_iload_n (n := 18) dX9_buttressOf_17 rfl rfl ?_
  refine g_iastN (n := 19) dX9_buttressOf_18 rfl rfl (by decide) (by omega) ?_
  refine g_wN (w' := [_, _, _, _, _, _, _, _, _]) rfl ?_
  rw [tk_uki _ _ _ _ _ _ _ _ _ _ (by omega)]
  refine g_aload_n (n := 20) dX9_buttressOf_19 rfl rfl ?_
  refine g_get (n := 23) fl_X9_16 dX9_buttressOf_20 rfl rfl rfl ?_
  refine g_bipush (v := nI 26) (n := 25) dX9_buttressOf_23 (by decide) rfl ?_
  refine g_iload (n := 27) dX9_buttressOf_25 rfl rfl ?_
  refine g_iaddN (n := 28) dX9_buttressOf_27 rfl ?_
  refine g_iload_n (n := 29) dX9_buttressOf_28 rfl rfl ?_
  refine g_iastN (n := 30) dX9_buttressOf_29 rfl rfl (by decide) (by omega) ?_
  refine g_wN (w' := [_, _, _, _, _, _, _, _, _]) rfl ?_
  rw [tk_usg _ (by omega)]
  refine g_aload_n (n := 31) dX9_buttressOf_30 rfl rfl ?_
  refine g_get (n := 34) fl_X9_16 dX9_buttressOf_31 rfl rfl rfl ?_
  refine g_bipush (v := nI 32) (n := 36) dX9_buttressOf_34 (by decide) rfl ?_
  refine g_iload (n := 38) dX9_buttressOf_36 rfl rfl ?_
  refine g_iaddN (n := 39) dX9_buttressOf_38 rfl ?_
  refine g_iload (n := 41) dX9_buttressOf_39 rfl rfl ?_
  refine g_iastN (n := 42) dX9_buttressOf_41 rfl rfl (by decide) (by omega) ?_
  refine g_wN (w' := [_, _, _, _, _, _, _, _, _]) rfl ?_
  rw [tk_ukn _ (by omega)]
  refine g_aload_n (n := 43) dX9_buttressOf_42 rfl rfl ?_
  refine g_get (n := 46) fl_X9_19 dX9_buttressOf_43 rfl rfl rfl ?_
  refine g_iload (n := 48) dX9_buttressOf_46 rfl rfl ?_
  refine g_iload_n (n := 49) dX9_buttressOf_48 rfl rfl ?_
  refine g_iastN (n := 50) dX9_buttressOf_49 rfl rfl (by decide) (by omega) ?_
  refine g_wN (w' := [_, _, _, _, _, _, _, _, _]) rfl ?_
  refine g_aload_n (n := 51) dX9_buttressOf_50 rfl rfl ?_
  refine g_get (n := 54) fl_X9_16 dX9_buttressOf_51 rfl rfl rfl ?_
  refine g_iconst (v := nI 1) (n := 55) dX9_buttressOf_54 (by decide) rfl ?_
  refine g_dup2 (n := 56) dX9_buttressOf_55 rfl rfl rfl ?_
  refine g_ialdN (n := 57) dX9_buttressOf_56 rfl rfl (by decide) (by omega) ?_
  refine g_top (y := nI (vnf V)) rfl ?_
  refine g_iconst (v := nI 1) (n := 58) dX9_buttressOf_57 (by decide) rfl ?_
  refine g_iaddN (n := 59) dX9_buttressOf_58 rfl ?_
  refine g_iastN (n := 60) dX9_buttressOf_59 rfl rfl (by decide) (by omega) ?_
  refine g_wN (w' := [_, _, _, _, _, _, _, _, _]) rfl ?_
  rw [tk_nf]
  exact g_vret dX9_buttressOf_60 rfl ⟨Nat.zero_le _, Nat.zero_le _⟩ ⟨rfl, rfl⟩

/-! 20.mroster: the reference's rosters -/
/-- the figure of place k of m, by n, of a code -/
def hoF (c k m n : Nat) : Nat := c / n ^ (m - 1 - k) % n

set_option maxRecDepth 20000 in
theorem lp_X9_hourOf (l : Launch) (z : Nat × Nat × Nat) (hz : z.2.1 ≤ 0 ∧ z.2.2 ≤ 0) (Q : Option Value → List va_E → Prop) (c k m n : Nat) (hc : c < 1000000) (hm : m ≤ 8) (hn : 1 ≤ n ∧ n ≤ 5) (hQ : Q (some (.int (nI (hoF c k m n)))) []) : ∀ (i left : Nat), k + i < m → left = c / n ^ (m - 1 - (k + i)) → G l M_X9_hourOf z Q 8 [some (.int (nI c)), some (.int (nI k)), some (.int (nI m)), some (.int (nI n)), some (.int (nI (left))), some (.int (nI (k + i)))] [] [] := by
  have hle : ∀ q : Nat, c / q ≤ c := fun q => Nat.div_le_self _ _
  intro i
  induction i with
  | zero =>
    intro left hi hl
    have hlc : left ≤ c := by rw [hl]; exact hle _
    have e9 : left % n = hoF c k m n := by rw [hl]; rfl
    refine g_iload (n := 10) dX9_hourOf_8 rfl rfl ?_
    refine g_iload_n (n := 11) dX9_hourOf_10 rfl rfl ?_
    refine g_icmp_le (tgt := 26) (n := 14) dX9_hourOf_11 (by decide) rfl (fun c11 => ?_) (fun c11 => absurd (nI_le (Nat.le_refl _) (by omega)) c11)
    refine g_iload (n := 28) dX9_hourOf_26 rfl rfl ?_
    refine g_iload_n (n := 29) dX9_hourOf_28 rfl rfl ?_
    refine g_irem (n := 30) dX9_hourOf_29 (nI_ne0 (by omega) (by omega)) rfl ?_
    refine g_top (pk_rem (by omega) (by omega) (by omega)) ?_
    rw [e9]
    exact g_iret (ty := .int) dX9_hourOf_30 rfl rfl hz hQ
  | succ i ih =>
    intro left hi hl
    have hlc : left ≤ c := by rw [hl]; exact hle _
    have e8 : left / n = c / n ^ (m - 1 - (k + i)) := by
      rw [hl, Nat.div_div_eq_div_mul, ← Nat.pow_succ, show (m - 1 - (k + (i + 1))).succ = m - 1 - (k + i) by omega]
    refine g_iload (n := 10) dX9_hourOf_8 rfl rfl ?_
    refine g_iload_n (n := 11) dX9_hourOf_10 rfl rfl ?_
    refine g_icmp_le (tgt := 26) (n := 14) dX9_hourOf_11 (by decide) rfl (fun c11 => absurd c11 (nI_ge (show k < k + (i + 1) by omega) (by omega))) (fun c11 => ?_)
    refine g_iload (n := 16) dX9_hourOf_14 rfl rfl ?_
    refine g_iload_n (n := 17) dX9_hourOf_16 rfl rfl ?_
    refine g_idiv (n := 18) dX9_hourOf_17 (nI_ne0 (by omega) (by omega)) rfl ?_
    refine g_top (pk_div (by omega) (by omega) (by omega)) ?_
    refine g_istore (n := 20) dX9_hourOf_18 (by decide) rfl rfl ?_
    refine g_lsN (ls' := [_, _, _, _, _, _]) rfl ?_
    refine g_iinc (n := 23) dX9_hourOf_20 rfl rfl (by decide) rfl rfl ?_
    refine g_lsN (ls' := [_, _, _, _, _, _]) rfl ?_
    rw [show nI (k + (i + 1)) + Int32.ofInt (-1) = nI (k + i) from pk_m1 (k + i)]
    refine g_goto (tgt := 8) dX9_hourOf_23 (by decide) ?_
    exact ih (left / n) (by omega) e8
set_option maxRecDepth 20000 in
theorem t_X9_hourOf (l : Launch) (c k m n : Nat) (hc : c < 1000000) (hm : m ≤ 8) (hn : 1 ≤ n ∧ n ≤ 5) (hk : k < m) : Fn l M_X9_hourOf [.int (nI c), .int (nI k), .int (nI m), .int (nI n)] [] (some (.int (nI (hoF c k m n)))) [] := by
  refine con_of rfl rfl (Nat.le_of_ble_eq_true rfl) ?_
  refine g_lsN (ls' := [_, _, _, _, _, _]) rfl ?_
  refine g_iload_n (n := 1) dX9_hourOf_0 rfl rfl ?_
  refine g_istore (n := 3) dX9_hourOf_1 (by decide) rfl rfl ?_
  refine g_lsN (ls' := [_, _, _, _, _, _]) rfl ?_
  refine g_iload_n (n := 4) dX9_hourOf_3 rfl rfl ?_
  refine g_iconst (v := nI 1) (n := 5) dX9_hourOf_4 (by decide) rfl ?_
  refine g_isubN (n := 6) dX9_hourOf_5 rfl (by omega) ?_
  refine g_istore (n := 8) dX9_hourOf_6 (by decide) rfl rfl ?_
  refine g_lsN (ls' := [_, _, _, _, _, _]) rfl ?_
  refine g_lsN (ls' := [some (.int (nI c)), some (.int (nI k)), some (.int (nI m)), some (.int (nI n)), some (.int (nI c)), some (.int (nI (k + (m - 1 - k))))]) (by rw [show k + (m - 1 - k) = m - 1 by omega]) ?_
  exact lp_X9_hourOf l _ ⟨Nat.zero_le _, Nat.zero_le _⟩ _ c k m n hc hm hn ⟨rfl, rfl⟩ (m - 1 - k) c (by omega) (by rw [show m - 1 - (k + (m - 1 - k)) = 0 by omega, Nat.pow_zero, Nat.div_one])
/-- ahead of an hour: who goes up again, who comes down -/
def roS (S0 : ST) (c n hour f : Nat) (S : ST) : ST :=
  if hb (sup S0) (nI f) then (if nI (hoF c (onN (sup S0) f) (onN (sup S0) 8) n) = nI hour - nI 1 then riS S f else if nI (hoF c (onN (sup S0) f) (onN (sup S0) 8) n) = nI hour then sUp S (sup S &&& ((nI 1 <<< (nI f &&& 31)) ^^^ (-1))) else S) else S
def roN (S0 : ST) (c n hour : Nat) (S : ST) : Nat → ST
  | 0 => S
  | f + 1 => roS S0 c n hour f (roN S0 c n hour S f)
def rsO (V : WT) (S0 : ST) (c n : Nat) : Nat → Nat → ST → Bool × ST
  | 0, _, S => (true, S)
  | i + 1, h, S => if sfa (psF V (roN S0 c n h S (vnf V))) = sfa S0 then rsO V S0 c n i (h + 1) (psF V (roN S0 c n h S (vnf V))) else (false, psF V (roN S0 c n h S (vnf V)))
/-- whether a code is a roster -/
def isR (V : WT) (S : ST) (c n : Nat) : Bool := (rsO V S c n n 0 S).1
theorem okZ_ro {S0 : ST} (c n hour : Nat) {S : ST} (h : okZ S) : ∀ f, okZ (roN S0 c n hour S f)
  | 0 => h
  | f + 1 => by
    have h1 := okZ_ro (S0 := S0) c n hour h f
    show okZ (roS S0 c n hour f (roN S0 c n hour S f))
    unfold roS
    split
    · split
      · exact h1
      · split
        · exact h1
        · exact h1
    · exact h1
theorem okZ_rs {V : WT} (hV : okV V) (S0 : ST) (c n : Nat) : ∀ (i h : Nat) (S : ST), okZ S → okZ (rsO V S0 c n i h S).2
  | 0, _, S, q => q
  | i + 1, h, S, q => by
    rw [rsO]
    split
    · exact okZ_rs hV S0 c n i (h + 1) _ (okZ_ps hV (okZ_ro c n h q _))
    · exact okZ_ps hV (okZ_ro c n h q _)
theorem onN_lt {x : Int32} {f : Nat} (h : hb x (nI f) = true) : ∀ m, f < m → onN x f < onN x m
  | 0, q => absurd q (Nat.not_lt_zero _)
  | m + 1, q => by
    rw [onN]
    rcases Nat.lt_or_ge f m with h1 | h1
    · have := onN_lt h m h1
      omega
    · have : f = m := by omega
      subst this
      rw [h, if_pos rfl]
      omega

set_option maxRecDepth 20000 in
set_option maxHeartbeats 1000000 in
theorem lp2_X9_isRoster (l : Launch) (z : Nat × Nat × Nat) (hz : z.2.1 ≤ 0 ∧ z.2.2 ≤ 0) (Q : Option Value → List va_E → Prop) (e : MR) (V : WT) (S : ST) (hV : okV V) (c n : Nat) (hc : c < 1000000) (hn : 1 ≤ n ∧ n ≤ 5) (hour : Nat) (hh : hour < n) (S2 : ST) (hK : ∀ (o7 o8 o9 : Option Value), G l M_X9_isRoster z Q 116 [some (.ref 0), some (.int (nI c)), some (.int (nI n)), some (.int (sup S)), some (.int (nI (onN (sup S) 8))), some (.int (bI true)), some (.int (nI hour)), o7, o8, o9] [] (mw e (tk V) (pk (roN S c n hour S2 (vnf V))))) : ∀ f, f ≤ vnf V → ∀ (o9 : Option Value), G l M_X9_isRoster z Q 36 [some (.ref 0), some (.int (nI c)), some (.int (nI n)), some (.int (sup S)), some (.int (nI (onN (sup S) 8))), some (.int (bI true)), some (.int (nI hour)), some (.int (nI (onN (sup S) f))), some (.int (nI f)), o9] [] (mw e (tk V) (pk (roN S c n hour S2 f))) := by
  have hV1 := hV.1
  have hV2 := hV.2.1
  have hV3 := hV.2.2
  refine loopN (vnf V) ?_ (fun f hf ih => ?_)
  ·
    intro o9
    refine g_iload (n := 38) dX9_isRoster_36 rfl rfl ?_
    refine g_aload_n (n := 39) dX9_isRoster_38 rfl rfl ?_
    refine g_get (n := 42) fl_X9_13 dX9_isRoster_39 rfl rfl rfl ?_
    refine g_iconst (v := nI 1) (n := 43) dX9_isRoster_42 (by decide) rfl ?_
    refine g_ialdN (n := 44) dX9_isRoster_43 rfl rfl (by decide) (by omega) ?_
    refine g_top (tk_1 _) ?_
    refine g_icmp_ge (tgt := 116) (n := 47) dX9_isRoster_44 (by decide) rfl (fun c44 => ?_) (fun c44 => absurd (nI_le (Nat.le_refl _) (by omega)) c44)
    exact hK _ _ _
  ·
    intro o9
    have J107 : ∀ (S3 : ST) (o9 : Option Value), hb (sup S) (nI f) = true → roN S c n hour S2 (f + 1) = S3 → G l M_X9_isRoster z Q 107 [some (.ref 0), some (.int (nI c)), some (.int (nI n)), some (.int (sup S)), some (.int (nI (onN (sup S) 8))), some (.int (bI true)), some (.int (nI hour)), some (.int (nI (onN (sup S) f))), some (.int (nI f)), o9] [] (mw e (tk V) (pk S3)) := by
      intro S3 o9 hbit hs
      have e5 : onN (sup S) (f + 1) = onN (sup S) f + 1 := by rw [onN, hbit]; rfl
      rw [hs, e5] at ih
      refine g_iincN (k := 1) (n := 110) dX9_isRoster_107 rfl (by decide) rfl rfl ?_
      refine g_lsN (ls' := [_, _, _, _, _, _, _, _, _, _]) rfl ?_
      refine g_iincN (k := 1) (n := 113) dX9_isRoster_110 rfl (by decide) rfl rfl ?_
      refine g_lsN (ls' := [_, _, _, _, _, _, _, _, _, _]) rfl ?_
      refine g_goto (tgt := 36) dX9_isRoster_113 (by decide) ?_
      exact ih _
    refine g_iload (n := 38) dX9_isRoster_36 rfl rfl ?_
    refine g_aload_n (n := 39) dX9_isRoster_38 rfl rfl ?_
    refine g_get (n := 42) fl_X9_13 dX9_isRoster_39 rfl rfl rfl ?_
    refine g_iconst (v := nI 1) (n := 43) dX9_isRoster_42 (by decide) rfl ?_
    refine g_ialdN (n := 44) dX9_isRoster_43 rfl rfl (by decide) (by omega) ?_
    refine g_top (tk_1 _) ?_
    refine g_icmp_ge (tgt := 116) (n := 47) dX9_isRoster_44 (by decide) rfl (fun c44 => absurd c44 (nI_ge hf (by omega))) (fun c44 => ?_)
    refine g_iload_n (n := 48) dX9_isRoster_47 rfl rfl ?_
    refine g_iload (n := 50) dX9_isRoster_48 rfl rfl ?_
    refine g_callSi (n := 53) cs_X9_94 (t_X9_has l _ _) dX9_isRoster_50 rfl rfl ⟨by decide, by decide, rfl, rfl, hz.1, hz.2⟩ rfl (Nat.le_of_ble_eq_true rfl) rfl ?_
    refine g_if_eq (tgt := 110) (n := 56) dX9_isRoster_53 (by decide) rfl (fun c53 => ?_) (fun c53 => ?_)
    ·
      have e0 : roN S c n hour S2 (f + 1) = roN S c n hour S2 f := by rw [roN]; unfold roS; rw [bI_0.mp c53]; rfl
      have e5 : onN (sup S) (f + 1) = onN (sup S) f := by rw [onN, bI_0.mp c53]; rfl
      rw [e0, e5] at ih
      refine g_iincN (k := 1) (n := 113) dX9_isRoster_110 rfl (by decide) rfl rfl ?_
      refine g_lsN (ls' := [_, _, _, _, _, _, _, _, _, _]) rfl ?_
      refine g_goto (tgt := 36) dX9_isRoster_113 (by decide) ?_
      exact ih _
    ·
      have hk9 := onN_lt (bI_n0.mp c53) 8 (by omega)
      refine g_iload_n (n := 57) dX9_isRoster_56 rfl rfl ?_
      refine g_iload (n := 59) dX9_isRoster_57 rfl rfl ?_
      refine g_iload (n := 61) dX9_isRoster_59 rfl rfl ?_
      refine g_iload_n (n := 62) dX9_isRoster_61 rfl rfl ?_
      refine g_callSi (n := 65) cs_X9_164 (t_X9_hourOf l c (onN (sup S) f) (onN (sup S) 8) n hc (onN_le _ 8) hn hk9) dX9_isRoster_62 rfl rfl ⟨by decide, by decide, rfl, rfl, hz.1, hz.2⟩ rfl (Nat.le_of_ble_eq_true rfl) rfl ?_
      refine g_istore (n := 67) dX9_isRoster_65 (by decide) rfl rfl ?_
      refine g_lsN (ls' := [_, _, _, _, _, _, _, _, _, _]) rfl ?_
      refine g_iload (n := 69) dX9_isRoster_67 rfl rfl ?_
      refine g_iload (n := 71) dX9_isRoster_69 rfl rfl ?_
      refine g_iconst (v := nI 1) (n := 72) dX9_isRoster_71 (by decide) rfl ?_
      refine g_isub (n := 73) dX9_isRoster_72 rfl ?_
      refine g_icmp_ne (tgt := 85) (n := 76) dX9_isRoster_73 (by decide) rfl (fun c73 => ?_) (fun c73 => ?_)
      ·
        have a1 : ¬ nI (hoF c (onN (sup S) f) (onN (sup S) 8) n) = nI hour - nI 1 := c73
        refine g_iload (n := 87) dX9_isRoster_85 rfl rfl ?_
        refine g_iload (n := 89) dX9_isRoster_87 rfl rfl ?_
        refine g_icmp_ne (tgt := 107) (n := 92) dX9_isRoster_89 (by decide) rfl (fun c89 => ?_) (fun c89 => ?_)
        ·
          have e0 : roN S c n hour S2 (f + 1) = roN S c n hour S2 f := by rw [roN]; unfold roS; rw [bI_n0.mp c53, if_pos rfl, if_neg a1, if_neg c89]
          first | exact J107 _ _ (bI_n0.mp c53) e0 | (rw [sk_up]; exact J107 _ _ (bI_n0.mp c53) e0)
        ·
          have e0 : roN S c n hour S2 (f + 1) = sUp (roN S c n hour S2 f) (sup (roN S c n hour S2 f) &&& ((nI 1 <<< (nI f &&& 31)) ^^^ (-1))) := by rw [roN]; unfold roS; rw [bI_n0.mp c53, if_pos rfl, if_neg a1, if_pos c89]
          refine g_aload_n (n := 93) dX9_isRoster_92 rfl rfl ?_
          refine g_get (n := 96) fl_X9_22 dX9_isRoster_93 rfl rfl rfl ?_
          refine g_iconst (v := nI 1) (n := 97) dX9_isRoster_96 (by decide) rfl ?_
          refine g_dup2 (n := 98) dX9_isRoster_97 rfl rfl rfl ?_
          refine g_ialdN (n := 99) dX9_isRoster_98 rfl rfl (by decide) (by omega) ?_
          refine g_top (sk_1 _) ?_
          refine g_iconst (v := nI 1) (n := 100) dX9_isRoster_99 (by decide) rfl ?_
          refine g_iload (n := 102) dX9_isRoster_100 rfl rfl ?_
          refine g_ishl (n := 103) dX9_isRoster_102 rfl ?_
          refine g_iconst (v := (-1)) (n := 104) dX9_isRoster_103 (by decide) rfl ?_
          refine g_ixor (n := 105) dX9_isRoster_104 rfl ?_
          refine g_iand (n := 106) dX9_isRoster_105 rfl ?_
          refine g_iastN (n := 107) dX9_isRoster_106 rfl rfl (by decide) (by omega) ?_
          refine g_wN (w' := [_, _, _, _, _, _, _, _, _]) rfl ?_
          first | exact J107 _ _ (bI_n0.mp c53) e0 | (rw [sk_up]; exact J107 _ _ (bI_n0.mp c53) e0)
      ·
        have e0 : roN S c n hour S2 (f + 1) = riS (roN S c n hour S2 f) f := by rw [roN]; unfold roS; rw [bI_n0.mp c53, if_pos rfl, if_pos c73]
        refine g_aload_n (n := 77) dX9_isRoster_76 rfl rfl ?_
        refine g_iload (n := 79) dX9_isRoster_77 rfl rfl ?_
        refine g_callWv (n := 82) cv_X9_168 (t_X9_rises l e V _ hV f hf) dX9_isRoster_79 rfl ⟨by decide, by decide, rfl, rfl, hz.1, hz.2⟩ rfl rfl rfl (Nat.le_of_ble_eq_true rfl) rfl rfl ?_
        refine g_goto (tgt := 107) dX9_isRoster_82 (by decide) ?_
        first | exact J107 _ _ (bI_n0.mp c53) e0 | (rw [sk_up]; exact J107 _ _ (bI_n0.mp c53) e0)
set_option maxRecDepth 20000 in
theorem lp1_X9_isRoster (l : Launch) (z : Nat × Nat × Nat) (hz : z.2.1 ≤ 0 ∧ z.2.2 ≤ 0) (Q : Option Value → List va_E → Prop) (e : MR) (V : WT) (S : ST) (hV : okV V) (hS : okZ S) (c n : Nat) (hc : c < 1000000) (hn : 1 ≤ n ∧ n ≤ 5) (hQ : Q (some (.int (bI (isR V S c n)))) (mw (sAs e (pk S)) (tk V) (pk S))) : ∀ (i hour : Nat) (S2 : ST) (o7 o8 o9 : Option Value), hour + i = n → okZ S2 → (rsO V S c n i hour S2).1 = isR V S c n → G l M_X9_isRoster z Q 19 [some (.ref 0), some (.int (nI c)), some (.int (nI n)), some (.int (sup S)), some (.int (nI (onN (sup S) 8))), some (.int (bI true)), some (.int (nI hour)), o7, o8, o9] [] (mw (sAs e (pk S)) (tk V) (pk S2)) := by
  have hV1 := hV.1
  have hV2 := hV.2.1
  have hV3 := hV.2.2
  intro i
  induction i with
  | zero =>
    intro hour S2 o7 o8 o9 hi hz9 hr
    rw [← hr] at hQ
    refine g_iload (n := 21) dX9_isRoster_19 rfl rfl ?_
    refine g_iload_n (n := 22) dX9_isRoster_21 rfl rfl ?_
    refine g_icmp_ge (tgt := 148) (n := 25) dX9_isRoster_22 (by decide) rfl (fun c22 => ?_) (fun c22 => absurd (nI_le (by omega) (by omega)) c22)
    refine g_aload_n (n := 149) dX9_isRoster_148 rfl rfl ?_
    refine g_callWv (n := 152) cv_X9_152 (t_X9_lets l (sAs e (pk S)) _ _ S hz9 hS rfl) dX9_isRoster_149 rfl ⟨by decide, by decide, rfl, rfl, hz.1, hz.2⟩ rfl rfl rfl (Nat.le_of_ble_eq_true rfl) rfl rfl ?_
    refine g_iload (n := 154) dX9_isRoster_152 rfl rfl ?_
    exact g_iret (ty := .boolean) dX9_isRoster_154 rfl (by first | exact bI_nar _ | decide) hz hQ
  | succ i ih =>
    intro hour S2 o7 o8 o9 hi hz2 hr
    have hK : ∀ (o7 o8 o9 : Option Value), G l M_X9_isRoster z Q 116 [some (.ref 0), some (.int (nI c)), some (.int (nI n)), some (.int (sup S)), some (.int (nI (onN (sup S) 8))), some (.int (bI true)), some (.int (nI hour)), o7, o8, o9] [] (mw (sAs e (pk S)) (tk V) (pk (roN S c n hour S2 (vnf V)))) := by
      intro o7 o8 o9
      have hz9 : okZ (psF V (roN S c n hour S2 (vnf V))) := okZ_ps hV (okZ_ro c n hour hz2 _)
      refine g_aload_n (n := 117) dX9_isRoster_116 rfl rfl ?_
      refine g_callWv (n := 120) cv_X9_134 (t_X9_passes l (sAs e (pk S)) V _ hV) dX9_isRoster_117 rfl ⟨by decide, by decide, rfl, rfl, hz.1, hz.2⟩ rfl rfl rfl (Nat.le_of_ble_eq_true rfl) rfl rfl ?_
      refine g_aload_n (n := 121) dX9_isRoster_120 rfl rfl ?_
      refine g_get (n := 124) fl_X9_22 dX9_isRoster_121 rfl rfl rfl ?_
      refine g_iconst (v := nI 2) (n := 125) dX9_isRoster_124 (by decide) rfl ?_
      refine g_ialdN (n := 126) dX9_isRoster_125 rfl rfl (by decide) (by omega) ?_
      refine g_top (sk_2 _) ?_
      refine g_aload_n (n := 127) dX9_isRoster_126 rfl rfl ?_
      refine g_get (n := 130) fl_X9_31 dX9_isRoster_127 rfl rfl rfl ?_
      refine g_iconst (v := nI 2) (n := 131) dX9_isRoster_130 (by decide) rfl ?_
      refine g_ialdN (n := 132) dX9_isRoster_131 rfl rfl (by decide) (by omega) ?_
      refine g_top (sk_2 _) ?_
      refine g_icmp_ne (tgt := 139) (n := 135) dX9_isRoster_132 (by decide) rfl (fun c132 => ?_) (fun c132 => ?_)
      ·
        have a1 : (rsO V S c n (i + 1) hour S2).1 = false := by rw [rsO, if_neg c132]
        have e6 : isR V S c n = false := by rw [← hr]; exact a1
        rw [e6] at hQ
        refine g_iconst (v := nI 0) (n := 140) dX9_isRoster_139 (by decide) rfl ?_
        refine g_istore (n := 142) dX9_isRoster_140 (by decide) rfl rfl ?_
        refine g_lsN (ls' := [_, _, _, _, _, _, _, _, _, _]) rfl ?_
        refine g_iincN (k := 1) (n := 145) dX9_isRoster_142 rfl (by decide) rfl rfl ?_
        refine g_lsN (ls' := [_, _, _, _, _, _, _, _, _, _]) rfl ?_
        refine g_goto (tgt := 19) dX9_isRoster_145 (by decide) ?_
        refine g_iload (n := 21) dX9_isRoster_19 rfl rfl ?_
        refine g_iload_n (n := 22) dX9_isRoster_21 rfl rfl ?_
        refine g_icmp_ge (tgt := 148) (n := 25) dX9_isRoster_22 (by decide) rfl (fun c22 => ?_) (fun c22 => ?_)
        ·
          refine g_aload_n (n := 149) dX9_isRoster_148 rfl rfl ?_
          refine g_callWv (n := 152) cv_X9_152 (t_X9_lets l (sAs e (pk S)) _ _ S hz9 hS rfl) dX9_isRoster_149 rfl ⟨by decide, by decide, rfl, rfl, hz.1, hz.2⟩ rfl rfl rfl (Nat.le_of_ble_eq_true rfl) rfl rfl ?_
          refine g_iload (n := 154) dX9_isRoster_152 rfl rfl ?_
          exact g_iret (ty := .boolean) dX9_isRoster_154 rfl (by first | exact bI_nar _ | decide) hz hQ
        ·
          refine g_iload (n := 27) dX9_isRoster_25 rfl rfl ?_
          refine g_if_eq (tgt := 148) (n := 30) dX9_isRoster_27 (by decide) rfl (fun c27 => ?_) (fun c27 => absurd (by decide) c27)
          refine g_aload_n (n := 149) dX9_isRoster_148 rfl rfl ?_
          refine g_callWv (n := 152) cv_X9_152 (t_X9_lets l (sAs e (pk S)) _ _ S hz9 hS rfl) dX9_isRoster_149 rfl ⟨by decide, by decide, rfl, rfl, hz.1, hz.2⟩ rfl rfl rfl (Nat.le_of_ble_eq_true rfl) rfl rfl ?_
          refine g_iload (n := 154) dX9_isRoster_152 rfl rfl ?_
          exact g_iret (ty := .boolean) dX9_isRoster_154 rfl (by first | exact bI_nar _ | decide) hz hQ
      ·
        have a2 := c132
        refine g_iconst (v := nI 1) (n := 136) dX9_isRoster_135 (by decide) rfl ?_
        refine g_goto (tgt := 140) dX9_isRoster_136 (by decide) ?_
        refine g_istore (n := 142) dX9_isRoster_140 (by decide) rfl rfl ?_
        refine g_lsN (ls' := [_, _, _, _, _, _, _, _, _, _]) rfl ?_
        refine g_iincN (k := 1) (n := 145) dX9_isRoster_142 rfl (by decide) rfl rfl ?_
        refine g_lsN (ls' := [_, _, _, _, _, _, _, _, _, _]) rfl ?_
        refine g_goto (tgt := 19) dX9_isRoster_145 (by decide) ?_
        exact ih (hour + 1) _ _ _ _ (by omega) hz9 (by rw [← hr, rsO, if_pos a2])
    refine g_iload (n := 21) dX9_isRoster_19 rfl rfl ?_
    refine g_iload_n (n := 22) dX9_isRoster_21 rfl rfl ?_
    refine g_icmp_ge (tgt := 148) (n := 25) dX9_isRoster_22 (by decide) rfl (fun c22 => absurd c22 (nI_ge (by omega) (by omega))) (fun c22 => ?_)
    refine g_iload (n := 27) dX9_isRoster_25 rfl rfl ?_
    refine g_if_eq (tgt := 148) (n := 30) dX9_isRoster_27 (by decide) rfl (fun c27 => absurd c27 (by decide)) (fun c27 => ?_)
    refine g_iconst (v := nI 0) (n := 31) dX9_isRoster_30 (by decide) rfl ?_
    refine g_istore (n := 33) dX9_isRoster_31 (by decide) rfl rfl ?_
    refine g_lsN (ls' := [_, _, _, _, _, _, _, _, _, _]) rfl ?_
    refine g_iconst (v := nI 0) (n := 34) dX9_isRoster_33 (by decide) rfl ?_
    refine g_istore (n := 36) dX9_isRoster_34 (by decide) rfl rfl ?_
    refine g_lsN (ls' := [_, _, _, _, _, _, _, _, _, _]) rfl ?_
    exact lp2_X9_isRoster l z hz Q (sAs e (pk S)) V S hV c n hc hn hour (by omega) S2 hK 0 (Nat.zero_le _) _
set_option maxRecDepth 20000 in
theorem t_X9_isRoster (l : Launch) (e : MR) (V : WT) (S : ST) (hV : okV V) (hS : okZ S) (c n : Nat) (hc : c < 1000000) (hn : 1 ≤ n ∧ n ≤ 5) : Fn l M_X9_isRoster [.ref 0, .int (nI c), .int (nI n)] (mw (sAs e (pk S)) (tk V) (pk S)) (some (.int (bI (isR V S c n)))) (mw (sAs e (pk S)) (tk V) (pk S)) := by
  have hV1 := hV.1
  have hV2 := hV.2.1
  have hV3 := hV.2.2
  refine con_of rfl rfl (Nat.le_of_ble_eq_true rfl) ?_
  refine g_lsN (ls' := [_, _, _, _, _, _, _, _, _, _]) rfl ?_
  refine g_aload_n (n := 1) dX9_isRoster_0 rfl rfl ?_
  refine g_get (n := 4) fl_X9_31 dX9_isRoster_1 rfl rfl rfl ?_
  refine g_iconst (v := nI 1) (n := 5) dX9_isRoster_4 (by decide) rfl ?_
  refine g_ialdN (n := 6) dX9_isRoster_5 rfl rfl (by decide) (by omega) ?_
  refine g_top (sk_1 _) ?_
  refine g_istore_n (n := 7) dX9_isRoster_6 (by decide) rfl rfl ?_
  refine g_lsN (ls' := [_, _, _, _, _, _, _, _, _, _]) rfl ?_
  refine g_iload_n (n := 8) dX9_isRoster_7 rfl rfl ?_
  refine g_callSi (n := 11) cs_X9_161 (t_X9_ones l _) dX9_isRoster_8 rfl rfl ⟨by decide, by decide, rfl, rfl, Nat.zero_le _, Nat.zero_le _⟩ rfl (Nat.le_of_ble_eq_true rfl) rfl ?_
  refine g_top (on_nat _ 8 (by decide)) ?_
  refine g_istore (n := 13) dX9_isRoster_11 (by decide) rfl rfl ?_
  refine g_lsN (ls' := [_, _, _, _, _, _, _, _, _, _]) rfl ?_
  refine g_iconst (v := nI 1) (n := 14) dX9_isRoster_13 (by decide) rfl ?_
  refine g_istore (n := 16) dX9_isRoster_14 (by decide) rfl rfl ?_
  refine g_lsN (ls' := [_, _, _, _, _, _, _, _, _, _]) rfl ?_
  refine g_iconst (v := nI 0) (n := 17) dX9_isRoster_16 (by decide) rfl ?_
  refine g_istore (n := 19) dX9_isRoster_17 (by decide) rfl rfl ?_
  refine g_lsN (ls' := [_, _, _, _, _, _, _, _, _, _]) rfl ?_
  exact lp1_X9_isRoster l _ ⟨Nat.zero_le _, Nat.zero_le _⟩ _ e V S hV hS c n hc hn ⟨rfl, rfl⟩ n 0 S _ _ _ (by omega) hS rfl
/-- the first code that is a roster, or their number -/
def codes (S : ST) (n : Nat) : Nat := n ^ onN (sup S) 8
theorem codes_le (S : ST) {n : Nat} (hn : n ≤ 5) : ∀ k, k ≤ onN (sup S) 8 → n ^ k ≤ 390625 := fun k hk => Nat.le_trans (Nat.pow_le_pow_left hn k) ((by decide +kernel : ∀ c, c ≤ 8 → 5 ^ c ≤ 390625) k (Nat.le_trans hk (onN_le (sup S) 8)))
def roA (S : ST) (n c0 : Nat) (f : Int32) : Int32 := if c0 = codes S n then (-4) else if f = (-1) then nI 1 else if hb (sup S) f then nI (hoF c0 (onN (sup S) f.toNatClampNeg) (onN (sup S) 8) n) else (-4)
theorem low_nat (x : Int32) {f : Nat} (hf : f < 8) : on (x &&& (nI (2 ^ f) - nI 1)) 8 = nI (onN x f) := by
  have e1 : ∀ k, k < 8 → hb (nI (2 ^ f) - nI 1) (nI k) = decide (k < f) := (by decide +kernel : ∀ f, f < 8 → ∀ k, k < 8 → hb (nI (2 ^ f) - nI 1) (nI k) = decide (k < f)) f hf
  rw [on_nat _ 8 (by decide)]
  have key : ∀ k, k ≤ 8 → onN (x &&& (nI (2 ^ f) - nI 1)) k = onN x (min k f) := by
    intro k
    induction k with
    | zero => intro _; rw [Nat.zero_min]; rfl
    | succ k ih =>
      intro hk
      rw [onN, ih (by omega), hb_and _ _ (by omega), e1 k (by omega)]
      by_cases h : k < f
      · rw [Nat.min_eq_left (by omega), Nat.min_eq_left (by omega), onN, decide_eq_true h, Bool.and_true]
      · rw [Nat.min_eq_right (by omega), Nat.min_eq_right (by omega), decide_eq_false h, Bool.and_false]
        rfl
  rw [key 8 (by decide), Nat.min_eq_right (by omega)]

set_option maxRecDepth 20000 in
set_option maxHeartbeats 1000000 in
theorem lp2_X9_roster (l : Launch) (z : Nat × Nat × Nat) (hz : z.2.1 ≤ 0 ∧ z.2.2 ≤ 0) (Q : Option Value → List va_E → Prop) (e : MR) (V : WT) (S : ST) (hV : okV V) (hS : okZ S) (n : Nat) (hn : 1 ≤ n ∧ n ≤ 5) (f : Int32) (hf9 : f = (-1) ∨ ∃ g, g < vnf V ∧ f = nI g) (c0 : Nat) (hc0 : c0 ≤ codes S n) (hc1 : c0 < codes S n → isR V S c0 n = true) (hc2 : ∀ i, i < c0 → isR V S i n = false) (hQ : Q (some (.int (roA S n c0 f))) (mw (sAs e (pk S)) (tk V) (pk S))) : ∀ c, c ≤ c0 → G l M_X9_roster z Q 65 [some (.ref 0), some (.int (nI n)), some (.int f), some (.int (nI (onN (sup S) 8))), some (.int (nI (codes S n))), some (.int (nI c))] [] (mw (sAs e (pk S)) (tk V) (pk S)) := by
  have hV1 := hV.1
  have hV2 := hV.2.1
  have hV3 := hV.2.2
  have hcl := codes_le S hn.2 _ (Nat.le_refl _)
  have hcd : codes S n = n ^ onN (sup S) 8 := rfl
  refine loopN c0 ?_ (fun c hc ih => ?_)
  ·
    by_cases hne : c0 = codes S n
    ·
      have e1 : roA S n c0 f = (-4) := by unfold roA; rw [if_pos hne]
      rw [e1] at hQ
      refine g_iload (n := 67) dX9_roster_65 rfl rfl ?_
      refine g_iload (n := 69) dX9_roster_67 rfl rfl ?_
      refine g_icmp_ge (tgt := 88) (n := 72) dX9_roster_69 (by decide) rfl (fun c69 => ?_) (fun c69 => absurd (nI_le (by omega) (by omega)) c69)
      refine g_iload (n := 90) dX9_roster_88 rfl rfl ?_
      refine g_iload (n := 92) dX9_roster_90 rfl rfl ?_
      refine g_icmp_eq (tgt := 112) (n := 95) dX9_roster_92 (by decide) rfl (fun c92 => ?_) (fun c92 => absurd (by rw [hne]) c92)
      refine g_bipush (v := (-4)) (n := 114) dX9_roster_112 (by decide) rfl ?_
      exact g_iret (ty := .int) dX9_roster_114 rfl rfl hz hQ
    ·
      have hlt : c0 < codes S n := by omega
      refine g_iload (n := 67) dX9_roster_65 rfl rfl ?_
      refine g_iload (n := 69) dX9_roster_67 rfl rfl ?_
      refine g_icmp_ge (tgt := 88) (n := 72) dX9_roster_69 (by decide) rfl (fun c69 => absurd c69 (nI_ge hlt (by omega))) (fun c69 => ?_)
      refine g_aload_n (n := 73) dX9_roster_72 rfl rfl ?_
      refine g_iload (n := 75) dX9_roster_73 rfl rfl ?_
      refine g_iload_n (n := 76) dX9_roster_75 rfl rfl ?_
      refine g_callWi (n := 79) cv_X9_172 (t_X9_isRoster l e V S hV hS c0 n (by omega) hn) dX9_roster_76 rfl ⟨by decide, by decide, rfl, rfl, hz.1, hz.2⟩ rfl rfl rfl (Nat.le_of_ble_eq_true rfl) rfl rfl ?_
      refine g_if_ne (tgt := 88) (n := 82) dX9_roster_79 (by decide) rfl (fun c79 => ?_) (fun c79 => absurd c79 (bI_n0.mpr (hc1 hlt)))
      rcases hf9 with hg | ⟨g, hg1, hg2⟩
      ·
        have e1 : roA S n c0 f = nI 1 := by unfold roA; rw [if_neg hne, if_pos hg]
        rw [e1] at hQ
        refine g_iload (n := 90) dX9_roster_88 rfl rfl ?_
        refine g_iload (n := 92) dX9_roster_90 rfl rfl ?_
        refine g_icmp_eq (tgt := 112) (n := 95) dX9_roster_92 (by decide) rfl (fun c92 => absurd c92 (fun q => hne ((nI_eq (by omega) (by omega)).mp q))) (fun c92 => ?_)
        refine g_iload_n (n := 96) dX9_roster_95 rfl rfl ?_
        refine g_if_lt (tgt := 115) (n := 99) dX9_roster_96 (by decide) rfl (fun c96 => ?_) (fun c96 => absurd (by rw [hg]; decide) c96)
        refine g_iload_n (n := 116) dX9_roster_115 rfl rfl ?_
        refine g_iconst (v := (-1)) (n := 117) dX9_roster_116 (by decide) rfl ?_
        refine g_icmp_ne (tgt := 124) (n := 120) dX9_roster_117 (by decide) rfl (fun c117 => absurd hg c117) (fun c117 => ?_)
        refine g_iconst (v := nI 1) (n := 121) dX9_roster_120 (by decide) rfl ?_
        refine g_goto (tgt := 146) dX9_roster_121 (by decide) ?_
        exact g_iret (ty := .int) dX9_roster_146 rfl rfl hz hQ
      ·
        have hgm : ¬ f = (-1) := by rw [hg2]; exact fun q => absurd (q ▸ nI_pos' (n := g) (by omega)) (by decide)
        refine g_iload (n := 90) dX9_roster_88 rfl rfl ?_
        refine g_iload (n := 92) dX9_roster_90 rfl rfl ?_
        refine g_icmp_eq (tgt := 112) (n := 95) dX9_roster_92 (by decide) rfl (fun c92 => absurd c92 (fun q => hne ((nI_eq (by omega) (by omega)).mp q))) (fun c92 => ?_)
        refine g_iload_n (n := 96) dX9_roster_95 rfl rfl ?_
        refine g_if_lt (tgt := 115) (n := 99) dX9_roster_96 (by decide) rfl (fun c96 => absurd c96 (by rw [hg2]; exact nI_pos (by omega))) (fun c96 => ?_)
        refine g_aload_n (n := 100) dX9_roster_99 rfl rfl ?_
        refine g_get (n := 103) fl_X9_22 dX9_roster_100 rfl rfl rfl ?_
        refine g_iconst (v := nI 1) (n := 104) dX9_roster_103 (by decide) rfl ?_
        refine g_ialdN (n := 105) dX9_roster_104 rfl rfl (by decide) (by omega) ?_
        refine g_top (sk_1 _) ?_
        refine g_iload_n (n := 106) dX9_roster_105 rfl rfl ?_
        refine g_callSi (n := 109) cs_X9_94 (t_X9_has l _ _) dX9_roster_106 rfl rfl ⟨by decide, by decide, rfl, rfl, hz.1, hz.2⟩ rfl (Nat.le_of_ble_eq_true rfl) rfl ?_
        refine g_if_ne (tgt := 115) (n := 112) dX9_roster_109 (by decide) rfl (fun c109 => ?_) (fun c109 => ?_)
        ·
          have hk9 := onN_lt (by rw [← hg2]; exact bI_n0.mp c109) 8 (by omega)
          have e1 : roA S n c0 f = nI (hoF c0 (onN (sup S) g) (onN (sup S) 8) n) := by unfold roA; rw [if_neg hne, if_neg hgm, bI_n0.mp c109, if_pos rfl, hg2, nI_clamp (by omega)]
          rw [e1] at hQ
          refine g_iload_n (n := 116) dX9_roster_115 rfl rfl ?_
          refine g_iconst (v := (-1)) (n := 117) dX9_roster_116 (by decide) rfl ?_
          refine g_icmp_ne (tgt := 124) (n := 120) dX9_roster_117 (by decide) rfl (fun c117 => ?_) (fun c117 => absurd c117 hgm)
          refine g_iload (n := 126) dX9_roster_124 rfl rfl ?_
          refine g_aload_n (n := 127) dX9_roster_126 rfl rfl ?_
          refine g_get (n := 130) fl_X9_22 dX9_roster_127 rfl rfl rfl ?_
          refine g_iconst (v := nI 1) (n := 131) dX9_roster_130 (by decide) rfl ?_
          refine g_ialdN (n := 132) dX9_roster_131 rfl rfl (by decide) (by omega) ?_
          refine g_top (sk_1 _) ?_
          refine g_iconst (v := nI 1) (n := 133) dX9_roster_132 (by decide) rfl ?_
          refine g_iload_n (n := 134) dX9_roster_133 rfl rfl ?_
          refine g_ishl (n := 135) dX9_roster_134 rfl ?_
          rw [hg2]
          refine g_top (shl_pow (by omega)) ?_
          refine g_iconst (v := nI 1) (n := 136) dX9_roster_135 (by decide) rfl ?_
          refine g_isub (n := 137) dX9_roster_136 rfl ?_
          refine g_iand (n := 138) dX9_roster_137 rfl ?_
          refine g_callSi (n := 141) cs_X9_161 (t_X9_ones l _) dX9_roster_138 rfl rfl ⟨by decide, by decide, rfl, rfl, hz.1, hz.2⟩ rfl (Nat.le_of_ble_eq_true rfl) rfl ?_
          refine g_top (low_nat _ (by omega)) ?_
          refine g_iload_n (n := 142) dX9_roster_141 rfl rfl ?_
          refine g_iload_n (n := 143) dX9_roster_142 rfl rfl ?_
          refine g_callSi (n := 146) cs_X9_164 (t_X9_hourOf l c0 _ _ n (by omega) (onN_le _ 8) hn hk9) dX9_roster_143 rfl rfl ⟨by decide, by decide, rfl, rfl, hz.1, hz.2⟩ rfl (Nat.le_of_ble_eq_true rfl) rfl ?_
          exact g_iret (ty := .int) dX9_roster_146 rfl rfl hz hQ
        ·
          have e1 : roA S n c0 f = (-4) := by unfold roA; rw [if_neg hne, if_neg hgm, bI_0.mp c109]; rfl
          rw [e1] at hQ
          refine g_bipush (v := (-4)) (n := 114) dX9_roster_112 (by decide) rfl ?_
          exact g_iret (ty := .int) dX9_roster_114 rfl rfl hz hQ
  ·
    refine g_iload (n := 67) dX9_roster_65 rfl rfl ?_
    refine g_iload (n := 69) dX9_roster_67 rfl rfl ?_
    refine g_icmp_ge (tgt := 88) (n := 72) dX9_roster_69 (by decide) rfl (fun c69 => absurd c69 (nI_ge (show c < codes S n by omega) (by omega))) (fun c69 => ?_)
    refine g_aload_n (n := 73) dX9_roster_72 rfl rfl ?_
    refine g_iload (n := 75) dX9_roster_73 rfl rfl ?_
    refine g_iload_n (n := 76) dX9_roster_75 rfl rfl ?_
    refine g_callWi (n := 79) cv_X9_172 (t_X9_isRoster l e V S hV hS c n (by omega) hn) dX9_roster_76 rfl ⟨by decide, by decide, rfl, rfl, hz.1, hz.2⟩ rfl rfl rfl (Nat.le_of_ble_eq_true rfl) rfl rfl ?_
    refine g_if_ne (tgt := 88) (n := 82) dX9_roster_79 (by decide) rfl (fun c79 => absurd (bI_0.mpr (hc2 c hc)) c79) (fun c79 => ?_)
    refine g_iincN (k := 1) (n := 85) dX9_roster_82 rfl (by decide) rfl rfl ?_
    refine g_lsN (ls' := [_, _, _, _, _, _]) rfl ?_
    refine g_goto (tgt := 65) dX9_roster_85 (by decide) ?_
    exact ih
set_option maxRecDepth 20000 in
theorem lp1_X9_roster (l : Launch) (z : Nat × Nat × Nat) (hz : z.2.1 ≤ 0 ∧ z.2.2 ≤ 0) (Q : Option Value → List va_E → Prop) (e : MR) (V : WT) (S : ST) (hV : okV V) (hS : okZ S) (n : Nat) (hn : 1 ≤ n ∧ n ≤ 5) (f : Int32) (hf9 : f = (-1) ∨ ∃ g, g < vnf V ∧ f = nI g) (c0 : Nat) (hc0 : c0 ≤ codes S n) (hc1 : c0 < codes S n → isR V S c0 n = true) (hc2 : ∀ i, i < c0 → isR V S i n = false) (hQ : Q (some (.int (roA S n c0 f))) (mw (sAs e (pk S)) (tk V) (pk S))) : ∀ k, k ≤ onN (sup S) 8 → G l M_X9_roster z Q 44 [some (.ref 0), some (.int (nI n)), some (.int f), some (.int (nI (onN (sup S) 8))), some (.int (nI (n ^ k))), some (.int (nI k))] [] (mw (sAs e (pk S)) (tk V) (pk S)) := by
  have hV1 := hV.1
  have hV2 := hV.2.1
  have hV3 := hV.2.2
  have hle := onN_le (sup S) 8
  refine loopN (onN (sup S) 8) ?_ (fun k hk ih => ?_)
  ·
    refine g_iload (n := 46) dX9_roster_44 rfl rfl ?_
    refine g_iload_n (n := 47) dX9_roster_46 rfl rfl ?_
    refine g_icmp_ge (tgt := 62) (n := 50) dX9_roster_47 (by decide) rfl (fun c47 => ?_) (fun c47 => absurd (nI_le (Nat.le_refl _) (by omega)) c47)
    refine g_iconst (v := nI 0) (n := 63) dX9_roster_62 (by decide) rfl ?_
    refine g_istore (n := 65) dX9_roster_63 (by decide) rfl rfl ?_
    refine g_lsN (ls' := [_, _, _, _, _, _]) rfl ?_
    exact lp2_X9_roster l z hz Q e V S hV hS n hn f hf9 c0 hc0 hc1 hc2 hQ 0 (Nat.zero_le _)
  ·
    rw [Nat.pow_succ] at ih
    refine g_iload (n := 46) dX9_roster_44 rfl rfl ?_
    refine g_iload_n (n := 47) dX9_roster_46 rfl rfl ?_
    refine g_icmp_ge (tgt := 62) (n := 50) dX9_roster_47 (by decide) rfl (fun c47 => absurd c47 (nI_ge hk (by omega))) (fun c47 => ?_)
    refine g_iload (n := 52) dX9_roster_50 rfl rfl ?_
    refine g_iload_n (n := 53) dX9_roster_52 rfl rfl ?_
    refine g_imulN (n := 54) dX9_roster_53 rfl ?_
    refine g_istore (n := 56) dX9_roster_54 (by decide) rfl rfl ?_
    refine g_lsN (ls' := [_, _, _, _, _, _]) rfl ?_
    refine g_iincN (k := 1) (n := 59) dX9_roster_56 rfl (by decide) rfl rfl ?_
    refine g_lsN (ls' := [_, _, _, _, _, _]) rfl ?_
    refine g_goto (tgt := 44) dX9_roster_59 (by decide) ?_
    exact ih
set_option maxRecDepth 20000 in
theorem t_X9_roster_bad1 (l : Launch) (e : MR) (V : WT) (S : ST) (hV : okV V) (x f : Int32) (h : inB x (nI 1) (nI 5) = false) : Fn l M_X9_roster [.ref 0, .int x, .int f] (mw e (tk V) (pk S)) (some (.int (-1))) (mw e (tk V) (pk S)) := by
  have hV1 := hV.1
  have hV2 := hV.2.1
  have hV3 := hV.2.2
  refine con_of rfl rfl (Nat.le_of_ble_eq_true rfl) ?_
  refine g_lsN (ls' := [_, _, _, _, _, _]) rfl ?_
  refine g_iload_n (n := 1) dX9_roster_0 rfl rfl ?_
  refine g_iconst (v := nI 1) (n := 2) dX9_roster_1 (by decide) rfl ?_
  refine g_iconst (v := nI 5) (n := 3) dX9_roster_2 (by decide) rfl ?_
  refine g_callSi (n := 6) cs_X9_52 (t_X9_in l _ _ _) dX9_roster_3 rfl rfl ⟨by decide, by decide, rfl, rfl, Nat.zero_le _, Nat.zero_le _⟩ rfl (Nat.le_of_ble_eq_true rfl) rfl ?_
  refine g_if_eq (tgt := 22) (n := 9) dX9_roster_6 (by decide) rfl (fun c6 => ?_) (fun c6 => absurd (bI_0.mpr h) c6)
  refine g_iconst (v := (-1)) (n := 23) dX9_roster_22 (by decide) rfl ?_
  exact g_iret (ty := .int) dX9_roster_23 rfl rfl ⟨Nat.zero_le _, Nat.zero_le _⟩ ⟨rfl, rfl⟩
set_option maxRecDepth 20000 in
theorem t_X9_roster_bad2 (l : Launch) (e : MR) (V : WT) (S : ST) (hV : okV V) (x f : Int32) (h : inB x (nI 1) (nI 5) = true) (h1 : ¬ f = (-1)) (h2 : isB (vnf V) f = false) : Fn l M_X9_roster [.ref 0, .int x, .int f] (mw e (tk V) (pk S)) (some (.int (-1))) (mw e (tk V) (pk S)) := by
  have hV1 := hV.1
  have hV2 := hV.2.1
  have hV3 := hV.2.2
  refine con_of rfl rfl (Nat.le_of_ble_eq_true rfl) ?_
  refine g_lsN (ls' := [_, _, _, _, _, _]) rfl ?_
  refine g_iload_n (n := 1) dX9_roster_0 rfl rfl ?_
  refine g_iconst (v := nI 1) (n := 2) dX9_roster_1 (by decide) rfl ?_
  refine g_iconst (v := nI 5) (n := 3) dX9_roster_2 (by decide) rfl ?_
  refine g_callSi (n := 6) cs_X9_52 (t_X9_in l _ _ _) dX9_roster_3 rfl rfl ⟨by decide, by decide, rfl, rfl, Nat.zero_le _, Nat.zero_le _⟩ rfl (Nat.le_of_ble_eq_true rfl) rfl ?_
  refine g_if_eq (tgt := 22) (n := 9) dX9_roster_6 (by decide) rfl (fun c6 => absurd c6 (bI_n0.mpr h)) (fun c6 => ?_)
  refine g_iload_n (n := 10) dX9_roster_9 rfl rfl ?_
  refine g_iconst (v := (-1)) (n := 11) dX9_roster_10 (by decide) rfl ?_
  refine g_icmp_eq (tgt := 24) (n := 14) dX9_roster_11 (by decide) rfl (fun c11 => absurd c11 h1) (fun c11 => ?_)
  refine g_aload_n (n := 15) dX9_roster_14 rfl rfl ?_
  refine g_iload_n (n := 16) dX9_roster_15 rfl rfl ?_
  refine g_callWi (n := 19) cv_X9_119 (t_X9_isButtress l _ _ _ _) dX9_roster_16 rfl ⟨by decide, by decide, rfl, rfl, Nat.zero_le _, Nat.zero_le _⟩ rfl rfl rfl (Nat.le_of_ble_eq_true rfl) rfl rfl ?_
  refine g_if_ne (tgt := 24) (n := 22) dX9_roster_19 (by decide) rfl (fun c19 => absurd (bI_0.mpr h2) c19) (fun c19 => ?_)
  refine g_iconst (v := (-1)) (n := 23) dX9_roster_22 (by decide) rfl ?_
  exact g_iret (ty := .int) dX9_roster_23 rfl rfl ⟨Nat.zero_le _, Nat.zero_le _⟩ ⟨rfl, rfl⟩
set_option maxRecDepth 20000 in
theorem t_X9_roster_ok (l : Launch) (e : MR) (V : WT) (S : ST) (hV : okV V) (hS : okZ S) (ha : ∀ j, 23 ≤ j → eAs e j = 0) (n : Nat) (hn : 1 ≤ n ∧ n ≤ 5) (h : inB (nI n) (nI 1) (nI 5) = true) (f : Int32) (hf9 : f = (-1) ∨ ∃ g, g < vnf V ∧ f = nI g) (c0 : Nat) (hc0 : c0 ≤ codes S n) (hc1 : c0 < codes S n → isR V S c0 n = true) (hc2 : ∀ i, i < c0 → isR V S i n = false) : Fn l M_X9_roster [.ref 0, .int (nI n), .int f] (mw e (tk V) (pk S)) (some (.int (roA S n c0 f))) (mw (sAs e (pk S)) (tk V) (pk S)) := by
  have hV1 := hV.1
  have hV2 := hV.2.1
  have hV3 := hV.2.2
  refine con_of rfl rfl (Nat.le_of_ble_eq_true rfl) ?_
  refine g_lsN (ls' := [_, _, _, _, _, _]) rfl ?_
  refine g_iload_n (n := 1) dX9_roster_0 rfl rfl ?_
  refine g_iconst (v := nI 1) (n := 2) dX9_roster_1 (by decide) rfl ?_
  refine g_iconst (v := nI 5) (n := 3) dX9_roster_2 (by decide) rfl ?_
  refine g_callSi (n := 6) cs_X9_52 (t_X9_in l _ _ _) dX9_roster_3 rfl rfl ⟨by decide, by decide, rfl, rfl, Nat.zero_le _, Nat.zero_le _⟩ rfl (Nat.le_of_ble_eq_true rfl) rfl ?_
  refine g_if_eq (tgt := 22) (n := 9) dX9_roster_6 (by decide) rfl (fun c6 => absurd c6 (bI_n0.mpr h)) (fun c6 => ?_)
  refine g_iload_n (n := 10) dX9_roster_9 rfl rfl ?_
  refine g_iconst (v := (-1)) (n := 11) dX9_roster_10 (by decide) rfl ?_
  refine g_icmp_eq (tgt := 24) (n := 14) dX9_roster_11 (by decide) rfl (fun c11 => ?_) (fun c11 => ?_)
  ·
    refine g_aload_n (n := 25) dX9_roster_24 rfl rfl ?_
    refine g_callWv (n := 28) cv_X9_146 (t_X9_holds l _ _ _ hS ha) dX9_roster_25 rfl ⟨by decide, by decide, rfl, rfl, Nat.zero_le _, Nat.zero_le _⟩ rfl rfl rfl (Nat.le_of_ble_eq_true rfl) rfl rfl ?_
    refine g_aload_n (n := 29) dX9_roster_28 rfl rfl ?_
    refine g_get (n := 32) fl_X9_22 dX9_roster_29 rfl rfl rfl ?_
    refine g_iconst (v := nI 1) (n := 33) dX9_roster_32 (by decide) rfl ?_
    refine g_ialdN (n := 34) dX9_roster_33 rfl rfl (by decide) (by omega) ?_
    refine g_top (sk_1 _) ?_
    refine g_callSi (n := 37) cs_X9_161 (t_X9_ones l _) dX9_roster_34 rfl rfl ⟨by decide, by decide, rfl, rfl, Nat.zero_le _, Nat.zero_le _⟩ rfl (Nat.le_of_ble_eq_true rfl) rfl ?_
    refine g_top (on_nat _ 8 (by decide)) ?_
    refine g_istore_n (n := 38) dX9_roster_37 (by decide) rfl rfl ?_
    refine g_lsN (ls' := [_, _, _, _, _, _]) rfl ?_
    refine g_iconst (v := nI 1) (n := 39) dX9_roster_38 (by decide) rfl ?_
    refine g_istore (n := 41) dX9_roster_39 (by decide) rfl rfl ?_
    refine g_lsN (ls' := [_, _, _, _, _, _]) rfl ?_
    refine g_iconst (v := nI 0) (n := 42) dX9_roster_41 (by decide) rfl ?_
    refine g_istore (n := 44) dX9_roster_42 (by decide) rfl rfl ?_
    refine g_lsN (ls' := [_, _, _, _, _, _]) rfl ?_
    exact lp1_X9_roster l _ ⟨Nat.zero_le _, Nat.zero_le _⟩ _ e V S hV hS n hn f hf9 c0 hc0 hc1 hc2 ⟨rfl, rfl⟩ 0 (Nat.zero_le _)
  ·
    refine g_aload_n (n := 15) dX9_roster_14 rfl rfl ?_
    refine g_iload_n (n := 16) dX9_roster_15 rfl rfl ?_
    refine g_callWi (n := 19) cv_X9_119 (t_X9_isButtress l _ _ _ _) dX9_roster_16 rfl ⟨by decide, by decide, rfl, rfl, Nat.zero_le _, Nat.zero_le _⟩ rfl rfl rfl (Nat.le_of_ble_eq_true rfl) rfl rfl ?_
    refine g_if_ne (tgt := 24) (n := 22) dX9_roster_19 (by decide) rfl (fun c19 => ?_) (fun c19 => ?_)
    ·
      refine g_aload_n (n := 25) dX9_roster_24 rfl rfl ?_
      refine g_callWv (n := 28) cv_X9_146 (t_X9_holds l _ _ _ hS ha) dX9_roster_25 rfl ⟨by decide, by decide, rfl, rfl, Nat.zero_le _, Nat.zero_le _⟩ rfl rfl rfl (Nat.le_of_ble_eq_true rfl) rfl rfl ?_
      refine g_aload_n (n := 29) dX9_roster_28 rfl rfl ?_
      refine g_get (n := 32) fl_X9_22 dX9_roster_29 rfl rfl rfl ?_
      refine g_iconst (v := nI 1) (n := 33) dX9_roster_32 (by decide) rfl ?_
      refine g_ialdN (n := 34) dX9_roster_33 rfl rfl (by decide) (by omega) ?_
      refine g_top (sk_1 _) ?_
      refine g_callSi (n := 37) cs_X9_161 (t_X9_ones l _) dX9_roster_34 rfl rfl ⟨by decide, by decide, rfl, rfl, Nat.zero_le _, Nat.zero_le _⟩ rfl (Nat.le_of_ble_eq_true rfl) rfl ?_
      refine g_top (on_nat _ 8 (by decide)) ?_
      refine g_istore_n (n := 38) dX9_roster_37 (by decide) rfl rfl ?_
      refine g_lsN (ls' := [_, _, _, _, _, _]) rfl ?_
      refine g_iconst (v := nI 1) (n := 39) dX9_roster_38 (by decide) rfl ?_
      refine g_istore (n := 41) dX9_roster_39 (by decide) rfl rfl ?_
      refine g_lsN (ls' := [_, _, _, _, _, _]) rfl ?_
      refine g_iconst (v := nI 0) (n := 42) dX9_roster_41 (by decide) rfl ?_
      refine g_istore (n := 44) dX9_roster_42 (by decide) rfl rfl ?_
      refine g_lsN (ls' := [_, _, _, _, _, _]) rfl ?_
      exact lp1_X9_roster l _ ⟨Nat.zero_le _, Nat.zero_le _⟩ _ e V S hV hS n hn f hf9 c0 hc0 hc1 hc2 ⟨rfl, rfl⟩ 0 (Nat.zero_le _)
    ·
      exfalso
      rcases hf9 with q | ⟨g, hg1, hg2⟩
      · exact c11 q
      · have := bI_0.mp c19
        rw [hg2, isB_nI (by omega) (by omega)] at this
        exact absurd hg1 (of_decide_eq_false this)

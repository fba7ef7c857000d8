/-! 18.mnight: the reference's knees, nights -/
/-- while one is up, at most n hours -/
def knR (V : WT) (f : Nat) : Nat → ST → Nat × ST
  | 0, S => (0, S)
  | n + 1, S => if hb (sup S) (nI f) then ((knR V f n (psF V S)).1 + 1, (knR V f n (psF V S)).2) else (0, S)
theorem okZ_kn {V : WT} (hV : okV V) (f : Nat) : ∀ (n : Nat) (S : ST), okZ S → okZ (knR V f n S).2
  | 0, S, h => h
  | n + 1, S, h => by
    rw [knR]
    by_cases q : hb (sup S) (nI f) = true
    · rw [if_pos q]; exact okZ_kn hV f n _ (okZ_ps hV h)
    · rw [if_neg q]; exact h
theorem knR_le (V : WT) (f : Nat) : ∀ (n : Nat) (S : ST), (knR V f n S).1 ≤ n
  | 0, S => Nat.le_refl _
  | n + 1, S => by
    rw [knR]
    by_cases q : hb (sup S) (nI f) = true
    · rw [if_pos q]; exact Nat.succ_le_succ (knR_le V f n _)
    · rw [if_neg q]; exact Nat.zero_le _
/-- whether one whose knees bear v comes down first behind n hours, and its bay stands -/
def knC (V : WT) (S : ST) (f n v : Nat) : Bool := decide ((knR (vKn V f (nI v)) f n S).1 = n) && !hb (sup (knR (vKn V f (nI v)) f n S).2) (nI f) && !hb (sfa (knR (vKn V f (nI v)) f n S).2) (sbo (knR (vKn V f (nI v)) f n S).2 f)
def knN (V : WT) (S : ST) (f n : Nat) : Nat → Int32
  | 0 => nI 0
  | v + 1 => knN V S f n v ||| (if knC V S f n (v + 1) then nI 1 <<< (nI (v + 1) &&& 31) else nI 0)

set_option maxRecDepth 20000 in
set_option maxHeartbeats 1000000 in
theorem lp_X9_knees (l : Launch) (z : Nat × Nat × Nat) (hz : z.2.1 ≤ 0 ∧ z.2.2 ≤ 0) (Q : Option Value → List va_E → Prop) (e : MR) (V : WT) (S : ST) (hV : okV V) (hS : okZ S) (f : Nat) (hf : f < vnf V) (n : Nat) (hn : n ≤ 40) (hQ : Q (some (.int (knN V S f n 30))) (mw (sAs e (pk S)) (tk V) (pk S))) : ∀ v, v ≤ 30 → ∀ (y : Int32) (o6 : Option Value), G l M_X9_knees z Q 56 [some (.ref 0), some (.int (nI f)), some (.int (nI n)), some (.int (vkn V f)), some (.int (knN V S f n v)), some (.int (nI (v + 1))), o6] [] (mw (sAs e (pk S)) (tk (vKn V f y)) (pk S)) := by
  have hV1 := hV.1
  have hV2 := hV.2.1
  have hV3 := hV.2.2
  refine loopN 30 ?_ (fun v hv ih => ?_)
  ·
    intro y o6
    refine g_iload (n := 58) dX9_knees_56 rfl rfl ?_
    refine g_bipush (v := nI 31) (n := 60) dX9_knees_58 (by decide) rfl ?_
    refine g_icmp_ge (tgt := 164) (n := 63) dX9_knees_60 (by decide) rfl (fun c60 => ?_) (fun c60 => absurd (nI_le (Nat.le_refl _) (by decide)) c60)
    refine g_aload_n (n := 165) dX9_knees_164 rfl rfl ?_
    refine g_get (n := 168) fl_X9_13 dX9_knees_165 rfl rfl rfl ?_
    refine g_bipush (v := nI 32) (n := 170) dX9_knees_168 (by decide) rfl ?_
    refine g_iload_n (n := 171) dX9_knees_170 rfl rfl ?_
    refine g_iaddN (n := 172) dX9_knees_171 rfl ?_
    refine g_iload_n (n := 173) dX9_knees_172 rfl rfl ?_
    refine g_iastN (n := 174) dX9_knees_173 rfl rfl (by decide) (by omega) ?_
    refine g_wN (w' := [_, _, _, _, _, _, _, _, _]) rfl ?_
    rw [tk_ukn _ (by omega), vKn_vKn, vKn_self]
    refine g_iload (n := 176) dX9_knees_174 rfl rfl ?_
    exact g_iret (ty := .int) dX9_knees_176 rfl rfl hz hQ
  ·
    intro y o6
    have J106 : ∀ (k : Nat) (S2 : ST), (k, S2) = (knR (vKn V f (nI (v + 1))) f n S) → G l M_X9_knees z Q 106 [some (.ref 0), some (.int (nI f)), some (.int (nI n)), some (.int (vkn V f)), some (.int (knN V S f n v)), some (.int (nI (v + 1))), some (.int (nI k))] [] (mw (sAs e (pk S)) (tk (vKn V f (nI (v + 1)))) (pk S2)) := by
      intro k S2 hk
      have hz2 : okZ S2 := by
        have q := okZ_kn (show okV (vKn V f (nI (v + 1))) from hV) f n S hS
        rw [← hk] at q
        exact q
      have hle : k ≤ n := by
        have q := knR_le (vKn V f (nI (v + 1))) f n S
        rw [← hk] at q
        exact q
      have hC : knC V S f n (v + 1) = (decide (k = n) && !hb (sup S2) (nI f) && !hb (sfa S2) (sbo S2 f)) := by unfold knC; rw [← hk]
      refine g_iload (n := 108) dX9_knees_106 rfl rfl ?_
      refine g_iload (n := 110) dX9_knees_108 rfl rfl ?_
      refine g_iload_n (n := 111) dX9_knees_110 rfl rfl ?_
      refine g_icmp_ne (tgt := 150) (n := 114) dX9_knees_111 (by decide) rfl (fun c111 => ?_) (fun c111 => ?_)
      ·
        have e1 : knN V S f n (v + 1) = knN V S f n v ||| nI 0 := by rw [knN, hC, decide_eq_false (fun q => c111 (by rw [q]))]; rfl
        rw [e1] at ih
        refine g_iconst (v := nI 0) (n := 151) dX9_knees_150 (by decide) rfl ?_
        refine g_ior (n := 152) dX9_knees_151 rfl ?_
        refine g_istore (n := 154) dX9_knees_152 (by decide) rfl rfl ?_
        refine g_lsN (ls' := [_, _, _, _, _, _, _]) rfl ?_
        refine g_aload_n (n := 155) dX9_knees_154 rfl rfl ?_
        refine g_callWv (n := 158) cv_X9_152 (t_X9_lets l (sAs e (pk S)) _ _ S hz2 hS rfl) dX9_knees_155 rfl ⟨by decide, by decide, rfl, rfl, hz.1, hz.2⟩ rfl rfl rfl (Nat.le_of_ble_eq_true rfl) rfl rfl ?_
        refine g_iincN (k := 1) (n := 161) dX9_knees_158 rfl (by decide) rfl rfl ?_
        refine g_lsN (ls' := [_, _, _, _, _, _, _]) rfl ?_
        refine g_goto (tgt := 56) dX9_knees_161 (by decide) ?_
        exact ih _ _
      ·
        have a1 : k = n := (nI_eq (by omega) (by omega)).mp c111
        refine g_aload_n (n := 115) dX9_knees_114 rfl rfl ?_
        refine g_get (n := 118) fl_X9_22 dX9_knees_115 rfl rfl rfl ?_
        refine g_iconst (v := nI 1) (n := 119) dX9_knees_118 (by decide) rfl ?_
        refine g_ialdN (n := 120) dX9_knees_119 rfl rfl (by decide) (by omega) ?_
        refine g_top (sk_1 _) ?_
        refine g_iload_n (n := 121) dX9_knees_120 rfl rfl ?_
        refine g_callSi (n := 124) cs_X9_94 (t_X9_has l _ _) dX9_knees_121 rfl rfl ⟨by decide, by decide, rfl, rfl, hz.1, hz.2⟩ rfl (Nat.le_of_ble_eq_true rfl) rfl ?_
        refine g_if_ne (tgt := 150) (n := 127) dX9_knees_124 (by decide) rfl (fun c124 => ?_) (fun c124 => ?_)
        ·
          have e1 : knN V S f n (v + 1) = knN V S f n v ||| nI 0 := by rw [knN, hC, bI_n0.mp c124, Bool.not_true, Bool.and_false, Bool.false_and]; rfl
          rw [e1] at ih
          refine g_iconst (v := nI 0) (n := 151) dX9_knees_150 (by decide) rfl ?_
          refine g_ior (n := 152) dX9_knees_151 rfl ?_
          refine g_istore (n := 154) dX9_knees_152 (by decide) rfl rfl ?_
          refine g_lsN (ls' := [_, _, _, _, _, _, _]) rfl ?_
          refine g_aload_n (n := 155) dX9_knees_154 rfl rfl ?_
          refine g_callWv (n := 158) cv_X9_152 (t_X9_lets l (sAs e (pk S)) _ _ S hz2 hS rfl) dX9_knees_155 rfl ⟨by decide, by decide, rfl, rfl, hz.1, hz.2⟩ rfl rfl rfl (Nat.le_of_ble_eq_true rfl) rfl rfl ?_
          refine g_iincN (k := 1) (n := 161) dX9_knees_158 rfl (by decide) rfl rfl ?_
          refine g_lsN (ls' := [_, _, _, _, _, _, _]) rfl ?_
          refine g_goto (tgt := 56) dX9_knees_161 (by decide) ?_
          exact ih _ _
        ·
          have a2 := bI_0.mp c124
          refine g_aload_n (n := 128) dX9_knees_127 rfl rfl ?_
          refine g_aload_n (n := 129) dX9_knees_128 rfl rfl ?_
          refine g_get (n := 132) fl_X9_22 dX9_knees_129 rfl rfl rfl ?_
          refine g_bipush (v := nI 9) (n := 134) dX9_knees_132 (by decide) rfl ?_
          refine g_iload_n (n := 135) dX9_knees_134 rfl rfl ?_
          refine g_iaddN (n := 136) dX9_knees_135 rfl ?_
          refine g_ialdN (n := 137) dX9_knees_136 rfl rfl (by decide) (by omega) ?_
          refine g_top (sk_bo _ (by omega)) ?_
          refine g_callWi (n := 140) cv_X9_98 (t_X9_hasFallen l (sAs e (pk S)) _ _ _) dX9_knees_137 rfl ⟨by decide, by decide, rfl, rfl, hz.1, hz.2⟩ rfl rfl rfl (Nat.le_of_ble_eq_true rfl) rfl rfl ?_
          refine g_if_ne (tgt := 150) (n := 143) dX9_knees_140 (by decide) rfl (fun c140 => ?_) (fun c140 => ?_)
          ·
            have e1 : knN V S f n (v + 1) = knN V S f n v ||| nI 0 := by rw [knN, hC, bI_n0.mp c140, Bool.not_true, Bool.and_false]; rfl
            rw [e1] at ih
            refine g_iconst (v := nI 0) (n := 151) dX9_knees_150 (by decide) rfl ?_
            refine g_ior (n := 152) dX9_knees_151 rfl ?_
            refine g_istore (n := 154) dX9_knees_152 (by decide) rfl rfl ?_
            refine g_lsN (ls' := [_, _, _, _, _, _, _]) rfl ?_
            refine g_aload_n (n := 155) dX9_knees_154 rfl rfl ?_
            refine g_callWv (n := 158) cv_X9_152 (t_X9_lets l (sAs e (pk S)) _ _ S hz2 hS rfl) dX9_knees_155 rfl ⟨by decide, by decide, rfl, rfl, hz.1, hz.2⟩ rfl rfl rfl (Nat.le_of_ble_eq_true rfl) rfl rfl ?_
            refine g_iincN (k := 1) (n := 161) dX9_knees_158 rfl (by decide) rfl rfl ?_
            refine g_lsN (ls' := [_, _, _, _, _, _, _]) rfl ?_
            refine g_goto (tgt := 56) dX9_knees_161 (by decide) ?_
            exact ih _ _
          ·
            have e1 : knN V S f n (v + 1) = knN V S f n v ||| nI 1 <<< (nI (v + 1) &&& 31) := by rw [knN, hC, decide_eq_true a1, a2, bI_0.mp c140]; rfl
            rw [e1] at ih
            refine g_iconst (v := nI 1) (n := 144) dX9_knees_143 (by decide) rfl ?_
            refine g_iload (n := 146) dX9_knees_144 rfl rfl ?_
            refine g_ishl (n := 147) dX9_knees_146 rfl ?_
            refine g_goto (tgt := 151) dX9_knees_147 (by decide) ?_
            refine g_ior (n := 152) dX9_knees_151 rfl ?_
            refine g_istore (n := 154) dX9_knees_152 (by decide) rfl rfl ?_
            refine g_lsN (ls' := [_, _, _, _, _, _, _]) rfl ?_
            refine g_aload_n (n := 155) dX9_knees_154 rfl rfl ?_
            refine g_callWv (n := 158) cv_X9_152 (t_X9_lets l (sAs e (pk S)) _ _ S hz2 hS rfl) dX9_knees_155 rfl ⟨by decide, by decide, rfl, rfl, hz.1, hz.2⟩ rfl rfl rfl (Nat.le_of_ble_eq_true rfl) rfl rfl ?_
            refine g_iincN (k := 1) (n := 161) dX9_knees_158 rfl (by decide) rfl rfl ?_
            refine g_lsN (ls' := [_, _, _, _, _, _, _]) rfl ?_
            refine g_goto (tgt := 56) dX9_knees_161 (by decide) ?_
            exact ih _ _
    have J77 : ∀ (i k : Nat) (S2 : ST), k + i = n → (k + (knR (vKn V f (nI (v + 1))) f i S2).1, (knR (vKn V f (nI (v + 1))) f i S2).2) = (knR (vKn V f (nI (v + 1))) f n S) → G l M_X9_knees z Q 77 [some (.ref 0), some (.int (nI f)), some (.int (nI n)), some (.int (vkn V f)), some (.int (knN V S f n v)), some (.int (nI (v + 1))), some (.int (nI k))] [] (mw (sAs e (pk S)) (tk (vKn V f (nI (v + 1)))) (pk S2)) := by
      intro i
      induction i with
      | zero =>
        intro k S2 hk hr
        have hk2 : k = n := by omega
        refine g_iload (n := 79) dX9_knees_77 rfl rfl ?_
        refine g_iload_n (n := 80) dX9_knees_79 rfl rfl ?_
        refine g_icmp_ge (tgt := 106) (n := 83) dX9_knees_80 (by decide) rfl (fun c80 => ?_) (fun c80 => absurd (nI_le (by omega) (by omega)) c80)
        exact J106 k S2 hr
      | succ i ih2 =>
        intro k S2 hk hr
        refine g_iload (n := 79) dX9_knees_77 rfl rfl ?_
        refine g_iload_n (n := 80) dX9_knees_79 rfl rfl ?_
        refine g_icmp_ge (tgt := 106) (n := 83) dX9_knees_80 (by decide) rfl (fun c80 => absurd c80 (nI_ge (by omega) (by omega))) (fun c80 => ?_)
        refine g_aload_n (n := 84) dX9_knees_83 rfl rfl ?_
        refine g_get (n := 87) fl_X9_22 dX9_knees_84 rfl rfl rfl ?_
        refine g_iconst (v := nI 1) (n := 88) dX9_knees_87 (by decide) rfl ?_
        refine g_ialdN (n := 89) dX9_knees_88 rfl rfl (by decide) (by omega) ?_
        refine g_top (sk_1 _) ?_
        refine g_iload_n (n := 90) dX9_knees_89 rfl rfl ?_
        refine g_callSi (n := 93) cs_X9_94 (t_X9_has l _ _) dX9_knees_90 rfl rfl ⟨by decide, by decide, rfl, rfl, hz.1, hz.2⟩ rfl (Nat.le_of_ble_eq_true rfl) rfl ?_
        refine g_if_eq (tgt := 106) (n := 96) dX9_knees_93 (by decide) rfl (fun c93 => ?_) (fun c93 => ?_)
        ·
          have e1 : knR (vKn V f (nI (v + 1))) f (i + 1) S2 = (0, S2) := by rw [knR, bI_0.mp c93]; rfl
          rw [e1] at hr
          exact J106 k S2 hr
        ·
          have e1 : knR (vKn V f (nI (v + 1))) f (i + 1) S2 = ((knR (vKn V f (nI (v + 1))) f i (psF (vKn V f (nI (v + 1))) S2)).1 + 1, (knR (vKn V f (nI (v + 1))) f i (psF (vKn V f (nI (v + 1))) S2)).2) := by rw [knR, bI_n0.mp c93]; rfl
          rw [e1] at hr
          have hr : (k + 1 + (knR (vKn V f (nI (v + 1))) f i (psF (vKn V f (nI (v + 1))) S2)).1, (knR (vKn V f (nI (v + 1))) f i (psF (vKn V f (nI (v + 1))) S2)).2) = (knR (vKn V f (nI (v + 1))) f n S) := by rw [← hr]; exact Prod.ext (by show _ = _ + (_ + 1); omega) rfl
          refine g_aload_n (n := 97) dX9_knees_96 rfl rfl ?_
          refine g_callWv (n := 100) cv_X9_134 (t_X9_passes l (sAs e (pk S)) (vKn V f (nI (v + 1))) _ hV) dX9_knees_97 rfl ⟨by decide, by decide, rfl, rfl, hz.1, hz.2⟩ rfl rfl rfl (Nat.le_of_ble_eq_true rfl) rfl rfl ?_
          refine g_iincN (k := 1) (n := 103) dX9_knees_100 rfl (by decide) rfl rfl ?_
          refine g_lsN (ls' := [_, _, _, _, _, _, _]) rfl ?_
          refine g_goto (tgt := 77) dX9_knees_103 (by decide) ?_
          exact ih2 (k + 1) (psF (vKn V f (nI (v + 1))) S2) (by omega) hr
    refine g_iload (n := 58) dX9_knees_56 rfl rfl ?_
    refine g_bipush (v := nI 31) (n := 60) dX9_knees_58 (by decide) rfl ?_
    refine g_icmp_ge (tgt := 164) (n := 63) dX9_knees_60 (by decide) rfl (fun c60 => absurd c60 (nI_ge (by omega) (by decide))) (fun c60 => ?_)
    refine g_aload_n (n := 64) dX9_knees_63 rfl rfl ?_
    refine g_get (n := 67) fl_X9_13 dX9_knees_64 rfl rfl rfl ?_
    refine g_bipush (v := nI 32) (n := 69) dX9_knees_67 (by decide) rfl ?_
    refine g_iload_n (n := 70) dX9_knees_69 rfl rfl ?_
    refine g_iaddN (n := 71) dX9_knees_70 rfl ?_
    refine g_iload (n := 73) dX9_knees_71 rfl rfl ?_
    refine g_iastN (n := 74) dX9_knees_73 rfl rfl (by decide) (by omega) ?_
    refine g_wN (w' := [_, _, _, _, _, _, _, _, _]) rfl ?_
    rw [tk_ukn _ (by omega), vKn_vKn]
    refine g_iconst (v := nI 0) (n := 75) dX9_knees_74 (by decide) rfl ?_
    refine g_istore (n := 77) dX9_knees_75 (by decide) rfl rfl ?_
    refine g_lsN (ls' := [_, _, _, _, _, _, _]) rfl ?_
    exact J77 n 0 S (by omega) (by rw [Nat.zero_add])
set_option maxRecDepth 20000 in
theorem t_X9_knees_bad1 (l : Launch) (e : MR) (V : WT) (S : ST) (hV : okV V) (x y : Int32) (h : isB (vnf V) x = false) : Fn l M_X9_knees [.ref 0, .int x, .int y] (mw e (tk V) (pk S)) (some (.int (-1))) (mw e (tk V) (pk S)) := by
  have hV1 := hV.1
  have hV2 := hV.2.1
  have hV3 := hV.2.2
  refine con_of rfl rfl (Nat.le_of_ble_eq_true rfl) ?_
  refine g_lsN (ls' := [_, _, _, _, _, _, _]) rfl ?_
  refine g_aload_n (n := 1) dX9_knees_0 rfl rfl ?_
  refine g_iload_n (n := 2) dX9_knees_1 rfl rfl ?_
  refine g_callWi (n := 5) cv_X9_119 (t_X9_isButtress l _ _ _ _) dX9_knees_2 rfl ⟨by decide, by decide, rfl, rfl, Nat.zero_le _, Nat.zero_le _⟩ rfl rfl rfl (Nat.le_of_ble_eq_true rfl) rfl rfl ?_
  refine g_if_eq (tgt := 18) (n := 8) dX9_knees_5 (by decide) rfl (fun c5 => ?_) (fun c5 => absurd (bI_0.mpr h) c5)
  refine g_iconst (v := (-1)) (n := 19) dX9_knees_18 (by decide) rfl ?_
  exact g_iret (ty := .int) dX9_knees_19 rfl rfl ⟨Nat.zero_le _, Nat.zero_le _⟩ ⟨rfl, rfl⟩
set_option maxRecDepth 20000 in
theorem t_X9_knees_bad2 (l : Launch) (e : MR) (V : WT) (S : ST) (hV : okV V) (x y : Int32) (h : isB (vnf V) x = true) (h2 : inB y (nI 1) (nI 40) = false) : Fn l M_X9_knees [.ref 0, .int x, .int y] (mw e (tk V) (pk S)) (some (.int (-1))) (mw e (tk V) (pk S)) := by
  have hV1 := hV.1
  have hV2 := hV.2.1
  have hV3 := hV.2.2
  refine con_of rfl rfl (Nat.le_of_ble_eq_true rfl) ?_
  refine g_lsN (ls' := [_, _, _, _, _, _, _]) rfl ?_
  refine g_aload_n (n := 1) dX9_knees_0 rfl rfl ?_
  refine g_iload_n (n := 2) dX9_knees_1 rfl rfl ?_
  refine g_callWi (n := 5) cv_X9_119 (t_X9_isButtress l _ _ _ _) dX9_knees_2 rfl ⟨by decide, by decide, rfl, rfl, Nat.zero_le _, Nat.zero_le _⟩ rfl rfl rfl (Nat.le_of_ble_eq_true rfl) rfl rfl ?_
  refine g_if_eq (tgt := 18) (n := 8) dX9_knees_5 (by decide) rfl (fun c5 => absurd c5 (bI_n0.mpr h)) (fun c5 => ?_)
  refine g_iload_n (n := 9) dX9_knees_8 rfl rfl ?_
  refine g_iconst (v := nI 1) (n := 10) dX9_knees_9 (by decide) rfl ?_
  refine g_bipush (v := nI 40) (n := 12) dX9_knees_10 (by decide) rfl ?_
  refine g_callSi (n := 15) cs_X9_52 (t_X9_in l _ _ _) dX9_knees_12 rfl rfl ⟨by decide, by decide, rfl, rfl, Nat.zero_le _, Nat.zero_le _⟩ rfl (Nat.le_of_ble_eq_true rfl) rfl ?_
  refine g_if_ne (tgt := 20) (n := 18) dX9_knees_15 (by decide) rfl (fun c15 => absurd (bI_0.mpr h2) c15) (fun c15 => ?_)
  refine g_iconst (v := (-1)) (n := 19) dX9_knees_18 (by decide) rfl ?_
  exact g_iret (ty := .int) dX9_knees_19 rfl rfl ⟨Nat.zero_le _, Nat.zero_le _⟩ ⟨rfl, rfl⟩
set_option maxRecDepth 20000 in
theorem t_X9_knees_no (l : Launch) (e : MR) (V : WT) (S : ST) (hV : okV V) (f : Nat) (hf : f < vnf V) (y : Int32) (h2 : inB y (nI 1) (nI 40) = true) (h : hb (sup S) (nI f) = false) : Fn l M_X9_knees [.ref 0, .int (nI f), .int y] (mw e (tk V) (pk S)) (some (.int (-2))) (mw e (tk V) (pk S)) := by
  have hV1 := hV.1
  have hV2 := hV.2.1
  have hV3 := hV.2.2
  refine con_of rfl rfl (Nat.le_of_ble_eq_true rfl) ?_
  refine g_lsN (ls' := [_, _, _, _, _, _, _]) rfl ?_
  refine g_aload_n (n := 1) dX9_knees_0 rfl rfl ?_
  refine g_iload_n (n := 2) dX9_knees_1 rfl rfl ?_
  refine g_callWi (n := 5) cv_X9_119 (t_X9_isButtress l _ _ _ _) dX9_knees_2 rfl ⟨by decide, by decide, rfl, rfl, Nat.zero_le _, Nat.zero_le _⟩ rfl rfl rfl (Nat.le_of_ble_eq_true rfl) rfl rfl ?_
  refine g_if_eq (tgt := 18) (n := 8) dX9_knees_5 (by decide) rfl (fun c5 => absurd c5 (bI_n0.mpr (show isB (vnf V) (nI f) = true by rw [isB_nI (by omega) (by omega)]; exact decide_eq_true hf))) (fun c5 => ?_)
  refine g_iload_n (n := 9) dX9_knees_8 rfl rfl ?_
  refine g_iconst (v := nI 1) (n := 10) dX9_knees_9 (by decide) rfl ?_
  refine g_bipush (v := nI 40) (n := 12) dX9_knees_10 (by decide) rfl ?_
  refine g_callSi (n := 15) cs_X9_52 (t_X9_in l _ _ _) dX9_knees_12 rfl rfl ⟨by decide, by decide, rfl, rfl, Nat.zero_le _, Nat.zero_le _⟩ rfl (Nat.le_of_ble_eq_true rfl) rfl ?_
  refine g_if_ne (tgt := 20) (n := 18) dX9_knees_15 (by decide) rfl (fun c15 => ?_) (fun c15 => absurd c15 (bI_n0.mpr h2))
  refine g_aload_n (n := 21) dX9_knees_20 rfl rfl ?_
  refine g_get (n := 24) fl_X9_22 dX9_knees_21 rfl rfl rfl ?_
  refine g_iconst (v := nI 1) (n := 25) dX9_knees_24 (by decide) rfl ?_
  refine g_ialdN (n := 26) dX9_knees_25 rfl rfl (by decide) (by omega) ?_
  refine g_top (sk_1 _) ?_
  refine g_iload_n (n := 27) dX9_knees_26 rfl rfl ?_
  refine g_callSi (n := 30) cs_X9_94 (t_X9_has l _ _) dX9_knees_27 rfl rfl ⟨by decide, by decide, rfl, rfl, Nat.zero_le _, Nat.zero_le _⟩ rfl (Nat.le_of_ble_eq_true rfl) rfl ?_
  refine g_if_ne (tgt := 36) (n := 33) dX9_knees_30 (by decide) rfl (fun c30 => absurd (bI_0.mpr h) c30) (fun c30 => ?_)
  refine g_bipush (v := (-2)) (n := 35) dX9_knees_33 (by decide) rfl ?_
  exact g_iret (ty := .int) dX9_knees_35 rfl rfl ⟨Nat.zero_le _, Nat.zero_le _⟩ ⟨rfl, rfl⟩
set_option maxRecDepth 20000 in
theorem t_X9_knees_ok (l : Launch) (e : MR) (V : WT) (S : ST) (hV : okV V) (hS : okZ S) (ha : ∀ j, 23 ≤ j → eAs e j = 0) (f : Nat) (hf : f < vnf V) (n : Nat) (hn : n ≤ 40) (h2 : inB (nI n) (nI 1) (nI 40) = true) (h : hb (sup S) (nI f) = true) : Fn l M_X9_knees [.ref 0, .int (nI f), .int (nI n)] (mw e (tk V) (pk S)) (some (.int (knN V S f n 30))) (mw (sAs e (pk S)) (tk V) (pk S)) := by
  have hV1 := hV.1
  have hV2 := hV.2.1
  have hV3 := hV.2.2
  refine con_of rfl rfl (Nat.le_of_ble_eq_true rfl) ?_
  refine g_lsN (ls' := [_, _, _, _, _, _, _]) rfl ?_
  refine g_aload_n (n := 1) dX9_knees_0 rfl rfl ?_
  refine g_iload_n (n := 2) dX9_knees_1 rfl rfl ?_
  refine g_callWi (n := 5) cv_X9_119 (t_X9_isButtress l _ _ _ _) dX9_knees_2 rfl ⟨by decide, by decide, rfl, rfl, Nat.zero_le _, Nat.zero_le _⟩ rfl rfl rfl (Nat.le_of_ble_eq_true rfl) rfl rfl ?_
  refine g_if_eq (tgt := 18) (n := 8) dX9_knees_5 (by decide) rfl (fun c5 => absurd c5 (bI_n0.mpr (show isB (vnf V) (nI f) = true by rw [isB_nI (by omega) (by omega)]; exact decide_eq_true hf))) (fun c5 => ?_)
  refine g_iload_n (n := 9) dX9_knees_8 rfl rfl ?_
  refine g_iconst (v := nI 1) (n := 10) dX9_knees_9 (by decide) rfl ?_
  refine g_bipush (v := nI 40) (n := 12) dX9_knees_10 (by decide) rfl ?_
  refine g_callSi (n := 15) cs_X9_52 (t_X9_in l _ _ _) dX9_knees_12 rfl rfl ⟨by decide, by decide, rfl, rfl, Nat.zero_le _, Nat.zero_le _⟩ rfl (Nat.le_of_ble_eq_true rfl) rfl ?_
  refine g_if_ne (tgt := 20) (n := 18) dX9_knees_15 (by decide) rfl (fun c15 => ?_) (fun c15 => absurd c15 (bI_n0.mpr h2))
  refine g_aload_n (n := 21) dX9_knees_20 rfl rfl ?_
  refine g_get (n := 24) fl_X9_22 dX9_knees_21 rfl rfl rfl ?_
  refine g_iconst (v := nI 1) (n := 25) dX9_knees_24 (by decide) rfl ?_
  refine g_ialdN (n := 26) dX9_knees_25 rfl rfl (by decide) (by omega) ?_
  refine g_top (sk_1 _) ?_
  refine g_iload_n (n := 27) dX9_knees_26 rfl rfl ?_
  refine g_callSi (n := 30) cs_X9_94 (t_X9_has l _ _) dX9_knees_27 rfl rfl ⟨by decide, by decide, rfl, rfl, Nat.zero_le _, Nat.zero_le _⟩ rfl (Nat.le_of_ble_eq_true rfl) rfl ?_
  refine g_if_ne (tgt := 36) (n := 33) dX9_knees_30 (by decide) rfl (fun c30 => ?_) (fun c30 => absurd c30 (bI_n0.mpr h))
  refine g_aload_n (n := 37) dX9_knees_36 rfl rfl ?_
  refine g_callWv (n := 40) cv_X9_146 (t_X9_holds l _ _ _ hS ha) dX9_knees_37 rfl ⟨by decide, by decide, rfl, rfl, Nat.zero_le _, Nat.zero_le _⟩ rfl rfl rfl (Nat.le_of_ble_eq_true rfl) rfl rfl ?_
  refine g_aload_n (n := 41) dX9_knees_40 rfl rfl ?_
  refine g_get (n := 44) fl_X9_13 dX9_knees_41 rfl rfl rfl ?_
  refine g_bipush (v := nI 32) (n := 46) dX9_knees_44 (by decide) rfl ?_
  refine g_iload_n (n := 47) dX9_knees_46 rfl rfl ?_
  refine g_iaddN (n := 48) dX9_knees_47 rfl ?_
  refine g_ialdN (n := 49) dX9_knees_48 rfl rfl (by decide) (by omega) ?_
  refine g_top (tk_kn _ (by omega)) ?_
  refine g_istore_n (n := 50) dX9_knees_49 (by decide) rfl rfl ?_
  refine g_lsN (ls' := [_, _, _, _, _, _, _]) rfl ?_
  refine g_iconst (v := nI 0) (n := 51) dX9_knees_50 (by decide) rfl ?_
  refine g_istore (n := 53) dX9_knees_51 (by decide) rfl rfl ?_
  refine g_lsN (ls' := [_, _, _, _, _, _, _]) rfl ?_
  refine g_iconst (v := nI 1) (n := 54) dX9_knees_53 (by decide) rfl ?_
  refine g_istore (n := 56) dX9_knees_54 (by decide) rfl rfl ?_
  refine g_lsN (ls' := [_, _, _, _, _, _, _]) rfl ?_
  refine g_wN (w' := mw (sAs e (pk S)) (tk (vKn V f (vkn V f))) (pk S)) (by rw [vKn_self]) ?_
  exact lp_X9_knees l _ ⟨Nat.zero_le _, Nat.zero_le _⟩ _ e V S hV hS f hf n hn ⟨rfl, rfl⟩ 0 (Nat.zero_le _) _ _
def riS (S : ST) (f : Nat) : ST := sUp S (sup S ||| (if hb (sfa S) (sbo S f) then nI 0 else nI 1 <<< (nI f &&& 31)))
set_option maxRecDepth 20000 in
theorem t_X9_rises (l : Launch) (e : MR) (V : WT) (S : ST) (hV : okV V) (f : Nat) (hf : f < vnf V) : Fn l M_X9_rises [.ref 0, .int (nI f)] (mw e (tk V) (pk S)) none (mw e (tk V) (pk (riS S f))) := by
  have hV1 := hV.1
  have hV2 := hV.2.1
  have hV3 := hV.2.2
  refine con_of rfl rfl (Nat.le_of_ble_eq_true rfl) ?_
  refine g_lsN (ls' := [_, _]) rfl ?_
  refine g_aload_n (n := 1) dX9_rises_0 rfl rfl ?_
  refine g_get (n := 4) fl_X9_22 dX9_rises_1 rfl rfl rfl ?_
  refine g_iconst (v := nI 1) (n := 5) dX9_rises_4 (by decide) rfl ?_
  refine g_dup2 (n := 6) dX9_rises_5 rfl rfl rfl ?_
  refine g_ialdN (n := 7) dX9_rises_6 rfl rfl (by decide) (by omega) ?_
  refine g_top (sk_1 _) ?_
  refine g_aload_n (n := 8) dX9_rises_7 rfl rfl ?_
  refine g_aload_n (n := 9) dX9_rises_8 rfl rfl ?_
  refine g_get (n := 12) fl_X9_22 dX9_rises_9 rfl rfl rfl ?_
  refine g_bipush (v := nI 9) (n := 14) dX9_rises_12 (by decide) rfl ?_
  refine g_iload_n (n := 15) dX9_rises_14 rfl rfl ?_
  refine g_iaddN (n := 16) dX9_rises_15 rfl ?_
  refine g_ialdN (n := 17) dX9_rises_16 rfl rfl (by decide) (by omega) ?_
  refine g_top (sk_bo _ (by omega)) ?_
  refine g_callWi (n := 20) cv_X9_98 (t_X9_hasFallen l _ _ _ _) dX9_rises_17 rfl ⟨by decide, by decide, rfl, rfl, Nat.zero_le _, Nat.zero_le _⟩ rfl rfl rfl (Nat.le_of_ble_eq_true rfl) rfl rfl ?_
  refine g_if_eq (tgt := 27) (n := 23) dX9_rises_20 (by decide) rfl (fun c20 => ?_) (fun c20 => ?_)
  ·
    have e9 : riS S f = sUp S (sup S ||| nI 1 <<< (nI f &&& 31)) := by unfold riS; rw [bI_0.mp c20]; rfl
    refine g_iconst (v := nI 1) (n := 28) dX9_rises_27 (by decide) rfl ?_
    refine g_iload_n (n := 29) dX9_rises_28 rfl rfl ?_
    refine g_ishl (n := 30) dX9_rises_29 rfl ?_
    refine g_ior (n := 31) dX9_rises_30 rfl ?_
    refine g_iastN (n := 32) dX9_rises_31 rfl rfl (by decide) (by omega) ?_
    refine g_wN (w' := [_, _, _, _, _, _, _, _, _]) rfl ?_
    rw [sk_up]
    exact g_vret dX9_rises_32 rfl ⟨Nat.zero_le _, Nat.zero_le _⟩ ⟨rfl, by rw [e9]⟩
  ·
    have e9 : riS S f = sUp S (sup S ||| nI 0) := by unfold riS; rw [bI_n0.mp c20]; rfl
    refine g_iconst (v := nI 0) (n := 24) dX9_rises_23 (by decide) rfl ?_
    refine g_goto (tgt := 30) dX9_rises_24 (by decide) ?_
    refine g_ior (n := 31) dX9_rises_30 rfl ?_
    refine g_iastN (n := 32) dX9_rises_31 rfl rfl (by decide) (by omega) ?_
    refine g_wN (w' := [_, _, _, _, _, _, _, _, _]) rfl ?_
    rw [sk_up]
    exact g_vret dX9_rises_32 rfl ⟨Nat.zero_le _, Nat.zero_le _⟩ ⟨rfl, by rw [e9]⟩
def tuF (V : WT) (S : ST) (d : Nat) : ST :=
  if decide (d % 8 = 0) && mdF V S (d / 8 % vnf V) then sUp S (sup S &&& ((nI 1 <<< (nI (d / 8 % vnf V) &&& 31)) ^^^ (-1)))
  else if inB (nI (d % 8)) (nI 1) (nI 2) && muF V S (d / 8 % vnf V) then sUp S (sup S ||| nI 1 <<< (nI (d / 8 % vnf V) &&& 31))
  else if decide (d % 8 = 3) && !hb (sup S) (nI (d / 8 % vnf V)) then sBo S (upd (sbo S) (d / 8 % vnf V) (nI (d / 64 % vnb V)))
  else S
set_option maxRecDepth 20000 in
theorem t_X9_turn (l : Launch) (e : MR) (V : WT) (S : ST) (hV : okV V) (h0 : 0 < vnf V) (h1 : 0 < vnb V) (d : Nat) (hd : d < 65521) : Fn l M_X9_turn [.ref 0, .int (nI d)] (mw e (tk V) (pk S)) none (mw e (tk V) (pk (tuF V S d))) := by
  have hV1 := hV.1
  have hV2 := hV.2.1
  have hV3 := hV.2.2
  have hf : d / 8 % vnf V < vnf V := Nat.mod_lt _ h0
  have hb9 : d / 64 % vnb V < vnb V := Nat.mod_lt _ h1
  have hd8 : d / 8 < 65521 := by omega
  have hd64 : d / 64 < 65521 := by omega
  refine con_of rfl rfl (Nat.le_of_ble_eq_true rfl) ?_
  refine g_lsN (ls' := [_, _, _, _]) rfl ?_
  refine g_iload_n (n := 1) dX9_turn_0 rfl rfl ?_
  refine g_bipush (v := nI 8) (n := 3) dX9_turn_1 (by decide) rfl ?_
  refine g_idiv (n := 4) dX9_turn_3 (by decide) rfl ?_
  refine g_top (pk_div (by omega) (by decide) (by decide)) ?_
  refine g_aload_n (n := 5) dX9_turn_4 rfl rfl ?_
  refine g_get (n := 8) fl_X9_13 dX9_turn_5 rfl rfl rfl ?_
  refine g_iconst (v := nI 1) (n := 9) dX9_turn_8 (by decide) rfl ?_
  refine g_ialdN (n := 10) dX9_turn_9 rfl rfl (by decide) (by omega) ?_
  refine g_top (tk_1 _) ?_
  refine g_irem (n := 11) dX9_turn_10 (nI_ne0 h0 (by omega)) rfl ?_
  refine g_top (pk_rem (by omega) (by omega) (by omega)) ?_
  refine g_istore_n (n := 12) dX9_turn_11 (by decide) rfl rfl ?_
  refine g_lsN (ls' := [_, _, _, _]) rfl ?_
  refine g_iload_n (n := 13) dX9_turn_12 rfl rfl ?_
  refine g_bipush (v := nI 8) (n := 15) dX9_turn_13 (by decide) rfl ?_
  refine g_irem (n := 16) dX9_turn_15 (by decide) rfl ?_
  refine g_top (pk_rem (by omega) (by omega) (by omega)) ?_
  refine g_istore_n (n := 17) dX9_turn_16 (by decide) rfl rfl ?_
  refine g_lsN (ls' := [_, _, _, _]) rfl ?_
  refine g_iload_n (n := 18) dX9_turn_17 rfl rfl ?_
  refine g_if_ne (tgt := 46) (n := 21) dX9_turn_18 (by decide) rfl (fun c18 => ?_) (fun c18 => ?_)
  ·
    have a1 : decide (d % 8 = 0) = false := decide_eq_false (fun q => c18 (by rw [q]; rfl))
    have b1 : (decide (d % 8 = 0) && mdF V S (d / 8 % vnf V)) = false := by first | exact b1 | (rw [a1]; rfl)
    refine g_iload_n (n := 47) dX9_turn_46 rfl rfl ?_
    refine g_iconst (v := nI 1) (n := 48) dX9_turn_47 (by decide) rfl ?_
    refine g_iconst (v := nI 2) (n := 49) dX9_turn_48 (by decide) rfl ?_
    refine g_callSi (n := 52) cs_X9_52 (t_X9_in l _ _ _) dX9_turn_49 rfl rfl ⟨by decide, by decide, rfl, rfl, Nat.zero_le _, Nat.zero_le _⟩ rfl (Nat.le_of_ble_eq_true rfl) rfl ?_
    refine g_if_eq (tgt := 78) (n := 55) dX9_turn_52 (by decide) rfl (fun c52 => ?_) (fun c52 => ?_)
    ·
      have b2 : (inB (nI (d % 8)) (nI 1) (nI 2) && muF V S (d / 8 % vnf V)) = false := by rw [bI_0.mp c52, Bool.false_and]
      refine g_iload_n (n := 79) dX9_turn_78 rfl rfl ?_
      refine g_iconst (v := nI 3) (n := 80) dX9_turn_79 (by decide) rfl ?_
      refine g_icmp_ne (tgt := 116) (n := 83) dX9_turn_80 (by decide) rfl (fun c80 => ?_) (fun c80 => ?_)
      ·
        have e9 : tuF V S d = S := by unfold tuF; rw [b1, if_neg Bool.false_ne_true, b2, if_neg Bool.false_ne_true, decide_eq_false (fun q => c80 (by rw [q]))]; rfl
        exact g_vret dX9_turn_116 rfl ⟨Nat.zero_le _, Nat.zero_le _⟩ ⟨rfl, by first | (rw [e9]; done) | (rw [e9, sk_ubo _ _ _ _ _ _ _ (by omega)])⟩
      ·
        have a3 : decide (d % 8 = 3) = true := decide_eq_true ((nI_eq (by omega) (by decide)).mp c80)
        refine g_aload_n (n := 84) dX9_turn_83 rfl rfl ?_
        refine g_get (n := 87) fl_X9_22 dX9_turn_84 rfl rfl rfl ?_
        refine g_iconst (v := nI 1) (n := 88) dX9_turn_87 (by decide) rfl ?_
        refine g_ialdN (n := 89) dX9_turn_88 rfl rfl (by decide) (by omega) ?_
        refine g_top (sk_1 _) ?_
        refine g_iload_n (n := 90) dX9_turn_89 rfl rfl ?_
        refine g_callSi (n := 93) cs_X9_94 (t_X9_has l _ _) dX9_turn_90 rfl rfl ⟨by decide, by decide, rfl, rfl, Nat.zero_le _, Nat.zero_le _⟩ rfl (Nat.le_of_ble_eq_true rfl) rfl ?_
        refine g_if_ne (tgt := 116) (n := 96) dX9_turn_93 (by decide) rfl (fun c93 => ?_) (fun c93 => ?_)
        ·
          have e9 : tuF V S d = S := by unfold tuF; rw [b1, if_neg Bool.false_ne_true, b2, if_neg Bool.false_ne_true, bI_n0.mp c93, Bool.not_true, Bool.and_false]; rfl
          exact g_vret dX9_turn_116 rfl ⟨Nat.zero_le _, Nat.zero_le _⟩ ⟨rfl, by first | (rw [e9]; done) | (rw [e9, sk_ubo _ _ _ _ _ _ _ (by omega)])⟩
        ·
          have e9 : tuF V S d = sBo S (upd (sbo S) (d / 8 % vnf V) (nI (d / 64 % vnb V))) := by unfold tuF; rw [b1, if_neg Bool.false_ne_true, b2, if_neg Bool.false_ne_true, a3, bI_0.mp c93]; rfl
          refine g_aload_n (n := 97) dX9_turn_96 rfl rfl ?_
          refine g_get (n := 100) fl_X9_22 dX9_turn_97 rfl rfl rfl ?_
          refine g_bipush (v := nI 9) (n := 102) dX9_turn_100 (by decide) rfl ?_
          refine g_iload_n (n := 103) dX9_turn_102 rfl rfl ?_
          refine g_iaddN (n := 104) dX9_turn_103 rfl ?_
          refine g_iload_n (n := 105) dX9_turn_104 rfl rfl ?_
          refine g_bipush (v := nI 64) (n := 107) dX9_turn_105 (by decide) rfl ?_
          refine g_idiv (n := 108) dX9_turn_107 (by decide) rfl ?_
          refine g_top (pk_div (by omega) (by decide) (by decide)) ?_
          refine g_aload_n (n := 109) dX9_turn_108 rfl rfl ?_
          refine g_get (n := 112) fl_X9_13 dX9_turn_109 rfl rfl rfl ?_
          refine g_iconst (v := nI 0) (n := 113) dX9_turn_112 (by decide) rfl ?_
          refine g_ialdN (n := 114) dX9_turn_113 rfl rfl (by decide) (by omega) ?_
          refine g_top (tk_0 _) ?_
          refine g_irem (n := 115) dX9_turn_114 (nI_ne0 h1 (by omega)) rfl ?_
          refine g_top (pk_rem (by omega) (by omega) (by omega)) ?_
          refine g_iastN (n := 116) dX9_turn_115 rfl rfl (by decide) (by omega) ?_
          refine g_wN (w' := [_, _, _, _, _, _, _, _, _]) rfl ?_
          exact g_vret dX9_turn_116 rfl ⟨Nat.zero_le _, Nat.zero_le _⟩ ⟨rfl, by first | (rw [e9]; done) | (rw [e9, sk_ubo _ _ _ _ _ _ _ (by omega)])⟩
    ·
      have a2 := bI_n0.mp c52
      refine g_aload_n (n := 56) dX9_turn_55 rfl rfl ?_
      refine g_iload_n (n := 57) dX9_turn_56 rfl rfl ?_
      refine g_callWi (n := 60) cv_X9_143 (t_X9_mayUp l e V S hV _ hf) dX9_turn_57 rfl ⟨by decide, by decide, rfl, rfl, Nat.zero_le _, Nat.zero_le _⟩ rfl rfl rfl (Nat.le_of_ble_eq_true rfl) rfl rfl ?_
      refine g_if_eq (tgt := 78) (n := 63) dX9_turn_60 (by decide) rfl (fun c60 => ?_) (fun c60 => ?_)
      ·
        have b2 : (inB (nI (d % 8)) (nI 1) (nI 2) && muF V S (d / 8 % vnf V)) = false := by rw [bI_0.mp c60, Bool.and_false]
        refine g_iload_n (n := 79) dX9_turn_78 rfl rfl ?_
        refine g_iconst (v := nI 3) (n := 80) dX9_turn_79 (by decide) rfl ?_
        refine g_icmp_ne (tgt := 116) (n := 83) dX9_turn_80 (by decide) rfl (fun c80 => ?_) (fun c80 => ?_)
        ·
          have e9 : tuF V S d = S := by unfold tuF; rw [b1, if_neg Bool.false_ne_true, b2, if_neg Bool.false_ne_true, decide_eq_false (fun q => c80 (by rw [q]))]; rfl
          exact g_vret dX9_turn_116 rfl ⟨Nat.zero_le _, Nat.zero_le _⟩ ⟨rfl, by first | (rw [e9]; done) | (rw [e9, sk_ubo _ _ _ _ _ _ _ (by omega)])⟩
        ·
          have a3 : decide (d % 8 = 3) = true := decide_eq_true ((nI_eq (by omega) (by decide)).mp c80)
          refine g_aload_n (n := 84) dX9_turn_83 rfl rfl ?_
          refine g_get (n := 87) fl_X9_22 dX9_turn_84 rfl rfl rfl ?_
          refine g_iconst (v := nI 1) (n := 88) dX9_turn_87 (by decide) rfl ?_
          refine g_ialdN (n := 89) dX9_turn_88 rfl rfl (by decide) (by omega) ?_
          refine g_top (sk_1 _) ?_
          refine g_iload_n (n := 90) dX9_turn_89 rfl rfl ?_
          refine g_callSi (n := 93) cs_X9_94 (t_X9_has l _ _) dX9_turn_90 rfl rfl ⟨by decide, by decide, rfl, rfl, Nat.zero_le _, Nat.zero_le _⟩ rfl (Nat.le_of_ble_eq_true rfl) rfl ?_
          refine g_if_ne (tgt := 116) (n := 96) dX9_turn_93 (by decide) rfl (fun c93 => ?_) (fun c93 => ?_)
          ·
            have e9 : tuF V S d = S := by unfold tuF; rw [b1, if_neg Bool.false_ne_true, b2, if_neg Bool.false_ne_true, bI_n0.mp c93, Bool.not_true, Bool.and_false]; rfl
            exact g_vret dX9_turn_116 rfl ⟨Nat.zero_le _, Nat.zero_le _⟩ ⟨rfl, by first | (rw [e9]; done) | (rw [e9, sk_ubo _ _ _ _ _ _ _ (by omega)])⟩
          ·
            have e9 : tuF V S d = sBo S (upd (sbo S) (d / 8 % vnf V) (nI (d / 64 % vnb V))) := by unfold tuF; rw [b1, if_neg Bool.false_ne_true, b2, if_neg Bool.false_ne_true, a3, bI_0.mp c93]; rfl
            refine g_aload_n (n := 97) dX9_turn_96 rfl rfl ?_
            refine g_get (n := 100) fl_X9_22 dX9_turn_97 rfl rfl rfl ?_
            refine g_bipush (v := nI 9) (n := 102) dX9_turn_100 (by decide) rfl ?_
            refine g_iload_n (n := 103) dX9_turn_102 rfl rfl ?_
            refine g_iaddN (n := 104) dX9_turn_103 rfl ?_
            refine g_iload_n (n := 105) dX9_turn_104 rfl rfl ?_
            refine g_bipush (v := nI 64) (n := 107) dX9_turn_105 (by decide) rfl ?_
            refine g_idiv (n := 108) dX9_turn_107 (by decide) rfl ?_
            refine g_top (pk_div (by omega) (by decide) (by decide)) ?_
            refine g_aload_n (n := 109) dX9_turn_108 rfl rfl ?_
            refine g_get (n := 112) fl_X9_13 dX9_turn_109 rfl rfl rfl ?_
            refine g_iconst (v := nI 0) (n := 113) dX9_turn_112 (by decide) rfl ?_
            refine g_ialdN (n := 114) dX9_turn_113 rfl rfl (by decide) (by omega) ?_
            refine g_top (tk_0 _) ?_
            refine g_irem (n := 115) dX9_turn_114 (nI_ne0 h1 (by omega)) rfl ?_
            refine g_top (pk_rem (by omega) (by omega) (by omega)) ?_
            refine g_iastN (n := 116) dX9_turn_115 rfl rfl (by decide) (by omega) ?_
            refine g_wN (w' := [_, _, _, _, _, _, _, _, _]) rfl ?_
            exact g_vret dX9_turn_116 rfl ⟨Nat.zero_le _, Nat.zero_le _⟩ ⟨rfl, by first | (rw [e9]; done) | (rw [e9, sk_ubo _ _ _ _ _ _ _ (by omega)])⟩
      ·
        have e9 : tuF V S d = sUp S (sup S ||| nI 1 <<< (nI (d / 8 % vnf V) &&& 31)) := by unfold tuF; rw [b1, if_neg Bool.false_ne_true, a2, bI_n0.mp c60]; rfl
        refine g_aload_n (n := 64) dX9_turn_63 rfl rfl ?_
        refine g_get (n := 67) fl_X9_22 dX9_turn_64 rfl rfl rfl ?_
        refine g_iconst (v := nI 1) (n := 68) dX9_turn_67 (by decide) rfl ?_
        refine g_dup2 (n := 69) dX9_turn_68 rfl rfl rfl ?_
        refine g_ialdN (n := 70) dX9_turn_69 rfl rfl (by decide) (by omega) ?_
        refine g_top (sk_1 _) ?_
        refine g_iconst (v := nI 1) (n := 71) dX9_turn_70 (by decide) rfl ?_
        refine g_iload_n (n := 72) dX9_turn_71 rfl rfl ?_
        refine g_ishl (n := 73) dX9_turn_72 rfl ?_
        refine g_ior (n := 74) dX9_turn_73 rfl ?_
        refine g_iastN (n := 75) dX9_turn_74 rfl rfl (by decide) (by omega) ?_
        refine g_wN (w' := [_, _, _, _, _, _, _, _, _]) rfl ?_
        rw [sk_up]
        refine g_goto (tgt := 116) dX9_turn_75 (by decide) ?_
        exact g_vret dX9_turn_116 rfl ⟨Nat.zero_le _, Nat.zero_le _⟩ ⟨rfl, by first | (rw [e9]; done) | (rw [e9, sk_ubo _ _ _ _ _ _ _ (by omega)])⟩
  ·
    have a1 : decide (d % 8 = 0) = true := decide_eq_true (by
      rcases Nat.eq_zero_or_pos (d % 8) with q | q
      · exact q
      · exact absurd c18 (nI_ne0 q (by omega)))
    refine g_aload_n (n := 22) dX9_turn_21 rfl rfl ?_
    refine g_iload_n (n := 23) dX9_turn_22 rfl rfl ?_
    refine g_callWi (n := 26) cv_X9_140 (t_X9_mayDown l e V S hV _ hf) dX9_turn_23 rfl ⟨by decide, by decide, rfl, rfl, Nat.zero_le _, Nat.zero_le _⟩ rfl rfl rfl (Nat.le_of_ble_eq_true rfl) rfl rfl ?_
    refine g_if_eq (tgt := 46) (n := 29) dX9_turn_26 (by decide) rfl (fun c26 => ?_) (fun c26 => ?_)
    ·
      have b1 : (decide (d % 8 = 0) && mdF V S (d / 8 % vnf V)) = false := by rw [bI_0.mp c26, Bool.and_false]
      have b1 : (decide (d % 8 = 0) && mdF V S (d / 8 % vnf V)) = false := by first | exact b1 | (rw [a1]; rfl)
      refine g_iload_n (n := 47) dX9_turn_46 rfl rfl ?_
      refine g_iconst (v := nI 1) (n := 48) dX9_turn_47 (by decide) rfl ?_
      refine g_iconst (v := nI 2) (n := 49) dX9_turn_48 (by decide) rfl ?_
      refine g_callSi (n := 52) cs_X9_52 (t_X9_in l _ _ _) dX9_turn_49 rfl rfl ⟨by decide, by decide, rfl, rfl, Nat.zero_le _, Nat.zero_le _⟩ rfl (Nat.le_of_ble_eq_true rfl) rfl ?_
      refine g_if_eq (tgt := 78) (n := 55) dX9_turn_52 (by decide) rfl (fun c52 => ?_) (fun c52 => ?_)
      ·
        have b2 : (inB (nI (d % 8)) (nI 1) (nI 2) && muF V S (d / 8 % vnf V)) = false := by rw [bI_0.mp c52, Bool.false_and]
        refine g_iload_n (n := 79) dX9_turn_78 rfl rfl ?_
        refine g_iconst (v := nI 3) (n := 80) dX9_turn_79 (by decide) rfl ?_
        refine g_icmp_ne (tgt := 116) (n := 83) dX9_turn_80 (by decide) rfl (fun c80 => ?_) (fun c80 => ?_)
        ·
          have e9 : tuF V S d = S := by unfold tuF; rw [b1, if_neg Bool.false_ne_true, b2, if_neg Bool.false_ne_true, decide_eq_false (fun q => c80 (by rw [q]))]; rfl
          exact g_vret dX9_turn_116 rfl ⟨Nat.zero_le _, Nat.zero_le _⟩ ⟨rfl, by first | (rw [e9]; done) | (rw [e9, sk_ubo _ _ _ _ _ _ _ (by omega)])⟩
        ·
          have a3 : decide (d % 8 = 3) = true := decide_eq_true ((nI_eq (by omega) (by decide)).mp c80)
          refine g_aload_n (n := 84) dX9_turn_83 rfl rfl ?_
          refine g_get (n := 87) fl_X9_22 dX9_turn_84 rfl rfl rfl ?_
          refine g_iconst (v := nI 1) (n := 88) dX9_turn_87 (by decide) rfl ?_
          refine g_ialdN (n := 89) dX9_turn_88 rfl rfl (by decide) (by omega) ?_
          refine g_top (sk_1 _) ?_
          refine g_iload_n (n := 90) dX9_turn_89 rfl rfl ?_
          refine g_callSi (n := 93) cs_X9_94 (t_X9_has l _ _) dX9_turn_90 rfl rfl ⟨by decide, by decide, rfl, rfl, Nat.zero_le _, Nat.zero_le _⟩ rfl (Nat.le_of_ble_eq_true rfl) rfl ?_
          refine g_if_ne (tgt := 116) (n := 96) dX9_turn_93 (by decide) rfl (fun c93 => ?_) (fun c93 => ?_)
          ·
            have e9 : tuF V S d = S := by unfold tuF; rw [b1, if_neg Bool.false_ne_true, b2, if_neg Bool.false_ne_true, bI_n0.mp c93, Bool.not_true, Bool.and_false]; rfl
            exact g_vret dX9_turn_116 rfl ⟨Nat.zero_le _, Nat.zero_le _⟩ ⟨rfl, by first | (rw [e9]; done) | (rw [e9, sk_ubo _ _ _ _ _ _ _ (by omega)])⟩
          ·
            have e9 : tuF V S d = sBo S (upd (sbo S) (d / 8 % vnf V) (nI (d / 64 % vnb V))) := by unfold tuF; rw [b1, if_neg Bool.false_ne_true, b2, if_neg Bool.false_ne_true, a3, bI_0.mp c93]; rfl
            refine g_aload_n (n := 97) dX9_turn_96 rfl rfl ?_
            refine g_get (n := 100) fl_X9_22 dX9_turn_97 rfl rfl rfl ?_
            refine g_bipush (v := nI 9) (n := 102) dX9_turn_100 (by decide) rfl ?_
            refine g_iload_n (n := 103) dX9_turn_102 rfl rfl ?_
            refine g_iaddN (n := 104) dX9_turn_103 rfl ?_
            refine g_iload_n (n := 105) dX9_turn_104 rfl rfl ?_
            refine g_bipush (v := nI 64) (n := 107) dX9_turn_105 (by decide) rfl ?_
            refine g_idiv (n := 108) dX9_turn_107 (by decide) rfl ?_
            refine g_top (pk_div (by omega) (by decide) (by decide)) ?_
            refine g_aload_n (n := 109) dX9_turn_108 rfl rfl ?_
            refine g_get (n := 112) fl_X9_13 dX9_turn_109 rfl rfl rfl ?_
            refine g_iconst (v := nI 0) (n := 113) dX9_turn_112 (by decide) rfl ?_
            refine g_ialdN (n := 114) dX9_turn_113 rfl rfl (by decide) (by omega) ?_
            refine g_top (tk_0 _) ?_
            refine g_irem (n := 115) dX9_turn_114 (nI_ne0 h1 (by omega)) rfl ?_
            refine g_top (pk_rem (by omega) (by omega) (by omega)) ?_
            refine g_iastN (n := 116) dX9_turn_115 rfl rfl (by decide) (by omega) ?_
            refine g_wN (w' := [_, _, _, _, _, _, _, _, _]) rfl ?_
            exact g_vret dX9_turn_116 rfl ⟨Nat.zero_le _, Nat.zero_le _⟩ ⟨rfl, by first | (rw [e9]; done) | (rw [e9, sk_ubo _ _ _ _ _ _ _ (by omega)])⟩
      ·
        have a2 := bI_n0.mp c52
        refine g_aload_n (n := 56) dX9_turn_55 rfl rfl ?_
        refine g_iload_n (n := 57) dX9_turn_56 rfl rfl ?_
        refine g_callWi (n := 60) cv_X9_143 (t_X9_mayUp l e V S hV _ hf) dX9_turn_57 rfl ⟨by decide, by decide, rfl, rfl, Nat.zero_le _, Nat.zero_le _⟩ rfl rfl rfl (Nat.le_of_ble_eq_true rfl) rfl rfl ?_
        refine g_if_eq (tgt := 78) (n := 63) dX9_turn_60 (by decide) rfl (fun c60 => ?_) (fun c60 => ?_)
        ·
          have b2 : (inB (nI (d % 8)) (nI 1) (nI 2) && muF V S (d / 8 % vnf V)) = false := by rw [bI_0.mp c60, Bool.and_false]
          refine g_iload_n (n := 79) dX9_turn_78 rfl rfl ?_
          refine g_iconst (v := nI 3) (n := 80) dX9_turn_79 (by decide) rfl ?_
          refine g_icmp_ne (tgt := 116) (n := 83) dX9_turn_80 (by decide) rfl (fun c80 => ?_) (fun c80 => ?_)
          ·
            have e9 : tuF V S d = S := by unfold tuF; rw [b1, if_neg Bool.false_ne_true, b2, if_neg Bool.false_ne_true, decide_eq_false (fun q => c80 (by rw [q]))]; rfl
            exact g_vret dX9_turn_116 rfl ⟨Nat.zero_le _, Nat.zero_le _⟩ ⟨rfl, by first | (rw [e9]; done) | (rw [e9, sk_ubo _ _ _ _ _ _ _ (by omega)])⟩
          ·
            have a3 : decide (d % 8 = 3) = true := decide_eq_true ((nI_eq (by omega) (by decide)).mp c80)
            refine g_aload_n (n := 84) dX9_turn_83 rfl rfl ?_
            refine g_get (n := 87) fl_X9_22 dX9_turn_84 rfl rfl rfl ?_
            refine g_iconst (v := nI 1) (n := 88) dX9_turn_87 (by decide) rfl ?_
            refine g_ialdN (n := 89) dX9_turn_88 rfl rfl (by decide) (by omega) ?_
            refine g_top (sk_1 _) ?_
            refine g_iload_n (n := 90) dX9_turn_89 rfl rfl ?_
            refine g_callSi (n := 93) cs_X9_94 (t_X9_has l _ _) dX9_turn_90 rfl rfl ⟨by decide, by decide, rfl, rfl, Nat.zero_le _, Nat.zero_le _⟩ rfl (Nat.le_of_ble_eq_true rfl) rfl ?_
            refine g_if_ne (tgt := 116) (n := 96) dX9_turn_93 (by decide) rfl (fun c93 => ?_) (fun c93 => ?_)
            ·
              have e9 : tuF V S d = S := by unfold tuF; rw [b1, if_neg Bool.false_ne_true, b2, if_neg Bool.false_ne_true, bI_n0.mp c93, Bool.not_true, Bool.and_false]; rfl
              exact g_vret dX9_turn_116 rfl ⟨Nat.zero_le _, Nat.zero_le _⟩ ⟨rfl, by first | (rw [e9]; done) | (rw [e9, sk_ubo _ _ _ _ _ _ _ (by omega)])⟩
            ·
              have e9 : tuF V S d = sBo S (upd (sbo S) (d / 8 % vnf V) (nI (d / 64 % vnb V))) := by unfold tuF; rw [b1, if_neg Bool.false_ne_true, b2, if_neg Bool.false_ne_true, a3, bI_0.mp c93]; rfl
              refine g_aload_n (n := 97) dX9_turn_96 rfl rfl ?_
              refine g_get (n := 100) fl_X9_22 dX9_turn_97 rfl rfl rfl ?_
              refine g_bipush (v := nI 9) (n := 102) dX9_turn_100 (by decide) rfl ?_
              refine g_iload_n (n := 103) dX9_turn_102 rfl rfl ?_
              refine g_iaddN (n := 104) dX9_turn_103 rfl ?_
              refine g_iload_n (n := 105) dX9_turn_104 rfl rfl ?_
              refine g_bipush (v := nI 64) (n := 107) dX9_turn_105 (by decide) rfl ?_
              refine g_idiv (n := 108) dX9_turn_107 (by decide) rfl ?_
              refine g_top (pk_div (by omega) (by decide) (by decide)) ?_
              refine g_aload_n (n := 109) dX9_turn_108 rfl rfl ?_
              refine g_get (n := 112) fl_X9_13 dX9_turn_109 rfl rfl rfl ?_
              refine g_iconst (v := nI 0) (n := 113) dX9_turn_112 (by decide) rfl ?_
              refine g_ialdN (n := 114) dX9_turn_113 rfl rfl (by decide) (by omega) ?_
              refine g_top (tk_0 _) ?_
              refine g_irem (n := 115) dX9_turn_114 (nI_ne0 h1 (by omega)) rfl ?_
              refine g_top (pk_rem (by omega) (by omega) (by omega)) ?_
              refine g_iastN (n := 116) dX9_turn_115 rfl rfl (by decide) (by omega) ?_
              refine g_wN (w' := [_, _, _, _, _, _, _, _, _]) rfl ?_
              exact g_vret dX9_turn_116 rfl ⟨Nat.zero_le _, Nat.zero_le _⟩ ⟨rfl, by first | (rw [e9]; done) | (rw [e9, sk_ubo _ _ _ _ _ _ _ (by omega)])⟩
        ·
          have e9 : tuF V S d = sUp S (sup S ||| nI 1 <<< (nI (d / 8 % vnf V) &&& 31)) := by unfold tuF; rw [b1, if_neg Bool.false_ne_true, a2, bI_n0.mp c60]; rfl
          refine g_aload_n (n := 64) dX9_turn_63 rfl rfl ?_
          refine g_get (n := 67) fl_X9_22 dX9_turn_64 rfl rfl rfl ?_
          refine g_iconst (v := nI 1) (n := 68) dX9_turn_67 (by decide) rfl ?_
          refine g_dup2 (n := 69) dX9_turn_68 rfl rfl rfl ?_
          refine g_ialdN (n := 70) dX9_turn_69 rfl rfl (by decide) (by omega) ?_
          refine g_top (sk_1 _) ?_
          refine g_iconst (v := nI 1) (n := 71) dX9_turn_70 (by decide) rfl ?_
          refine g_iload_n (n := 72) dX9_turn_71 rfl rfl ?_
          refine g_ishl (n := 73) dX9_turn_72 rfl ?_
          refine g_ior (n := 74) dX9_turn_73 rfl ?_
          refine g_iastN (n := 75) dX9_turn_74 rfl rfl (by decide) (by omega) ?_
          refine g_wN (w' := [_, _, _, _, _, _, _, _, _]) rfl ?_
          rw [sk_up]
          refine g_goto (tgt := 116) dX9_turn_75 (by decide) ?_
          exact g_vret dX9_turn_116 rfl ⟨Nat.zero_le _, Nat.zero_le _⟩ ⟨rfl, by first | (rw [e9]; done) | (rw [e9, sk_ubo _ _ _ _ _ _ _ (by omega)])⟩
    ·
      have e9 : tuF V S d = sUp S (sup S &&& ((nI 1 <<< (nI (d / 8 % vnf V) &&& 31)) ^^^ (-1))) := by unfold tuF; rw [a1, bI_n0.mp c26]; rfl
      refine g_aload_n (n := 30) dX9_turn_29 rfl rfl ?_
      refine g_get (n := 33) fl_X9_22 dX9_turn_30 rfl rfl rfl ?_
      refine g_iconst (v := nI 1) (n := 34) dX9_turn_33 (by decide) rfl ?_
      refine g_dup2 (n := 35) dX9_turn_34 rfl rfl rfl ?_
      refine g_ialdN (n := 36) dX9_turn_35 rfl rfl (by decide) (by omega) ?_
      refine g_top (sk_1 _) ?_
      refine g_iconst (v := nI 1) (n := 37) dX9_turn_36 (by decide) rfl ?_
      refine g_iload_n (n := 38) dX9_turn_37 rfl rfl ?_
      refine g_ishl (n := 39) dX9_turn_38 rfl ?_
      refine g_iconst (v := (-1)) (n := 40) dX9_turn_39 (by decide) rfl ?_
      refine g_ixor (n := 41) dX9_turn_40 rfl ?_
      refine g_iand (n := 42) dX9_turn_41 rfl ?_
      refine g_iastN (n := 43) dX9_turn_42 rfl rfl (by decide) (by omega) ?_
      refine g_wN (w' := [_, _, _, _, _, _, _, _, _]) rfl ?_
      rw [sk_up]
      refine g_goto (tgt := 116) dX9_turn_43 (by decide) ?_
      exact g_vret dX9_turn_116 rfl ⟨Nat.zero_le _, Nat.zero_le _⟩ ⟨rfl, by first | (rw [e9]; done) | (rw [e9, sk_ubo _ _ _ _ _ _ _ (by omega)])⟩

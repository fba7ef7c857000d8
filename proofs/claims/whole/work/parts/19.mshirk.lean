/-! 19.mshirk: the reference's nights and shirkers -/
def dr (z k : Nat) : Nat := (7919 * z + 6151 * k + 1) * (7919 * z + 6151 * k + 1) % 65521
theorem dr_lt (z k : Nat) : dr z k < 65521 := Nat.mod_lt _ (by decide)
theorem dr_eq {z k : Nat} (hz : z ≤ 9999) (hk : k < 64) : (((7919 : Int64) * (nI z).toInt64 + (6151 : Int64) * (nI k).toInt64 + 1) * ((7919 : Int64) * (nI z).toInt64 + (6151 : Int64) * (nI k).toInt64 + 1) - ((7919 : Int64) * (nI z).toInt64 + (6151 : Int64) * (nI k).toInt64 + 1) * ((7919 : Int64) * (nI z).toInt64 + (6151 : Int64) * (nI k).toInt64 + 1) / 65521 * 65521).toInt32 = nI (dr z k) := by
  have e1 : (7919 : Int64) * (nI z).toInt64 + (6151 : Int64) * (nI k).toInt64 + 1 = lN (7919 * z + 6151 * k + 1) := by
    rw [nI_l (by omega), nI_l (by omega), show (7919 : Int64) = lN 7919 from rfl, show (6151 : Int64) = lN 6151 from rfl, lN_mul, lN_mul, lN_add, lN_1]
  rw [e1, lN_mul, show (65521 : Int64) = lN 65521 from rfl]
  have hb : 7919 * z + 6151 * k + 1 < 2 ^ 30 := by omega
  have hm : (7919 * z + 6151 * k + 1) * (7919 * z + 6151 * k + 1) < 2 ^ 63 := by
    have := Nat.mul_lt_mul'' hb hb
    omega
  rw [pk_lRem hm (by decide) (by decide), lN_i]
  rfl
def niN (V : WT) (S : ST) (z : Nat) : Nat → ST
  | 0 => S
  | k + 1 => psF V (if 0 < vnf V then tuF V (niN V S z k) (dr z k) else niN V S z k)
theorem okZ_tu {V : WT} {S : ST} (hV : okV V) (d : Nat) (h0 : 0 < vnf V) (h : okZ S) : okZ (tuF V S d) := by
  unfold tuF
  have h1 : d / 8 % vnf V < 6 := Nat.lt_of_lt_of_le (Nat.mod_lt _ h0) hV.2.1
  split
  · exact h
  · split
    · exact h
    · split
      · exact ⟨h.1, upd_z h1 h.2.1, h.2.2⟩
      · exact h
theorem okZ_ni {V : WT} {S : ST} (hV : okV V) (z : Nat) (h : okZ S) : ∀ k, okZ (niN V S z k)
  | 0 => h
  | k + 1 => by
    rw [niN]
    refine okZ_ps hV ?_
    split
    · next q => exact okZ_tu hV _ q (okZ_ni hV z h k)
    · exact okZ_ni hV z h k

set_option maxRecDepth 20000 in
theorem lp_X9_night (l : Launch) (z : Nat × Nat × Nat) (hz : z.2.1 ≤ 0 ∧ z.2.2 ≤ 0) (Q : Option Value → List va_E → Prop) (e : MR) (V : WT) (S : ST) (hV : okV V) (hS : okZ S) (hb0 : 0 < vnb V) (zz : Nat) (hzz : zz ≤ 9999) (n : Nat) (hn : n ≤ 60) (wh : Nat) (hwh : wh < 2) (hQ : Q (some (.int (if wh = 0 then on (sfa (niN V S zz n)) 8 else on (sup (niN V S zz n)) 8))) (mw (sAs e (pk S)) (tk V) (pk S))) : ∀ k, k ≤ n → ∀ (o5 o6 : Option Value), G l M_X9_night z Q 39 [some (.ref 0), some (.int (nI zz)), some (.int (nI n)), some (.int (nI wh)), some (.int (nI k)), o5, o6] [] (mw (sAs e (pk S)) (tk V) (pk (niN V S zz k))) := by
  have hV1 := hV.1
  have hV2 := hV.2.1
  have hV3 := hV.2.2
  refine loopN n ?_ (fun k hk ih => ?_)
  ·
    intro o5 o6
    refine g_iload (n := 41) dX9_night_39 rfl rfl ?_
    refine g_iload_n (n := 42) dX9_night_41 rfl rfl ?_
    refine g_icmp_ge (tgt := 96) (n := 45) dX9_night_42 (by decide) rfl (fun c42 => ?_) (fun c42 => absurd (nI_le (Nat.le_refl _) (by omega)) c42)
    refine g_iload_n (n := 97) dX9_night_96 rfl rfl ?_
    refine g_if_ne (tgt := 109) (n := 100) dX9_night_97 (by decide) rfl (fun c97 => ?_) (fun c97 => ?_)
    ·
      have hw : ¬ wh = 0 := fun q => c97 (by rw [q]; rfl)
      rw [if_neg hw] at hQ
      refine g_aload_n (n := 110) dX9_night_109 rfl rfl ?_
      refine g_get (n := 113) fl_X9_22 dX9_night_110 rfl rfl rfl ?_
      refine g_iconst (v := nI 1) (n := 114) dX9_night_113 (by decide) rfl ?_
      refine g_ialdN (n := 115) dX9_night_114 rfl rfl (by decide) (by omega) ?_
      refine g_top (sk_1 _) ?_
      refine g_callSi (n := 118) cs_X9_161 (t_X9_ones l _) dX9_night_115 rfl rfl ⟨by decide, by decide, rfl, rfl, hz.1, hz.2⟩ rfl (Nat.le_of_ble_eq_true rfl) rfl ?_
      refine g_istore (n := 120) dX9_night_118 (by decide) rfl rfl ?_
      refine g_lsN (ls' := [_, _, _, _, _, _, _]) rfl ?_
      refine g_aload_n (n := 121) dX9_night_120 rfl rfl ?_
      refine g_callWv (n := 124) cv_X9_152 (t_X9_lets l (sAs e (pk S)) _ _ S (okZ_ni hV zz hS n) hS rfl) dX9_night_121 rfl ⟨by decide, by decide, rfl, rfl, hz.1, hz.2⟩ rfl rfl rfl (Nat.le_of_ble_eq_true rfl) rfl rfl ?_
      refine g_iload (n := 126) dX9_night_124 rfl rfl ?_
      exact g_iret (ty := .int) dX9_night_126 rfl rfl hz hQ
    ·
      have hw : wh = 0 := by
        rcases Nat.eq_zero_or_pos wh with q | q
        · exact q
        · exact absurd c97 (nI_ne0 q (by omega))
      rw [if_pos hw] at hQ
      refine g_aload_n (n := 101) dX9_night_100 rfl rfl ?_
      refine g_get (n := 104) fl_X9_22 dX9_night_101 rfl rfl rfl ?_
      refine g_iconst (v := nI 2) (n := 105) dX9_night_104 (by decide) rfl ?_
      refine g_ialdN (n := 106) dX9_night_105 rfl rfl (by decide) (by omega) ?_
      refine g_top (sk_2 _) ?_
      refine g_goto (tgt := 115) dX9_night_106 (by decide) ?_
      refine g_callSi (n := 118) cs_X9_161 (t_X9_ones l _) dX9_night_115 rfl rfl ⟨by decide, by decide, rfl, rfl, hz.1, hz.2⟩ rfl (Nat.le_of_ble_eq_true rfl) rfl ?_
      refine g_istore (n := 120) dX9_night_118 (by decide) rfl rfl ?_
      refine g_lsN (ls' := [_, _, _, _, _, _, _]) rfl ?_
      refine g_aload_n (n := 121) dX9_night_120 rfl rfl ?_
      refine g_callWv (n := 124) cv_X9_152 (t_X9_lets l (sAs e (pk S)) _ _ S (okZ_ni hV zz hS n) hS rfl) dX9_night_121 rfl ⟨by decide, by decide, rfl, rfl, hz.1, hz.2⟩ rfl rfl rfl (Nat.le_of_ble_eq_true rfl) rfl rfl ?_
      refine g_iload (n := 126) dX9_night_124 rfl rfl ?_
      exact g_iret (ty := .int) dX9_night_126 rfl rfl hz hQ
  ·
    intro o5 o6
    have J86 : ∀ (S2 : ST) (o5 o6 : Option Value), niN V S zz (k + 1) = psF V S2 → G l M_X9_night z Q 86 [some (.ref 0), some (.int (nI zz)), some (.int (nI n)), some (.int (nI wh)), some (.int (nI k)), o5, o6] [] (mw (sAs e (pk S)) (tk V) (pk S2)) := by
      intro S2 o5 o6 hs
      rw [hs] at ih
      refine g_aload_n (n := 87) dX9_night_86 rfl rfl ?_
      refine g_callWv (n := 90) cv_X9_134 (t_X9_passes l (sAs e (pk S)) V _ hV) dX9_night_87 rfl ⟨by decide, by decide, rfl, rfl, hz.1, hz.2⟩ rfl rfl rfl (Nat.le_of_ble_eq_true rfl) rfl rfl ?_
      refine g_iincN (k := 1) (n := 93) dX9_night_90 rfl (by decide) rfl rfl ?_
      refine g_lsN (ls' := [_, _, _, _, _, _, _]) rfl ?_
      refine g_goto (tgt := 39) dX9_night_93 (by decide) ?_
      exact ih _ _
    refine g_iload (n := 41) dX9_night_39 rfl rfl ?_
    refine g_iload_n (n := 42) dX9_night_41 rfl rfl ?_
    refine g_icmp_ge (tgt := 96) (n := 45) dX9_night_42 (by decide) rfl (fun c42 => absurd c42 (nI_ge hk (by omega))) (fun c42 => ?_)
    refine g_ldc2 (n := 48) dX9_night_45 kc_X9_175 rfl ?_
    refine g_iload_n (n := 49) dX9_night_48 rfl rfl ?_
    refine g_i2l (n := 50) dX9_night_49 rfl ?_
    refine g_lmul (n := 51) dX9_night_50 rfl ?_
    refine g_ldc2 (n := 54) dX9_night_51 kc_X9_177 rfl ?_
    refine g_iload (n := 56) dX9_night_54 rfl rfl ?_
    refine g_i2l (n := 57) dX9_night_56 rfl ?_
    refine g_lmul (n := 58) dX9_night_57 rfl ?_
    refine g_ladd (n := 59) dX9_night_58 rfl ?_
    refine g_lconst (v := 1) (n := 60) dX9_night_59 (by decide) rfl ?_
    refine g_ladd (n := 61) dX9_night_60 rfl ?_
    refine g_lstore (n := 63) dX9_night_61 (by decide) rfl rfl ?_
    refine g_lsN (ls' := [_, _, _, _, _, _, _]) rfl ?_
    refine g_aload_n (n := 64) dX9_night_63 rfl rfl ?_
    refine g_get (n := 67) fl_X9_13 dX9_night_64 rfl rfl rfl ?_
    refine g_iconst (v := nI 1) (n := 68) dX9_night_67 (by decide) rfl ?_
    refine g_ialdN (n := 69) dX9_night_68 rfl rfl (by decide) (by omega) ?_
    refine g_top (tk_1 _) ?_
    refine g_if_le (tgt := 86) (n := 72) dX9_night_69 (by decide) rfl (fun c69 => ?_) (fun c69 => ?_)
    ·
      have e0 : niN V S zz (k + 1) = psF V (niN V S zz k) := by rw [niN, if_neg (fun q => nI_nle q (by omega) c69)]
      exact J86 _ _ _ e0
    ·
      have h0 : 0 < vnf V := by
        rcases Nat.eq_zero_or_pos (vnf V) with q | q
        · exact absurd (by rw [q]; decide) c69
        · exact q
      have e0 : niN V S zz (k + 1) = psF V (tuF V (niN V S zz k) (dr zz k)) := by rw [niN, if_pos h0]
      refine g_aload_n (n := 73) dX9_night_72 rfl rfl ?_
      refine g_lload (n := 75) dX9_night_73 rfl rfl ?_
      refine g_lload (n := 77) dX9_night_75 rfl rfl ?_
      refine g_lmul (n := 78) dX9_night_77 rfl ?_
      refine g_ldc2 (n := 81) dX9_night_78 kc_X9_179 rfl ?_
      refine g_lrem (n := 82) dX9_night_81 (by decide) rfl ?_
      refine g_l2i (n := 83) dX9_night_82 rfl ?_
      refine g_top (dr_eq hzz (by omega)) ?_
      refine g_callWv (n := 86) cv_X9_181 (t_X9_turn l (sAs e (pk S)) V _ hV h0 hb0 _ (dr_lt _ _)) dX9_night_83 rfl ⟨by decide, by decide, rfl, rfl, hz.1, hz.2⟩ rfl rfl rfl (Nat.le_of_ble_eq_true rfl) rfl rfl ?_
      exact J86 _ _ _ e0
set_option maxRecDepth 20000 in
theorem t_X9_night_bad1 (l : Launch) (e : MR) (V : WT) (S : ST) (hV : okV V) (x y u : Int32) (h : inB x (nI 0) (nI 9999) = false) : Fn l M_X9_night [.ref 0, .int x, .int y, .int u] (mw e (tk V) (pk S)) (some (.int (-1))) (mw e (tk V) (pk S)) := by
  have hV1 := hV.1
  have hV2 := hV.2.1
  have hV3 := hV.2.2
  refine con_of rfl rfl (Nat.le_of_ble_eq_true rfl) ?_
  refine g_lsN (ls' := [_, _, _, _, _, _, _]) rfl ?_
  refine g_iload_n (n := 1) dX9_night_0 rfl rfl ?_
  refine g_iconst (v := nI 0) (n := 2) dX9_night_1 (by decide) rfl ?_
  refine g_sipush (v := nI 9999) (n := 5) dX9_night_2 (by decide) rfl ?_
  refine g_callSi (n := 8) cs_X9_52 (t_X9_in l _ _ _) dX9_night_5 rfl rfl ⟨by decide, by decide, rfl, rfl, Nat.zero_le _, Nat.zero_le _⟩ rfl (Nat.le_of_ble_eq_true rfl) rfl ?_
  refine g_if_eq (tgt := 30) (n := 11) dX9_night_8 (by decide) rfl (fun c8 => ?_) (fun c8 => absurd (bI_0.mpr h) c8)
  refine g_iconst (v := (-1)) (n := 31) dX9_night_30 (by decide) rfl ?_
  exact g_iret (ty := .int) dX9_night_31 rfl rfl ⟨Nat.zero_le _, Nat.zero_le _⟩ ⟨rfl, rfl⟩
set_option maxRecDepth 20000 in
theorem t_X9_night_bad2 (l : Launch) (e : MR) (V : WT) (S : ST) (hV : okV V) (x y u : Int32) (h : inB x (nI 0) (nI 9999) = true) (h2 : inB y (nI 1) (nI 60) = false) : Fn l M_X9_night [.ref 0, .int x, .int y, .int u] (mw e (tk V) (pk S)) (some (.int (-1))) (mw e (tk V) (pk S)) := by
  have hV1 := hV.1
  have hV2 := hV.2.1
  have hV3 := hV.2.2
  refine con_of rfl rfl (Nat.le_of_ble_eq_true rfl) ?_
  refine g_lsN (ls' := [_, _, _, _, _, _, _]) rfl ?_
  refine g_iload_n (n := 1) dX9_night_0 rfl rfl ?_
  refine g_iconst (v := nI 0) (n := 2) dX9_night_1 (by decide) rfl ?_
  refine g_sipush (v := nI 9999) (n := 5) dX9_night_2 (by decide) rfl ?_
  refine g_callSi (n := 8) cs_X9_52 (t_X9_in l _ _ _) dX9_night_5 rfl rfl ⟨by decide, by decide, rfl, rfl, Nat.zero_le _, Nat.zero_le _⟩ rfl (Nat.le_of_ble_eq_true rfl) rfl ?_
  refine g_if_eq (tgt := 30) (n := 11) dX9_night_8 (by decide) rfl (fun c8 => absurd c8 (bI_n0.mpr h)) (fun c8 => ?_)
  refine g_iload_n (n := 12) dX9_night_11 rfl rfl ?_
  refine g_iconst (v := nI 1) (n := 13) dX9_night_12 (by decide) rfl ?_
  refine g_bipush (v := nI 60) (n := 15) dX9_night_13 (by decide) rfl ?_
  refine g_callSi (n := 18) cs_X9_52 (t_X9_in l _ _ _) dX9_night_15 rfl rfl ⟨by decide, by decide, rfl, rfl, Nat.zero_le _, Nat.zero_le _⟩ rfl (Nat.le_of_ble_eq_true rfl) rfl ?_
  refine g_if_eq (tgt := 30) (n := 21) dX9_night_18 (by decide) rfl (fun c18 => ?_) (fun c18 => absurd (bI_0.mpr h2) c18)
  refine g_iconst (v := (-1)) (n := 31) dX9_night_30 (by decide) rfl ?_
  exact g_iret (ty := .int) dX9_night_31 rfl rfl ⟨Nat.zero_le _, Nat.zero_le _⟩ ⟨rfl, rfl⟩
set_option maxRecDepth 20000 in
theorem t_X9_night_bad3 (l : Launch) (e : MR) (V : WT) (S : ST) (hV : okV V) (x y u : Int32) (h : inB x (nI 0) (nI 9999) = true) (h2 : inB y (nI 1) (nI 60) = true) (h3 : inB u (nI 0) (nI 1) = false) : Fn l M_X9_night [.ref 0, .int x, .int y, .int u] (mw e (tk V) (pk S)) (some (.int (-1))) (mw e (tk V) (pk S)) := by
  have hV1 := hV.1
  have hV2 := hV.2.1
  have hV3 := hV.2.2
  refine con_of rfl rfl (Nat.le_of_ble_eq_true rfl) ?_
  refine g_lsN (ls' := [_, _, _, _, _, _, _]) rfl ?_
  refine g_iload_n (n := 1) dX9_night_0 rfl rfl ?_
  refine g_iconst (v := nI 0) (n := 2) dX9_night_1 (by decide) rfl ?_
  refine g_sipush (v := nI 9999) (n := 5) dX9_night_2 (by decide) rfl ?_
  refine g_callSi (n := 8) cs_X9_52 (t_X9_in l _ _ _) dX9_night_5 rfl rfl ⟨by decide, by decide, rfl, rfl, Nat.zero_le _, Nat.zero_le _⟩ rfl (Nat.le_of_ble_eq_true rfl) rfl ?_
  refine g_if_eq (tgt := 30) (n := 11) dX9_night_8 (by decide) rfl (fun c8 => absurd c8 (bI_n0.mpr h)) (fun c8 => ?_)
  refine g_iload_n (n := 12) dX9_night_11 rfl rfl ?_
  refine g_iconst (v := nI 1) (n := 13) dX9_night_12 (by decide) rfl ?_
  refine g_bipush (v := nI 60) (n := 15) dX9_night_13 (by decide) rfl ?_
  refine g_callSi (n := 18) cs_X9_52 (t_X9_in l _ _ _) dX9_night_15 rfl rfl ⟨by decide, by decide, rfl, rfl, Nat.zero_le _, Nat.zero_le _⟩ rfl (Nat.le_of_ble_eq_true rfl) rfl ?_
  refine g_if_eq (tgt := 30) (n := 21) dX9_night_18 (by decide) rfl (fun c18 => absurd c18 (bI_n0.mpr h2)) (fun c18 => ?_)
  refine g_iload_n (n := 22) dX9_night_21 rfl rfl ?_
  refine g_iconst (v := nI 0) (n := 23) dX9_night_22 (by decide) rfl ?_
  refine g_iconst (v := nI 1) (n := 24) dX9_night_23 (by decide) rfl ?_
  refine g_callSi (n := 27) cs_X9_52 (t_X9_in l _ _ _) dX9_night_24 rfl rfl ⟨by decide, by decide, rfl, rfl, Nat.zero_le _, Nat.zero_le _⟩ rfl (Nat.le_of_ble_eq_true rfl) rfl ?_
  refine g_if_ne (tgt := 32) (n := 30) dX9_night_27 (by decide) rfl (fun c27 => absurd (bI_0.mpr h3) c27) (fun c27 => ?_)
  refine g_iconst (v := (-1)) (n := 31) dX9_night_30 (by decide) rfl ?_
  exact g_iret (ty := .int) dX9_night_31 rfl rfl ⟨Nat.zero_le _, Nat.zero_le _⟩ ⟨rfl, rfl⟩
set_option maxRecDepth 20000 in
theorem t_X9_night_ok (l : Launch) (e : MR) (V : WT) (S : ST) (hV : okV V) (hS : okZ S) (ha : ∀ j, 23 ≤ j → eAs e j = 0) (hb0 : 0 < vnb V) (zz : Nat) (hzz : zz ≤ 9999) (n : Nat) (hn : n ≤ 60) (wh : Nat) (hwh : wh < 2) (h : inB (nI zz) (nI 0) (nI 9999) = true) (h2 : inB (nI n) (nI 1) (nI 60) = true) : Fn l M_X9_night [.ref 0, .int (nI zz), .int (nI n), .int (nI wh)] (mw e (tk V) (pk S)) (some (.int (if wh = 0 then on (sfa (niN V S zz n)) 8 else on (sup (niN V S zz n)) 8))) (mw (sAs e (pk S)) (tk V) (pk S)) := by
  have hV1 := hV.1
  have hV2 := hV.2.1
  have hV3 := hV.2.2
  refine con_of rfl rfl (Nat.le_of_ble_eq_true rfl) ?_
  refine g_lsN (ls' := [_, _, _, _, _, _, _]) rfl ?_
  refine g_iload_n (n := 1) dX9_night_0 rfl rfl ?_
  refine g_iconst (v := nI 0) (n := 2) dX9_night_1 (by decide) rfl ?_
  refine g_sipush (v := nI 9999) (n := 5) dX9_night_2 (by decide) rfl ?_
  refine g_callSi (n := 8) cs_X9_52 (t_X9_in l _ _ _) dX9_night_5 rfl rfl ⟨by decide, by decide, rfl, rfl, Nat.zero_le _, Nat.zero_le _⟩ rfl (Nat.le_of_ble_eq_true rfl) rfl ?_
  refine g_if_eq (tgt := 30) (n := 11) dX9_night_8 (by decide) rfl (fun c8 => absurd c8 (bI_n0.mpr h)) (fun c8 => ?_)
  refine g_iload_n (n := 12) dX9_night_11 rfl rfl ?_
  refine g_iconst (v := nI 1) (n := 13) dX9_night_12 (by decide) rfl ?_
  refine g_bipush (v := nI 60) (n := 15) dX9_night_13 (by decide) rfl ?_
  refine g_callSi (n := 18) cs_X9_52 (t_X9_in l _ _ _) dX9_night_15 rfl rfl ⟨by decide, by decide, rfl, rfl, Nat.zero_le _, Nat.zero_le _⟩ rfl (Nat.le_of_ble_eq_true rfl) rfl ?_
  refine g_if_eq (tgt := 30) (n := 21) dX9_night_18 (by decide) rfl (fun c18 => absurd c18 (bI_n0.mpr h2)) (fun c18 => ?_)
  refine g_iload_n (n := 22) dX9_night_21 rfl rfl ?_
  refine g_iconst (v := nI 0) (n := 23) dX9_night_22 (by decide) rfl ?_
  refine g_iconst (v := nI 1) (n := 24) dX9_night_23 (by decide) rfl ?_
  refine g_callSi (n := 27) cs_X9_52 (t_X9_in l _ _ _) dX9_night_24 rfl rfl ⟨by decide, by decide, rfl, rfl, Nat.zero_le _, Nat.zero_le _⟩ rfl (Nat.le_of_ble_eq_true rfl) rfl ?_
  refine g_if_ne (tgt := 32) (n := 30) dX9_night_27 (by decide) rfl (fun c27 => ?_) (fun c27 => absurd c27 (bI_n0.mpr (show inB (nI wh) (nI 0) (nI 1) = true by rcases (show wh = 0 ∨ wh = 1 by omega) with rfl | rfl <;> decide)))
  refine g_aload_n (n := 33) dX9_night_32 rfl rfl ?_
  refine g_callWv (n := 36) cv_X9_146 (t_X9_holds l _ _ _ hS ha) dX9_night_33 rfl ⟨by decide, by decide, rfl, rfl, Nat.zero_le _, Nat.zero_le _⟩ rfl rfl rfl (Nat.le_of_ble_eq_true rfl) rfl rfl ?_
  refine g_iconst (v := nI 0) (n := 37) dX9_night_36 (by decide) rfl ?_
  refine g_istore (n := 39) dX9_night_37 (by decide) rfl rfl ?_
  refine g_lsN (ls' := [_, _, _, _, _, _, _]) rfl ?_
  exact lp_X9_night l _ ⟨Nat.zero_le _, Nat.zero_le _⟩ _ e V S hV hS hb0 zz hzz n hn wh hwh ⟨rfl, rfl⟩ 0 (Nat.zero_le _) _ _
def onN (x : Int32) : Nat → Nat
  | 0 => 0
  | k + 1 => onN x k + (if hb x (nI k) then 1 else 0)
theorem bit01 (x : Int32) {k : Nat} (hk : k < 32) : x >>> (nI k &&& 31) &&& nI 1 = nI (if hb x (nI k) then 1 else 0) := by
  cases h : hb x (nI k) with
  | true => exact of_decide_eq_true h
  | false =>
    show _ = nI 0
    apply b_ext
    intro i hi
    rw [b_and, bt_1 i hi]
    by_cases hi0 : i = 0
    · subst hi0
      have h2 : bt (x >>> (nI k &&& 31)) 0 = bt x k := by rw [b_sshr k hk x (by decide), if_pos (by omega), Nat.add_zero]
      rw [h2, ← hb_bt x hk, h]
      rfl
    · rw [decide_eq_false hi0, Bool.and_false]
      exact (b_0 i).symm
theorem on_nat (x : Int32) : ∀ k, k ≤ 32 → on x k = nI (onN x k)
  | 0, _ => rfl
  | k + 1, h => by
    rw [on, onN, on_nat x k (by omega), bit01 x (by omega), nI_add]
theorem onN_le (x : Int32) : ∀ k, onN x k ≤ k
  | 0 => Nat.le_refl _
  | k + 1 => by
    rw [onN]
    have := onN_le x k
    split <;> omega
/-- the weight of a set of shirkers -/
def itM (x : Nat) (who : Int32) (t : Nat) : Nat → Nat
  | 0 => 1
  | f + 1 => itM x who t f * (if hb who (nI f) then (if hb (nI t) (nI f) then x else 10 - x) else 1)
theorem itM_le {x : Nat} (hx : x ≤ 10) (who : Int32) (t : Nat) : ∀ f, itM x who t f ≤ 10 ^ f
  | 0 => Nat.le_refl _
  | f + 1 => by
    rw [itM, Nat.pow_succ]
    exact Nat.mul_le_mul (itM_le hx who t f) (by split <;> (try split) <;> omega)
theorem pow10 {f : Nat} (h : f ≤ 6) : 10 ^ f ≤ 1000000 := (by decide +kernel : ∀ f, f ≤ 6 → 10 ^ f ≤ 1000000) f h
def riN (S : ST) (t : Nat) : Nat → ST
  | 0 => S
  | f + 1 => if hb (nI t) (nI f) then riS (riN S t f) f else riN S t f
theorem okZ_ri {S : ST} (t : Nat) (h : okZ S) : ∀ f, okZ (riN S t f)
  | 0 => h
  | f + 1 => by
    rw [riN]
    split
    · exact okZ_ri t h f
    · exact okZ_ri t h f
def skT (V : WT) (S : ST) (t : Nat) : ST := riN (psF V (sUp S (sup S &&& (nI t ^^^ (-1))))) t (vnf V)
def skC (V : WT) (S : ST) (t : Nat) : Bool := decide (sfa (skT V S t) = sfa S) && !decide (fk V (skT V S t) 11 ≤ 11)
def abM (V : WT) (S : ST) (x : Nat) : Nat → Nat
  | 0 => 0
  | t + 1 => abM V S x t + (if decide (nI t &&& (sup S ^^^ (-1)) = 0) && skC V S t then itM x (sup S) t (vnf V) else 0)
theorem abM_le {V : WT} (hV : okV V) (S : ST) {x : Nat} (hx : x ≤ 10) : ∀ t, abM V S x t ≤ t * 1000000
  | 0 => Nat.le_refl _
  | t + 1 => by
    have h1 := abM_le hV S hx t
    have h2 := Nat.le_trans (itM_le hx (sup S) t (vnf V)) (pow10 hV.2.1)
    rw [abM, Nat.succ_mul]
    refine Nat.add_le_add h1 ?_
    split
    · exact h2
    · exact Nat.zero_le _
def beM (S : ST) : Nat := 10 ^ onN (sup S) 8

set_option maxRecDepth 20000 in
theorem lp5_X9_shirkers (l : Launch) (z : Nat × Nat × Nat) (hz : z.2.1 ≤ 0 ∧ z.2.2 ≤ 0) (Q : Option Value → List va_E → Prop) (e : MR) (V : WT) (S : ST) (hV : okV V) (hS : okZ S) (x : Nat) (hx : x ≤ 10) (wh : Nat) (hwh : wh < 2) (hbe : 1 ≤ (beM S) ∧ (beM S) ≤ 100000000) (hab : (abM V S x (2 ^ vnf V)) ≤ 100000000) (hQ : Q (some (.int (if wh = 0 then nI ((abM V S x (2 ^ vnf V)) / Nat.gcd (abM V S x (2 ^ vnf V)) (beM S)) else nI ((beM S) / Nat.gcd (abM V S x (2 ^ vnf V)) (beM S))))) (mw (sAs e (pk S)) (tk V) (pk S))) : ∀ (b a : Nat) (o8 : Option Value), a ≤ 100000000 → b ≤ 100000000 → (0 < a ∨ 0 < b) → Nat.gcd a b = Nat.gcd (abM V S x (2 ^ vnf V)) (beM S) → G l M_X9_shirkers z Q 267 [some (.ref 0), some (.int (nI x)), some (.int (nI wh)), some (.int (sup S)), some (.int (nI (abM V S x (2 ^ vnf V)))), some (.int (nI (beM S))), some (.int (nI a)), some (.int (nI b)), o8] [] (mw (sAs e (pk S)) (tk V) (pk S)) := by
  have hV1 := hV.1
  have hV2 := hV.2.1
  have hV3 := hV.2.2
  intro b
  induction b using Nat.strongRecOn with
  | ind b ih =>
    intro a o8 ha hb_ hab2 hg
    rcases Nat.eq_zero_or_pos b with h0 | h0
    · subst h0
      rw [Nat.gcd_zero_right] at hg
      have ha0 : 0 < a := by omega
      rw [← hg] at hQ
      refine g_iload (n := 269) dX9_shirkers_267 rfl rfl ?_
      refine g_if_le (tgt := 290) (n := 272) dX9_shirkers_269 (by decide) rfl (fun c269 => ?_) (fun c269 => absurd (by decide) c269)
      refine g_iload_n (n := 291) dX9_shirkers_290 rfl rfl ?_
      refine g_if_ne (tgt := 302) (n := 294) dX9_shirkers_291 (by decide) rfl (fun c291 => ?_) (fun c291 => ?_)
      ·
        have hw : ¬ wh = 0 := fun q => c291 (by rw [q]; rfl)
        rw [if_neg hw] at hQ
        refine g_iload (n := 304) dX9_shirkers_302 rfl rfl ?_
        refine g_iload (n := 306) dX9_shirkers_304 rfl rfl ?_
        refine g_idiv (n := 307) dX9_shirkers_306 (nI_ne0 ha0 (by omega)) rfl ?_
        refine g_top (pk_div (by omega) ha0 (by omega)) ?_
        exact g_iret (ty := .int) dX9_shirkers_307 rfl rfl hz hQ
      ·
        have hw : wh = 0 := by
          rcases Nat.eq_zero_or_pos wh with q | q
          · exact q
          · exact absurd c291 (nI_ne0 q (by omega))
        rw [if_pos hw] at hQ
        refine g_iload (n := 296) dX9_shirkers_294 rfl rfl ?_
        refine g_iload (n := 298) dX9_shirkers_296 rfl rfl ?_
        refine g_idiv (n := 299) dX9_shirkers_298 (nI_ne0 ha0 (by omega)) rfl ?_
        refine g_top (pk_div (by omega) ha0 (by omega)) ?_
        refine g_goto (tgt := 307) dX9_shirkers_299 (by decide) ?_
        exact g_iret (ty := .int) dX9_shirkers_307 rfl rfl hz hQ
    ·
      refine g_iload (n := 269) dX9_shirkers_267 rfl rfl ?_
      refine g_if_le (tgt := 290) (n := 272) dX9_shirkers_269 (by decide) rfl (fun c269 => absurd c269 (nI_nle h0 (by omega))) (fun c269 => ?_)
      refine g_iload (n := 274) dX9_shirkers_272 rfl rfl ?_
      refine g_iload (n := 276) dX9_shirkers_274 rfl rfl ?_
      refine g_irem (n := 277) dX9_shirkers_276 (nI_ne0 h0 (by omega)) rfl ?_
      refine g_top (pk_rem (by omega) h0 (by omega)) ?_
      refine g_istore (n := 279) dX9_shirkers_277 (by decide) rfl rfl ?_
      refine g_lsN (ls' := [_, _, _, _, _, _, _, _, _]) rfl ?_
      refine g_iload (n := 281) dX9_shirkers_279 rfl rfl ?_
      refine g_istore (n := 283) dX9_shirkers_281 (by decide) rfl rfl ?_
      refine g_lsN (ls' := [_, _, _, _, _, _, _, _, _]) rfl ?_
      refine g_iload (n := 285) dX9_shirkers_283 rfl rfl ?_
      refine g_istore (n := 287) dX9_shirkers_285 (by decide) rfl rfl ?_
      refine g_lsN (ls' := [_, _, _, _, _, _, _, _, _]) rfl ?_
      refine g_goto (tgt := 267) dX9_shirkers_287 (by decide) ?_
      exact ih (a % b) (Nat.mod_lt _ h0) b _ (by omega) (Nat.le_trans (Nat.mod_le _ _) ha) (Or.inl h0) (by rw [Nat.gcd_comm, ← Nat.gcd_rec, Nat.gcd_comm]; exact hg)
set_option maxRecDepth 20000 in
set_option maxHeartbeats 1000000 in
theorem lp2_X9_shirkers (l : Launch) (z : Nat × Nat × Nat) (hz : z.2.1 ≤ 0 ∧ z.2.2 ≤ 0) (Q : Option Value → List va_E → Prop) (e : MR) (V : WT) (S : ST) (hV : okV V) (hS : okZ S) (x : Nat) (hx : x ≤ 10) (wh : Nat) (hwh : wh < 2) (hbe : 1 ≤ (beM S) ∧ (beM S) ≤ 100000000) (hQ : Q (some (.int (if wh = 0 then nI ((abM V S x (2 ^ vnf V)) / Nat.gcd (abM V S x (2 ^ vnf V)) (beM S)) else nI ((beM S) / Nat.gcd (abM V S x (2 ^ vnf V)) (beM S))))) (mw (sAs e (pk S)) (tk V) (pk S))) : ∀ t, t ≤ 2 ^ vnf V → ∀ (o7 o8 : Option Value), G l M_X9_shirkers z Q 66 [some (.ref 0), some (.int (nI x)), some (.int (nI wh)), some (.int (sup S)), some (.int (nI (abM V S x t))), some (.int (nI (beM S))), some (.int (nI t)), o7, o8] [] (mw (sAs e (pk S)) (tk V) (pk S)) := by
  have hV1 := hV.1
  have hV2 := hV.2.1
  have hV3 := hV.2.2
  have hp := pow6 hV2
  refine loopN (2 ^ vnf V) ?_ (fun t ht ih => ?_)
  ·
    intro o7 o8
    refine g_iload (n := 68) dX9_shirkers_66 rfl rfl ?_
    refine g_iconst (v := nI 1) (n := 69) dX9_shirkers_68 (by decide) rfl ?_
    refine g_aload_n (n := 70) dX9_shirkers_69 rfl rfl ?_
    refine g_get (n := 73) fl_X9_13 dX9_shirkers_70 rfl rfl rfl ?_
    refine g_iconst (v := nI 1) (n := 74) dX9_shirkers_73 (by decide) rfl ?_
    refine g_ialdN (n := 75) dX9_shirkers_74 rfl rfl (by decide) (by omega) ?_
    refine g_top (tk_1 _) ?_
    refine g_ishl (n := 76) dX9_shirkers_75 rfl ?_
    refine g_top (shl_pow (by omega)) ?_
    refine g_icmp_ge (tgt := 259) (n := 79) dX9_shirkers_76 (by decide) rfl (fun c76 => ?_) (fun c76 => absurd (nI_le (Nat.le_refl _) (by omega)) c76)
    refine g_iload (n := 261) dX9_shirkers_259 rfl rfl ?_
    refine g_istore (n := 263) dX9_shirkers_261 (by decide) rfl rfl ?_
    refine g_lsN (ls' := [_, _, _, _, _, _, _, _, _]) rfl ?_
    refine g_iload (n := 265) dX9_shirkers_263 rfl rfl ?_
    refine g_istore (n := 267) dX9_shirkers_265 (by decide) rfl rfl ?_
    refine g_lsN (ls' := [_, _, _, _, _, _, _, _, _]) rfl ?_
    have hab : (abM V S x (2 ^ vnf V)) ≤ 100000000 := Nat.le_trans (abM_le hV S hx _) (by omega)
    exact lp5_X9_shirkers l z hz Q e V S hV hS x hx wh hwh hbe hab hQ (beM S) (abM V S x (2 ^ vnf V)) _ hab hbe.2 (Or.inr hbe.1) rfl
  ·
    intro o7 o8
    refine g_iload (n := 68) dX9_shirkers_66 rfl rfl ?_
    refine g_iconst (v := nI 1) (n := 69) dX9_shirkers_68 (by decide) rfl ?_
    refine g_aload_n (n := 70) dX9_shirkers_69 rfl rfl ?_
    refine g_get (n := 73) fl_X9_13 dX9_shirkers_70 rfl rfl rfl ?_
    refine g_iconst (v := nI 1) (n := 74) dX9_shirkers_73 (by decide) rfl ?_
    refine g_ialdN (n := 75) dX9_shirkers_74 rfl rfl (by decide) (by omega) ?_
    refine g_top (tk_1 _) ?_
    refine g_ishl (n := 76) dX9_shirkers_75 rfl ?_
    refine g_top (shl_pow (by omega)) ?_
    refine g_icmp_ge (tgt := 259) (n := 79) dX9_shirkers_76 (by decide) rfl (fun c76 => absurd c76 (nI_ge ht (by omega))) (fun c76 => ?_)
    refine g_iload (n := 81) dX9_shirkers_79 rfl rfl ?_
    refine g_iload_n (n := 82) dX9_shirkers_81 rfl rfl ?_
    refine g_iconst (v := (-1)) (n := 83) dX9_shirkers_82 (by decide) rfl ?_
    refine g_ixor (n := 84) dX9_shirkers_83 rfl ?_
    refine g_iand (n := 85) dX9_shirkers_84 rfl ?_
    refine g_if_ne (tgt := 253) (n := 88) dX9_shirkers_85 (by decide) rfl (fun c85 => ?_) (fun c85 => ?_)
    ·
      have e1 : abM V S x (t + 1) = abM V S x t := by rw [abM, decide_eq_false c85]; rfl
      have J253 : ∀ (a : Nat) (o7 o8 : Option Value), abM V S x (t + 1) = a → G l M_X9_shirkers z Q 253 [some (.ref 0), some (.int (nI x)), some (.int (nI wh)), some (.int (sup S)), some (.int (nI a)), some (.int (nI (beM S))), some (.int (nI t)), o7, o8] [] (mw (sAs e (pk S)) (tk V) (pk S)) := by
        intro a o7 o8 ha
        rw [ha] at ih
        refine g_iincN (k := 1) (n := 256) dX9_shirkers_253 rfl (by decide) rfl rfl ?_
        refine g_lsN (ls' := [_, _, _, _, _, _, _, _, _]) rfl ?_
        refine g_goto (tgt := 66) dX9_shirkers_256 (by decide) ?_
        exact ih _ _
      exact J253 _ _ _ e1
    ·
      have a0 := decide_eq_true c85
      have J253 : ∀ (a : Nat) (o7 o8 : Option Value), abM V S x (t + 1) = a → G l M_X9_shirkers z Q 253 [some (.ref 0), some (.int (nI x)), some (.int (nI wh)), some (.int (sup S)), some (.int (nI a)), some (.int (nI (beM S))), some (.int (nI t)), o7, o8] [] (mw (sAs e (pk S)) (tk V) (pk S)) := by
        intro a o7 o8 ha
        rw [ha] at ih
        refine g_iincN (k := 1) (n := 256) dX9_shirkers_253 rfl (by decide) rfl rfl ?_
        refine g_lsN (ls' := [_, _, _, _, _, _, _, _, _]) rfl ?_
        refine g_goto (tgt := 66) dX9_shirkers_256 (by decide) ?_
        exact ih _ _
      have J231true : ∀ (S2 : ST) (o8 : Option Value), okZ S2 → true = skC V S t → G l M_X9_shirkers z Q 231 [some (.ref 0), some (.int (nI x)), some (.int (nI wh)), some (.int (sup S)), some (.int (nI (abM V S x t))), some (.int (nI (beM S))), some (.int (nI t)), some (.int (nI (itM x (sup S) t (vnf V)))), o8] [.int (bI true)] (mw (sAs e (pk S)) (tk V) (pk S2)) := by
        intro S2 o8 hz2 hc
        have e1 : abM V S x (t + 1) = abM V S x t + itM x (sup S) t (vnf V) := by rw [abM, a0, ← hc]; rfl
        refine g_istore (n := 233) dX9_shirkers_231 (by decide) rfl rfl ?_
        refine g_lsN (ls' := [_, _, _, _, _, _, _, _, _]) rfl ?_
        refine g_iload (n := 235) dX9_shirkers_233 rfl rfl ?_
        refine g_iload (n := 237) dX9_shirkers_235 rfl rfl ?_
        refine g_if_eq (tgt := 245) (n := 240) dX9_shirkers_237 (by decide) rfl (fun c237 => absurd c237 (by decide)) (fun c237 => ?_)
        refine g_iload (n := 242) dX9_shirkers_240 rfl rfl ?_
        refine g_goto (tgt := 246) dX9_shirkers_242 (by decide) ?_
        refine g_iaddN (n := 247) dX9_shirkers_246 rfl ?_
        refine g_istore (n := 249) dX9_shirkers_247 (by decide) rfl rfl ?_
        refine g_lsN (ls' := [_, _, _, _, _, _, _, _, _]) rfl ?_
        refine g_aload_n (n := 250) dX9_shirkers_249 rfl rfl ?_
        refine g_callWv (n := 253) cv_X9_152 (t_X9_lets l (sAs e (pk S)) _ _ S hz2 hS rfl) dX9_shirkers_250 rfl ⟨by decide, by decide, rfl, rfl, hz.1, hz.2⟩ rfl rfl rfl (Nat.le_of_ble_eq_true rfl) rfl rfl ?_
        exact J253 _ _ _ e1
      have J231false : ∀ (S2 : ST) (o8 : Option Value), okZ S2 → false = skC V S t → G l M_X9_shirkers z Q 231 [some (.ref 0), some (.int (nI x)), some (.int (nI wh)), some (.int (sup S)), some (.int (nI (abM V S x t))), some (.int (nI (beM S))), some (.int (nI t)), some (.int (nI (itM x (sup S) t (vnf V)))), o8] [.int (bI false)] (mw (sAs e (pk S)) (tk V) (pk S2)) := by
        intro S2 o8 hz2 hc
        have e1 : abM V S x (t + 1) = abM V S x t + 0 := by rw [abM, a0, ← hc]; rfl
        refine g_istore (n := 233) dX9_shirkers_231 (by decide) rfl rfl ?_
        refine g_lsN (ls' := [_, _, _, _, _, _, _, _, _]) rfl ?_
        refine g_iload (n := 235) dX9_shirkers_233 rfl rfl ?_
        refine g_iload (n := 237) dX9_shirkers_235 rfl rfl ?_
        refine g_if_eq (tgt := 245) (n := 240) dX9_shirkers_237 (by decide) rfl (fun c237 => ?_) (fun c237 => absurd (by decide) c237)
        refine g_iconst (v := nI 0) (n := 246) dX9_shirkers_245 (by decide) rfl ?_
        refine g_iaddN (n := 247) dX9_shirkers_246 rfl ?_
        refine g_istore (n := 249) dX9_shirkers_247 (by decide) rfl rfl ?_
        refine g_lsN (ls' := [_, _, _, _, _, _, _, _, _]) rfl ?_
        refine g_aload_n (n := 250) dX9_shirkers_249 rfl rfl ?_
        refine g_callWv (n := 253) cv_X9_152 (t_X9_lets l (sAs e (pk S)) _ _ S hz2 hS rfl) dX9_shirkers_250 rfl ⟨by decide, by decide, rfl, rfl, hz.1, hz.2⟩ rfl rfl rfl (Nat.le_of_ble_eq_true rfl) rfl rfl ?_
        exact J253 _ _ _ e1
      have J167 : ∀ f, f ≤ vnf V → G l M_X9_shirkers z Q 167 [some (.ref 0), some (.int (nI x)), some (.int (nI wh)), some (.int (sup S)), some (.int (nI (abM V S x t))), some (.int (nI (beM S))), some (.int (nI t)), some (.int (nI (itM x (sup S) t (vnf V)))), some (.int (nI f))] [] (mw (sAs e (pk S)) (tk V) (pk (riN (psF V (sUp S (sup S &&& (nI t ^^^ (-1))))) t f))) := by
        have hzT : okZ (skT V S t) := okZ_ri t (okZ_ps hV (okZ_up _ hS)) _
        refine loopN (vnf V) ?_ (fun f hf ih2 => ?_)
        ·
          refine g_wN (w' := mw (sAs e (pk S)) (tk V) (pk (skT V S t))) rfl ?_
          refine g_iload (n := 169) dX9_shirkers_167 rfl rfl ?_
          refine g_aload_n (n := 170) dX9_shirkers_169 rfl rfl ?_
          refine g_get (n := 173) fl_X9_13 dX9_shirkers_170 rfl rfl rfl ?_
          refine g_iconst (v := nI 1) (n := 174) dX9_shirkers_173 (by decide) rfl ?_
          refine g_ialdN (n := 175) dX9_shirkers_174 rfl rfl (by decide) (by omega) ?_
          refine g_top (tk_1 _) ?_
          refine g_icmp_ge (tgt := 200) (n := 178) dX9_shirkers_175 (by decide) rfl (fun c175 => ?_) (fun c175 => absurd (nI_le (Nat.le_refl _) (by omega)) c175)
          refine g_aload_n (n := 201) dX9_shirkers_200 rfl rfl ?_
          refine g_get (n := 204) fl_X9_22 dX9_shirkers_201 rfl rfl rfl ?_
          refine g_iconst (v := nI 2) (n := 205) dX9_shirkers_204 (by decide) rfl ?_
          refine g_ialdN (n := 206) dX9_shirkers_205 rfl rfl (by decide) (by omega) ?_
          refine g_top (sk_2 _) ?_
          refine g_aload_n (n := 207) dX9_shirkers_206 rfl rfl ?_
          refine g_get (n := 210) fl_X9_31 dX9_shirkers_207 rfl rfl rfl ?_
          refine g_iconst (v := nI 2) (n := 211) dX9_shirkers_210 (by decide) rfl ?_
          refine g_ialdN (n := 212) dX9_shirkers_211 rfl rfl (by decide) (by omega) ?_
          refine g_top (sk_2 _) ?_
          refine g_icmp_ne (tgt := 230) (n := 215) dX9_shirkers_212 (by decide) rfl (fun c212 => ?_) (fun c212 => ?_)
          ·
            have hz9 := hzT
            have e0 : false = skC V S t := by unfold skC; rw [decide_eq_false c212]; rfl
            refine g_iconst (v := nI 0) (n := 231) dX9_shirkers_230 (by decide) rfl ?_
            first | exact J231true _ _ hz9 e0 | exact J231false _ _ hz9 e0
          ·
            have a1 := decide_eq_true c212
            refine g_aload_n (n := 216) dX9_shirkers_215 rfl rfl ?_
            refine g_bipush (v := nI 11) (n := 218) dX9_shirkers_216 (by decide) rfl ?_
            refine g_callWi (n := 221) cv_X9_149 (t_X9_falls l (sAs e (pk S)) V (skT V S t) hV _ (by decide)) dX9_shirkers_218 rfl ⟨by decide, by decide, rfl, rfl, hz.1, hz.2⟩ rfl rfl rfl (Nat.le_of_ble_eq_true rfl) rfl rfl ?_
            refine g_bipush (v := nI 11) (n := 223) dX9_shirkers_221 (by decide) rfl ?_
            refine g_icmp_le (tgt := 230) (n := 226) dX9_shirkers_223 (by decide) rfl (fun c223 => ?_) (fun c223 => ?_)
            ·
              have hz9 : okZ (flR V (sfa (skT V S t)) (11 + 1) (skT V S t)).2 := okZ_fl hV _ _ _ hzT
              have e0 : false = skC V S t := by unfold skC; rw [decide_eq_true ((fk_c V (skT V S t) (lim := 11) (k := 11) (by decide) (by decide)).mp c223), Bool.not_true, Bool.and_false]
              refine g_iconst (v := nI 0) (n := 231) dX9_shirkers_230 (by decide) rfl ?_
              first | exact J231true _ _ hz9 e0 | exact J231false _ _ hz9 e0
            ·
              have hz9 : okZ (flR V (sfa (skT V S t)) (11 + 1) (skT V S t)).2 := okZ_fl hV _ _ _ hzT
              have e0 : true = skC V S t := by unfold skC; rw [a1, decide_eq_false (fun q => c223 ((fk_c V (skT V S t) (lim := 11) (k := 11) (by decide) (by decide)).mpr q))]; rfl
              refine g_iconst (v := nI 1) (n := 227) dX9_shirkers_226 (by decide) rfl ?_
              refine g_goto (tgt := 231) dX9_shirkers_227 (by decide) ?_
              first | exact J231true _ _ hz9 e0 | exact J231false _ _ hz9 e0
        ·
          refine g_iload (n := 169) dX9_shirkers_167 rfl rfl ?_
          refine g_aload_n (n := 170) dX9_shirkers_169 rfl rfl ?_
          refine g_get (n := 173) fl_X9_13 dX9_shirkers_170 rfl rfl rfl ?_
          refine g_iconst (v := nI 1) (n := 174) dX9_shirkers_173 (by decide) rfl ?_
          refine g_ialdN (n := 175) dX9_shirkers_174 rfl rfl (by decide) (by omega) ?_
          refine g_top (tk_1 _) ?_
          refine g_icmp_ge (tgt := 200) (n := 178) dX9_shirkers_175 (by decide) rfl (fun c175 => absurd c175 (nI_ge hf (by omega))) (fun c175 => ?_)
          refine g_iload (n := 180) dX9_shirkers_178 rfl rfl ?_
          refine g_iload (n := 182) dX9_shirkers_180 rfl rfl ?_
          refine g_callSi (n := 185) cs_X9_94 (t_X9_has l _ _) dX9_shirkers_182 rfl rfl ⟨by decide, by decide, rfl, rfl, hz.1, hz.2⟩ rfl (Nat.le_of_ble_eq_true rfl) rfl ?_
          refine g_if_eq (tgt := 194) (n := 188) dX9_shirkers_185 (by decide) rfl (fun c185 => ?_) (fun c185 => ?_)
          ·
            have e2 : riN (psF V (sUp S (sup S &&& (nI t ^^^ (-1))))) t (f + 1) = riN (psF V (sUp S (sup S &&& (nI t ^^^ (-1))))) t f := by rw [riN, bI_0.mp c185]; rfl
            rw [e2] at ih2
            refine g_iincN (k := 1) (n := 197) dX9_shirkers_194 rfl (by decide) rfl rfl ?_
            refine g_lsN (ls' := [_, _, _, _, _, _, _, _, _]) rfl ?_
            refine g_goto (tgt := 167) dX9_shirkers_197 (by decide) ?_
            exact ih2
          ·
            have e2 : riN (psF V (sUp S (sup S &&& (nI t ^^^ (-1))))) t (f + 1) = riS (riN (psF V (sUp S (sup S &&& (nI t ^^^ (-1))))) t f) f := by rw [riN, bI_n0.mp c185]; rfl
            rw [e2] at ih2
            refine g_aload_n (n := 189) dX9_shirkers_188 rfl rfl ?_
            refine g_iload (n := 191) dX9_shirkers_189 rfl rfl ?_
            refine g_callWv (n := 194) cv_X9_168 (t_X9_rises l (sAs e (pk S)) V _ hV f hf) dX9_shirkers_191 rfl ⟨by decide, by decide, rfl, rfl, hz.1, hz.2⟩ rfl rfl rfl (Nat.le_of_ble_eq_true rfl) rfl rfl ?_
            refine g_iincN (k := 1) (n := 197) dX9_shirkers_194 rfl (by decide) rfl rfl ?_
            refine g_lsN (ls' := [_, _, _, _, _, _, _, _, _]) rfl ?_
            refine g_goto (tgt := 167) dX9_shirkers_197 (by decide) ?_
            exact ih2
      have J94 : ∀ f, f ≤ vnf V → G l M_X9_shirkers z Q 94 [some (.ref 0), some (.int (nI x)), some (.int (nI wh)), some (.int (sup S)), some (.int (nI (abM V S x t))), some (.int (nI (beM S))), some (.int (nI t)), some (.int (nI (itM x (sup S) t f))), some (.int (nI f))] [] (mw (sAs e (pk S)) (tk V) (pk S)) := by
        refine loopN (vnf V) ?_ (fun f hf ih2 => ?_)
        ·
          refine g_iload (n := 96) dX9_shirkers_94 rfl rfl ?_
          refine g_aload_n (n := 97) dX9_shirkers_96 rfl rfl ?_
          refine g_get (n := 100) fl_X9_13 dX9_shirkers_97 rfl rfl rfl ?_
          refine g_iconst (v := nI 1) (n := 101) dX9_shirkers_100 (by decide) rfl ?_
          refine g_ialdN (n := 102) dX9_shirkers_101 rfl rfl (by decide) (by omega) ?_
          refine g_top (tk_1 _) ?_
          refine g_icmp_ge (tgt := 147) (n := 105) dX9_shirkers_102 (by decide) rfl (fun c102 => ?_) (fun c102 => absurd (nI_le (Nat.le_refl _) (by omega)) c102)
          refine g_aload_n (n := 148) dX9_shirkers_147 rfl rfl ?_
          refine g_get (n := 151) fl_X9_22 dX9_shirkers_148 rfl rfl rfl ?_
          refine g_iconst (v := nI 1) (n := 152) dX9_shirkers_151 (by decide) rfl ?_
          refine g_dup2 (n := 153) dX9_shirkers_152 rfl rfl rfl ?_
          refine g_ialdN (n := 154) dX9_shirkers_153 rfl rfl (by decide) (by omega) ?_
          refine g_top (sk_1 _) ?_
          refine g_iload (n := 156) dX9_shirkers_154 rfl rfl ?_
          refine g_iconst (v := (-1)) (n := 157) dX9_shirkers_156 (by decide) rfl ?_
          refine g_ixor (n := 158) dX9_shirkers_157 rfl ?_
          refine g_iand (n := 159) dX9_shirkers_158 rfl ?_
          refine g_iastN (n := 160) dX9_shirkers_159 rfl rfl (by decide) (by omega) ?_
          refine g_wN (w' := [_, _, _, _, _, _, _, _, _]) rfl ?_
          rw [sk_up]
          refine g_aload_n (n := 161) dX9_shirkers_160 rfl rfl ?_
          refine g_callWv (n := 164) cv_X9_134 (t_X9_passes l (sAs e (pk S)) V _ hV) dX9_shirkers_161 rfl ⟨by decide, by decide, rfl, rfl, hz.1, hz.2⟩ rfl rfl rfl (Nat.le_of_ble_eq_true rfl) rfl rfl ?_
          refine g_iconst (v := nI 0) (n := 165) dX9_shirkers_164 (by decide) rfl ?_
          refine g_istore (n := 167) dX9_shirkers_165 (by decide) rfl rfl ?_
          refine g_lsN (ls' := [_, _, _, _, _, _, _, _, _]) rfl ?_
          exact J167 0 (Nat.zero_le _)
        ·
          refine g_iload (n := 96) dX9_shirkers_94 rfl rfl ?_
          refine g_aload_n (n := 97) dX9_shirkers_96 rfl rfl ?_
          refine g_get (n := 100) fl_X9_13 dX9_shirkers_97 rfl rfl rfl ?_
          refine g_iconst (v := nI 1) (n := 101) dX9_shirkers_100 (by decide) rfl ?_
          refine g_ialdN (n := 102) dX9_shirkers_101 rfl rfl (by decide) (by omega) ?_
          refine g_top (tk_1 _) ?_
          refine g_icmp_ge (tgt := 147) (n := 105) dX9_shirkers_102 (by decide) rfl (fun c102 => absurd c102 (nI_ge hf (by omega))) (fun c102 => ?_)
          refine g_iload (n := 107) dX9_shirkers_105 rfl rfl ?_
          refine g_iload_n (n := 108) dX9_shirkers_107 rfl rfl ?_
          refine g_iload (n := 110) dX9_shirkers_108 rfl rfl ?_
          refine g_callSi (n := 113) cs_X9_94 (t_X9_has l _ _) dX9_shirkers_110 rfl rfl ⟨by decide, by decide, rfl, rfl, hz.1, hz.2⟩ rfl (Nat.le_of_ble_eq_true rfl) rfl ?_
          refine g_if_ne (tgt := 120) (n := 116) dX9_shirkers_113 (by decide) rfl (fun c113 => ?_) (fun c113 => ?_)
          ·
            have a1 := bI_n0.mp c113
            refine g_iload (n := 122) dX9_shirkers_120 rfl rfl ?_
            refine g_iload (n := 124) dX9_shirkers_122 rfl rfl ?_
            refine g_callSi (n := 127) cs_X9_94 (t_X9_has l _ _) dX9_shirkers_124 rfl rfl ⟨by decide, by decide, rfl, rfl, hz.1, hz.2⟩ rfl (Nat.le_of_ble_eq_true rfl) rfl ?_
            refine g_if_eq (tgt := 134) (n := 130) dX9_shirkers_127 (by decide) rfl (fun c127 => ?_) (fun c127 => ?_)
            ·
              have e2 : itM x (sup S) t (f + 1) = itM x (sup S) t f * (10 - x) := by rw [itM, a1, bI_0.mp c127]; rfl
              rw [e2] at ih2
              refine g_bipush (v := nI 10) (n := 136) dX9_shirkers_134 (by decide) rfl ?_
              refine g_iload_n (n := 137) dX9_shirkers_136 rfl rfl ?_
              refine g_isubN (n := 138) dX9_shirkers_137 rfl hx ?_
              refine g_imulN (n := 139) dX9_shirkers_138 rfl ?_
              refine g_istore (n := 141) dX9_shirkers_139 (by decide) rfl rfl ?_
              refine g_lsN (ls' := [_, _, _, _, _, _, _, _, _]) rfl ?_
              refine g_iincN (k := 1) (n := 144) dX9_shirkers_141 rfl (by decide) rfl rfl ?_
              refine g_lsN (ls' := [_, _, _, _, _, _, _, _, _]) rfl ?_
              refine g_goto (tgt := 94) dX9_shirkers_144 (by decide) ?_
              exact ih2
            ·
              have e2 : itM x (sup S) t (f + 1) = itM x (sup S) t f * x := by rw [itM, a1, bI_n0.mp c127]; rfl
              rw [e2] at ih2
              refine g_iload_n (n := 131) dX9_shirkers_130 rfl rfl ?_
              refine g_goto (tgt := 138) dX9_shirkers_131 (by decide) ?_
              refine g_imulN (n := 139) dX9_shirkers_138 rfl ?_
              refine g_istore (n := 141) dX9_shirkers_139 (by decide) rfl rfl ?_
              refine g_lsN (ls' := [_, _, _, _, _, _, _, _, _]) rfl ?_
              refine g_iincN (k := 1) (n := 144) dX9_shirkers_141 rfl (by decide) rfl rfl ?_
              refine g_lsN (ls' := [_, _, _, _, _, _, _, _, _]) rfl ?_
              refine g_goto (tgt := 94) dX9_shirkers_144 (by decide) ?_
              exact ih2
          ·
            have e2 : itM x (sup S) t (f + 1) = itM x (sup S) t f * 1 := by rw [itM, bI_0.mp c113]; rfl
            rw [e2] at ih2
            refine g_iconst (v := nI 1) (n := 117) dX9_shirkers_116 (by decide) rfl ?_
            refine g_goto (tgt := 138) dX9_shirkers_117 (by decide) ?_
            refine g_imulN (n := 139) dX9_shirkers_138 rfl ?_
            refine g_istore (n := 141) dX9_shirkers_139 (by decide) rfl rfl ?_
            refine g_lsN (ls' := [_, _, _, _, _, _, _, _, _]) rfl ?_
            refine g_iincN (k := 1) (n := 144) dX9_shirkers_141 rfl (by decide) rfl rfl ?_
            refine g_lsN (ls' := [_, _, _, _, _, _, _, _, _]) rfl ?_
            refine g_goto (tgt := 94) dX9_shirkers_144 (by decide) ?_
            exact ih2
      refine g_iconst (v := nI 1) (n := 89) dX9_shirkers_88 (by decide) rfl ?_
      refine g_istore (n := 91) dX9_shirkers_89 (by decide) rfl rfl ?_
      refine g_lsN (ls' := [_, _, _, _, _, _, _, _, _]) rfl ?_
      refine g_iconst (v := nI 0) (n := 92) dX9_shirkers_91 (by decide) rfl ?_
      refine g_istore (n := 94) dX9_shirkers_92 (by decide) rfl rfl ?_
      refine g_lsN (ls' := [_, _, _, _, _, _, _, _, _]) rfl ?_
      exact J94 0 (Nat.zero_le _)
set_option maxRecDepth 20000 in
theorem lp1_X9_shirkers (l : Launch) (z : Nat × Nat × Nat) (hz : z.2.1 ≤ 0 ∧ z.2.2 ≤ 0) (Q : Option Value → List va_E → Prop) (e : MR) (V : WT) (S : ST) (hV : okV V) (hS : okZ S) (x : Nat) (hx : x ≤ 10) (wh : Nat) (hwh : wh < 2) (hbe : 1 ≤ (beM S) ∧ (beM S) ≤ 100000000) (hQ : Q (some (.int (if wh = 0 then nI ((abM V S x (2 ^ vnf V)) / Nat.gcd (abM V S x (2 ^ vnf V)) (beM S)) else nI ((beM S) / Nat.gcd (abM V S x (2 ^ vnf V)) (beM S))))) (mw (sAs e (pk S)) (tk V) (pk S))) : ∀ k, k ≤ onN (sup S) 8 → G l M_X9_shirkers z Q 41 [some (.ref 0), some (.int (nI x)), some (.int (nI wh)), some (.int (sup S)), some (.int (nI 0)), some (.int (nI (10 ^ k))), some (.int (nI k)), none, none] [] (mw (sAs e (pk S)) (tk V) (pk S)) := by
  have hV1 := hV.1
  have hV2 := hV.2.1
  have hV3 := hV.2.2
  have hle := onN_le (sup S) 8
  refine loopN (onN (sup S) 8) ?_ (fun k hk ih => ?_)
  ·
    refine g_iload (n := 43) dX9_shirkers_41 rfl rfl ?_
    refine g_iload_n (n := 44) dX9_shirkers_43 rfl rfl ?_
    refine g_callSi (n := 47) cs_X9_161 (t_X9_ones l _) dX9_shirkers_44 rfl rfl ⟨by decide, by decide, rfl, rfl, hz.1, hz.2⟩ rfl (Nat.le_of_ble_eq_true rfl) rfl ?_
    refine g_top (on_nat _ 8 (by decide)) ?_
    refine g_icmp_ge (tgt := 63) (n := 50) dX9_shirkers_47 (by decide) rfl (fun c47 => ?_) (fun c47 => absurd (nI_le (Nat.le_refl _) (by omega)) c47)
    refine g_iconst (v := nI 0) (n := 64) dX9_shirkers_63 (by decide) rfl ?_
    refine g_istore (n := 66) dX9_shirkers_64 (by decide) rfl rfl ?_
    refine g_lsN (ls' := [_, _, _, _, _, _, _, _, _]) rfl ?_
    exact lp2_X9_shirkers l z hz Q e V S hV hS x hx wh hwh hbe hQ 0 (Nat.zero_le _) _ _
  ·
    have hp10 := (by decide +kernel : ∀ c, c ≤ 8 → 10 ^ c ≤ 100000000) k (by omega)
    rw [Nat.pow_succ] at ih
    refine g_iload (n := 43) dX9_shirkers_41 rfl rfl ?_
    refine g_iload_n (n := 44) dX9_shirkers_43 rfl rfl ?_
    refine g_callSi (n := 47) cs_X9_161 (t_X9_ones l _) dX9_shirkers_44 rfl rfl ⟨by decide, by decide, rfl, rfl, hz.1, hz.2⟩ rfl (Nat.le_of_ble_eq_true rfl) rfl ?_
    refine g_top (on_nat _ 8 (by decide)) ?_
    refine g_icmp_ge (tgt := 63) (n := 50) dX9_shirkers_47 (by decide) rfl (fun c47 => absurd c47 (nI_ge hk (by omega))) (fun c47 => ?_)
    refine g_iload (n := 52) dX9_shirkers_50 rfl rfl ?_
    refine g_bipush (v := nI 10) (n := 54) dX9_shirkers_52 (by decide) rfl ?_
    refine g_imulN (n := 55) dX9_shirkers_54 rfl ?_
    refine g_istore (n := 57) dX9_shirkers_55 (by decide) rfl rfl ?_
    refine g_lsN (ls' := [_, _, _, _, _, _, _, _, _]) rfl ?_
    refine g_iincN (k := 1) (n := 60) dX9_shirkers_57 rfl (by decide) rfl rfl ?_
    refine g_lsN (ls' := [_, _, _, _, _, _, _, _, _]) rfl ?_
    refine g_goto (tgt := 41) dX9_shirkers_60 (by decide) ?_
    exact ih
theorem beM_ok (S : ST) : 1 ≤ beM S ∧ beM S ≤ 100000000 := (by decide +kernel : ∀ c, c ≤ 8 → 1 ≤ 10 ^ c ∧ 10 ^ c ≤ 100000000) _ (onN_le (sup S) 8)
set_option maxRecDepth 20000 in
theorem t_X9_shirkers_bad1 (l : Launch) (e : MR) (V : WT) (S : ST) (hV : okV V) (x y : Int32) (h : inB x (nI 0) (nI 10) = false) : Fn l M_X9_shirkers [.ref 0, .int x, .int y] (mw e (tk V) (pk S)) (some (.int (-1))) (mw e (tk V) (pk S)) := by
  have hV1 := hV.1
  have hV2 := hV.2.1
  have hV3 := hV.2.2
  refine con_of rfl rfl (Nat.le_of_ble_eq_true rfl) ?_
  refine g_lsN (ls' := [_, _, _, _, _, _, _, _, _]) rfl ?_
  refine g_iload_n (n := 1) dX9_shirkers_0 rfl rfl ?_
  refine g_iconst (v := nI 0) (n := 2) dX9_shirkers_1 (by decide) rfl ?_
  refine g_bipush (v := nI 10) (n := 4) dX9_shirkers_2 (by decide) rfl ?_
  refine g_callSi (n := 7) cs_X9_52 (t_X9_in l _ _ _) dX9_shirkers_4 rfl rfl ⟨by decide, by decide, rfl, rfl, Nat.zero_le _, Nat.zero_le _⟩ rfl (Nat.le_of_ble_eq_true rfl) rfl ?_
  refine g_if_eq (tgt := 19) (n := 10) dX9_shirkers_7 (by decide) rfl (fun c7 => ?_) (fun c7 => absurd (bI_0.mpr h) c7)
  refine g_iconst (v := (-1)) (n := 20) dX9_shirkers_19 (by decide) rfl ?_
  exact g_iret (ty := .int) dX9_shirkers_20 rfl rfl ⟨Nat.zero_le _, Nat.zero_le _⟩ ⟨rfl, rfl⟩
set_option maxRecDepth 20000 in
theorem t_X9_shirkers_bad2 (l : Launch) (e : MR) (V : WT) (S : ST) (hV : okV V) (x y : Int32) (h : inB x (nI 0) (nI 10) = true) (h2 : inB y (nI 0) (nI 1) = false) : Fn l M_X9_shirkers [.ref 0, .int x, .int y] (mw e (tk V) (pk S)) (some (.int (-1))) (mw e (tk V) (pk S)) := by
  have hV1 := hV.1
  have hV2 := hV.2.1
  have hV3 := hV.2.2
  refine con_of rfl rfl (Nat.le_of_ble_eq_true rfl) ?_
  refine g_lsN (ls' := [_, _, _, _, _, _, _, _, _]) rfl ?_
  refine g_iload_n (n := 1) dX9_shirkers_0 rfl rfl ?_
  refine g_iconst (v := nI 0) (n := 2) dX9_shirkers_1 (by decide) rfl ?_
  refine g_bipush (v := nI 10) (n := 4) dX9_shirkers_2 (by decide) rfl ?_
  refine g_callSi (n := 7) cs_X9_52 (t_X9_in l _ _ _) dX9_shirkers_4 rfl rfl ⟨by decide, by decide, rfl, rfl, Nat.zero_le _, Nat.zero_le _⟩ rfl (Nat.le_of_ble_eq_true rfl) rfl ?_
  refine g_if_eq (tgt := 19) (n := 10) dX9_shirkers_7 (by decide) rfl (fun c7 => absurd c7 (bI_n0.mpr h)) (fun c7 => ?_)
  refine g_iload_n (n := 11) dX9_shirkers_10 rfl rfl ?_
  refine g_iconst (v := nI 0) (n := 12) dX9_shirkers_11 (by decide) rfl ?_
  refine g_iconst (v := nI 1) (n := 13) dX9_shirkers_12 (by decide) rfl ?_
  refine g_callSi (n := 16) cs_X9_52 (t_X9_in l _ _ _) dX9_shirkers_13 rfl rfl ⟨by decide, by decide, rfl, rfl, Nat.zero_le _, Nat.zero_le _⟩ rfl (Nat.le_of_ble_eq_true rfl) rfl ?_
  refine g_if_ne (tgt := 21) (n := 19) dX9_shirkers_16 (by decide) rfl (fun c16 => absurd (bI_0.mpr h2) c16) (fun c16 => ?_)
  refine g_iconst (v := (-1)) (n := 20) dX9_shirkers_19 (by decide) rfl ?_
  exact g_iret (ty := .int) dX9_shirkers_20 rfl rfl ⟨Nat.zero_le _, Nat.zero_le _⟩ ⟨rfl, rfl⟩
set_option maxRecDepth 20000 in
theorem t_X9_shirkers_ok (l : Launch) (e : MR) (V : WT) (S : ST) (hV : okV V) (hS : okZ S) (ha : ∀ j, 23 ≤ j → eAs e j = 0) (x : Nat) (hx : x ≤ 10) (h : inB (nI x) (nI 0) (nI 10) = true) (wh : Nat) (hwh : wh < 2) : Fn l M_X9_shirkers [.ref 0, .int (nI x), .int (nI wh)] (mw e (tk V) (pk S)) (some (.int (if wh = 0 then nI ((abM V S x (2 ^ vnf V)) / Nat.gcd (abM V S x (2 ^ vnf V)) (beM S)) else nI ((beM S) / Nat.gcd (abM V S x (2 ^ vnf V)) (beM S))))) (mw (sAs e (pk S)) (tk V) (pk S)) := by
  have hV1 := hV.1
  have hV2 := hV.2.1
  have hV3 := hV.2.2
  refine con_of rfl rfl (Nat.le_of_ble_eq_true rfl) ?_
  refine g_lsN (ls' := [_, _, _, _, _, _, _, _, _]) rfl ?_
  refine g_iload_n (n := 1) dX9_shirkers_0 rfl rfl ?_
  refine g_iconst (v := nI 0) (n := 2) dX9_shirkers_1 (by decide) rfl ?_
  refine g_bipush (v := nI 10) (n := 4) dX9_shirkers_2 (by decide) rfl ?_
  refine g_callSi (n := 7) cs_X9_52 (t_X9_in l _ _ _) dX9_shirkers_4 rfl rfl ⟨by decide, by decide, rfl, rfl, Nat.zero_le _, Nat.zero_le _⟩ rfl (Nat.le_of_ble_eq_true rfl) rfl ?_
  refine g_if_eq (tgt := 19) (n := 10) dX9_shirkers_7 (by decide) rfl (fun c7 => absurd c7 (bI_n0.mpr h)) (fun c7 => ?_)
  refine g_iload_n (n := 11) dX9_shirkers_10 rfl rfl ?_
  refine g_iconst (v := nI 0) (n := 12) dX9_shirkers_11 (by decide) rfl ?_
  refine g_iconst (v := nI 1) (n := 13) dX9_shirkers_12 (by decide) rfl ?_
  refine g_callSi (n := 16) cs_X9_52 (t_X9_in l _ _ _) dX9_shirkers_13 rfl rfl ⟨by decide, by decide, rfl, rfl, Nat.zero_le _, Nat.zero_le _⟩ rfl (Nat.le_of_ble_eq_true rfl) rfl ?_
  refine g_if_ne (tgt := 21) (n := 19) dX9_shirkers_16 (by decide) rfl (fun c16 => ?_) (fun c16 => absurd c16 (bI_n0.mpr (show inB (nI wh) (nI 0) (nI 1) = true by rcases (show wh = 0 ∨ wh = 1 by omega) with rfl | rfl <;> decide)))
  refine g_aload_n (n := 22) dX9_shirkers_21 rfl rfl ?_
  refine g_callWv (n := 25) cv_X9_146 (t_X9_holds l _ _ _ hS ha) dX9_shirkers_22 rfl ⟨by decide, by decide, rfl, rfl, Nat.zero_le _, Nat.zero_le _⟩ rfl rfl rfl (Nat.le_of_ble_eq_true rfl) rfl rfl ?_
  refine g_aload_n (n := 26) dX9_shirkers_25 rfl rfl ?_
  refine g_get (n := 29) fl_X9_22 dX9_shirkers_26 rfl rfl rfl ?_
  refine g_iconst (v := nI 1) (n := 30) dX9_shirkers_29 (by decide) rfl ?_
  refine g_ialdN (n := 31) dX9_shirkers_30 rfl rfl (by decide) (by omega) ?_
  refine g_top (sk_1 _) ?_
  refine g_istore_n (n := 32) dX9_shirkers_31 (by decide) rfl rfl ?_
  refine g_lsN (ls' := [_, _, _, _, _, _, _, _, _]) rfl ?_
  refine g_iconst (v := nI 0) (n := 33) dX9_shirkers_32 (by decide) rfl ?_
  refine g_istore (n := 35) dX9_shirkers_33 (by decide) rfl rfl ?_
  refine g_lsN (ls' := [_, _, _, _, _, _, _, _, _]) rfl ?_
  refine g_iconst (v := nI 1) (n := 36) dX9_shirkers_35 (by decide) rfl ?_
  refine g_istore (n := 38) dX9_shirkers_36 (by decide) rfl rfl ?_
  refine g_lsN (ls' := [_, _, _, _, _, _, _, _, _]) rfl ?_
  refine g_iconst (v := nI 0) (n := 39) dX9_shirkers_38 (by decide) rfl ?_
  refine g_istore (n := 41) dX9_shirkers_39 (by decide) rfl rfl ?_
  refine g_lsN (ls' := [_, _, _, _, _, _, _, _, _]) rfl ?_
  exact lp1_X9_shirkers l _ ⟨Nat.zero_le _, Nat.zero_le _⟩ _ e V S hV hS x hx wh hwh (beM_ok S) ⟨rfl, rfl⟩ 0 (Nat.zero_le _)

/-! 36.cstrong: the class's walls copied; strong, knees -/
/-- nothing beyond a wall's rows -/
def okY (V : WT) (fb : Nat → Int32) : Prop := (∀ j, 8 ≤ j → vth V j = 0) ∧ (∀ j, 8 ≤ j → vpa V j = 0) ∧ (∀ j, 6 ≤ j → vki V j = 0) ∧ (∀ j, 6 ≤ j → vsg V j = 0) ∧ (∀ j, 6 ≤ j → fb j = 0) ∧ (∀ j, 6 ≤ j → vkn V j = 0)
theorem okY_sg {V : WT} {fb : Nat → Int32} {f : Nat} (x : Int32) (hf : f < 6) (h : okY V fb) : okY (vSg V f x) fb := ⟨h.1, h.2.1, h.2.2.1, upd_z hf h.2.2.2.1, h.2.2.2.2.1, h.2.2.2.2.2⟩
theorem okY_kn {V : WT} {fb : Nat → Int32} {f : Nat} (x : Int32) (hf : f < 6) (h : okY V fb) : okY (vKn V f x) fb := ⟨h.1, h.2.1, h.2.2.1, h.2.2.2.1, h.2.2.2.2.1, upd_z hf h.2.2.2.2.2⟩
abbrev ww (U : WT) (un : Int32) (ub : Nat → Int32) (V : WT) (dn : Int32) (fb : Nat → Int32) : List va_E := [wo U un 0, a8 (vth U), a8 (vpa U), a6 (vki U), a6 (vsg U), a6 ub, a6 (vkn U), wo V dn 7, a8 (vth V), a8 (vpa V), a6 (vki V), a6 (vsg V), a6 fb, a6 (vkn V)]

set_option maxRecDepth 20000 in
theorem t_X7_takeFrom (l : Launch) (U : WT) (un : Int32) (ub : Nat → Int32) (V : WT) (dn : Int32) (fb : Nat → Int32) (h1 : okY U ub) (h2 : okY V fb) : Fn l M_X7_takeFrom [.ref 0, .ref 7] (ww U un ub V dn fb) none (ww V dn fb V dn fb) := by
  refine con_of rfl rfl (Nat.le_of_ble_eq_true rfl) ?_
  refine g_lsN (ls' := [_, _]) rfl ?_
  refine g_aload_n (n := 1) dX7_takeFrom_0 rfl rfl ?_
  refine g_aload_n (n := 2) dX7_takeFrom_1 rfl rfl ?_
  refine g_get (n := 5) fl_X7_30 dX7_takeFrom_2 rfl rfl rfl ?_
  refine g_put (n := 8) pf_X7_30 dX7_takeFrom_5 rfl (Nat.le_of_ble_eq_true rfl) (fun _ => rfl) (fun _ => rfl) rfl ?_
  refine g_wN (w' := [_, _, _, _, _, _, _, _, _, _, _, _, _, _]) rfl ?_
  refine g_aload_n (n := 9) dX7_takeFrom_8 rfl rfl ?_
  refine g_aload_n (n := 10) dX7_takeFrom_9 rfl rfl ?_
  refine g_get (n := 13) fl_X7_34 dX7_takeFrom_10 rfl rfl rfl ?_
  refine g_put (n := 16) pf_X7_34 dX7_takeFrom_13 rfl (Nat.le_of_ble_eq_true rfl) (fun _ => rfl) (fun _ => rfl) rfl ?_
  refine g_wN (w' := [_, _, _, _, _, _, _, _, _, _, _, _, _, _]) rfl ?_
  refine g_aload_n (n := 17) dX7_takeFrom_16 rfl rfl ?_
  refine g_aload_n (n := 18) dX7_takeFrom_17 rfl rfl ?_
  refine g_get (n := 21) fl_X7_37 dX7_takeFrom_18 rfl rfl rfl ?_
  refine g_put (n := 24) pf_X7_37 dX7_takeFrom_21 rfl (Nat.le_of_ble_eq_true rfl) (fun _ => rfl) (fun _ => rfl) rfl ?_
  refine g_wN (w' := [_, _, _, _, _, _, _, _, _, _, _, _, _, _]) rfl ?_
  refine g_aload_n (n := 25) dX7_takeFrom_24 rfl rfl ?_
  refine g_aload_n (n := 26) dX7_takeFrom_25 rfl rfl ?_
  refine g_get (n := 29) fl_X7_40 dX7_takeFrom_26 rfl rfl rfl ?_
  refine g_put (n := 32) pf_X7_40 dX7_takeFrom_29 rfl (Nat.le_of_ble_eq_true rfl) (fun _ => rfl) (fun _ => rfl) rfl ?_
  refine g_wN (w' := [_, _, _, _, _, _, _, _, _, _, _, _, _, _]) rfl ?_
  refine g_aload_n (n := 33) dX7_takeFrom_32 rfl rfl ?_
  refine g_aload_n (n := 34) dX7_takeFrom_33 rfl rfl ?_
  refine g_get (n := 37) fl_X7_43 dX7_takeFrom_34 rfl rfl rfl ?_
  refine g_put (n := 40) pf_X7_43 dX7_takeFrom_37 rfl (Nat.le_of_ble_eq_true rfl) (fun _ => rfl) (fun _ => rfl) rfl ?_
  refine g_wN (w' := [_, _, _, _, _, _, _, _, _, _, _, _, _, _]) rfl ?_
  refine g_aload_n (n := 41) dX7_takeFrom_40 rfl rfl ?_
  refine g_get (n := 44) fl_X7_9 dX7_takeFrom_41 rfl rfl rfl ?_
  refine g_iconst (v := nI 0) (n := 45) dX7_takeFrom_44 (by decide) rfl ?_
  refine g_aload_n (n := 46) dX7_takeFrom_45 rfl rfl ?_
  refine g_get (n := 49) fl_X7_9 dX7_takeFrom_46 rfl rfl rfl ?_
  refine g_iconst (v := nI 0) (n := 50) dX7_takeFrom_49 (by decide) rfl ?_
  refine g_bipush (v := nI 8) (n := 52) dX7_takeFrom_50 (by decide) rfl ?_
  refine g_copy (n := 55) dX7_takeFrom_52 lk_X7_46 lw_acn lw_acs lw_sys (by decide) (Nat.le_of_ble_eq_true rfl) rfl rfl (by decide) (by decide) (by decide) (by decide) rfl ?_
  refine g_wN (w' := [_, _, _, _, _, _, _, _, _, _, _, _, _, _]) rfl ?_
  rw [cpy_n 8 (zz_eq h2.1 h1.1)]
  refine g_aload_n (n := 56) dX7_takeFrom_55 rfl rfl ?_
  refine g_get (n := 59) fl_X7_15 dX7_takeFrom_56 rfl rfl rfl ?_
  refine g_iconst (v := nI 0) (n := 60) dX7_takeFrom_59 (by decide) rfl ?_
  refine g_aload_n (n := 61) dX7_takeFrom_60 rfl rfl ?_
  refine g_get (n := 64) fl_X7_15 dX7_takeFrom_61 rfl rfl rfl ?_
  refine g_iconst (v := nI 0) (n := 65) dX7_takeFrom_64 (by decide) rfl ?_
  refine g_bipush (v := nI 8) (n := 67) dX7_takeFrom_65 (by decide) rfl ?_
  refine g_copy (n := 70) dX7_takeFrom_67 lk_X7_46 lw_acn lw_acs lw_sys (by decide) (Nat.le_of_ble_eq_true rfl) rfl rfl (by decide) (by decide) (by decide) (by decide) rfl ?_
  refine g_wN (w' := [_, _, _, _, _, _, _, _, _, _, _, _, _, _]) rfl ?_
  rw [cpy_n 8 (zz_eq h2.2.1 h1.2.1)]
  refine g_aload_n (n := 71) dX7_takeFrom_70 rfl rfl ?_
  refine g_get (n := 74) fl_X7_18 dX7_takeFrom_71 rfl rfl rfl ?_
  refine g_iconst (v := nI 0) (n := 75) dX7_takeFrom_74 (by decide) rfl ?_
  refine g_aload_n (n := 76) dX7_takeFrom_75 rfl rfl ?_
  refine g_get (n := 79) fl_X7_18 dX7_takeFrom_76 rfl rfl rfl ?_
  refine g_iconst (v := nI 0) (n := 80) dX7_takeFrom_79 (by decide) rfl ?_
  refine g_bipush (v := nI 6) (n := 82) dX7_takeFrom_80 (by decide) rfl ?_
  refine g_copy (n := 85) dX7_takeFrom_82 lk_X7_46 lw_acn lw_acs lw_sys (by decide) (Nat.le_of_ble_eq_true rfl) rfl rfl (by decide) (by decide) (by decide) (by decide) rfl ?_
  refine g_wN (w' := [_, _, _, _, _, _, _, _, _, _, _, _, _, _]) rfl ?_
  rw [cpy_n 6 (zz_eq h2.2.2.1 h1.2.2.1)]
  refine g_aload_n (n := 86) dX7_takeFrom_85 rfl rfl ?_
  refine g_get (n := 89) fl_X7_21 dX7_takeFrom_86 rfl rfl rfl ?_
  refine g_iconst (v := nI 0) (n := 90) dX7_takeFrom_89 (by decide) rfl ?_
  refine g_aload_n (n := 91) dX7_takeFrom_90 rfl rfl ?_
  refine g_get (n := 94) fl_X7_21 dX7_takeFrom_91 rfl rfl rfl ?_
  refine g_iconst (v := nI 0) (n := 95) dX7_takeFrom_94 (by decide) rfl ?_
  refine g_bipush (v := nI 6) (n := 97) dX7_takeFrom_95 (by decide) rfl ?_
  refine g_copy (n := 100) dX7_takeFrom_97 lk_X7_46 lw_acn lw_acs lw_sys (by decide) (Nat.le_of_ble_eq_true rfl) rfl rfl (by decide) (by decide) (by decide) (by decide) rfl ?_
  refine g_wN (w' := [_, _, _, _, _, _, _, _, _, _, _, _, _, _]) rfl ?_
  rw [cpy_n 6 (zz_eq h2.2.2.2.1 h1.2.2.2.1)]
  refine g_aload_n (n := 101) dX7_takeFrom_100 rfl rfl ?_
  refine g_get (n := 104) fl_X7_24 dX7_takeFrom_101 rfl rfl rfl ?_
  refine g_iconst (v := nI 0) (n := 105) dX7_takeFrom_104 (by decide) rfl ?_
  refine g_aload_n (n := 106) dX7_takeFrom_105 rfl rfl ?_
  refine g_get (n := 109) fl_X7_24 dX7_takeFrom_106 rfl rfl rfl ?_
  refine g_iconst (v := nI 0) (n := 110) dX7_takeFrom_109 (by decide) rfl ?_
  refine g_bipush (v := nI 6) (n := 112) dX7_takeFrom_110 (by decide) rfl ?_
  refine g_copy (n := 115) dX7_takeFrom_112 lk_X7_46 lw_acn lw_acs lw_sys (by decide) (Nat.le_of_ble_eq_true rfl) rfl rfl (by decide) (by decide) (by decide) (by decide) rfl ?_
  refine g_wN (w' := [_, _, _, _, _, _, _, _, _, _, _, _, _, _]) rfl ?_
  rw [cpy_n 6 (zz_eq h2.2.2.2.2.1 h1.2.2.2.2.1)]
  refine g_aload_n (n := 116) dX7_takeFrom_115 rfl rfl ?_
  refine g_get (n := 119) fl_X7_27 dX7_takeFrom_116 rfl rfl rfl ?_
  refine g_iconst (v := nI 0) (n := 120) dX7_takeFrom_119 (by decide) rfl ?_
  refine g_aload_n (n := 121) dX7_takeFrom_120 rfl rfl ?_
  refine g_get (n := 124) fl_X7_27 dX7_takeFrom_121 rfl rfl rfl ?_
  refine g_iconst (v := nI 0) (n := 125) dX7_takeFrom_124 (by decide) rfl ?_
  refine g_bipush (v := nI 6) (n := 127) dX7_takeFrom_125 (by decide) rfl ?_
  refine g_copy (n := 130) dX7_takeFrom_127 lk_X7_46 lw_acn lw_acs lw_sys (by decide) (Nat.le_of_ble_eq_true rfl) rfl rfl (by decide) (by decide) (by decide) (by decide) rfl ?_
  refine g_wN (w' := [_, _, _, _, _, _, _, _, _, _, _, _, _, _]) rfl ?_
  rw [cpy_n 6 (zz_eq h2.2.2.2.2.2 h1.2.2.2.2.2)]
  exact g_vret dX7_takeFrom_130 rfl ⟨Nat.zero_le _, Nat.zero_le _⟩ ⟨rfl, rfl⟩
set_option maxRecDepth 20000 in
theorem t_X8_standsWithStrength (l : Launch) (fell : Int32) (T : ST) (hT : okZ T) (ra lo pr rb lb pb : Nat → Int32) (kc : Int32) (S : ST) (V : WT) (hV : okV V) (dn : Int32) (fb : Nat → Int32) (a : Nat) (ha : a + 100 < 2 ^ 31) (hS : okS V S a) (hYV : okY V fb) (f : Nat) (hf : f < vnf V) (x : Int32) (v : Nat) : Con l M_X8_standsWithStrength [.ref 0, .int (nI f), .int (nI v)] (xa fell T ra lo pr rb lb pb kc S V dn fb (vSg V f x) dn fb) (fun r u => r = some (.int (nI (sgK V S f v))) ∧ ∃ fell T ra lo pr rb lb pb, okZ T ∧ u = xa fell T ra lo pr rb lb pb kc S V dn fb (vSg V f (nI v)) dn fb) := by
  have hV1 := hV.1
  have hV2 := hV.2.1
  have hV3 := hV.2.2
  refine con_of rfl rfl (Nat.le_of_ble_eq_true rfl) ?_
  refine g_lsN (ls' := [_, _, _]) rfl ?_
  refine g_aload_n (n := 1) dX8_standsWithStrength_0 rfl rfl ?_
  refine g_get (n := 4) fl_X8_69 dX8_standsWithStrength_1 rfl rfl rfl ?_
  refine g_get (n := 7) fl_X8_122 dX8_standsWithStrength_4 rfl rfl rfl ?_
  refine g_iload_n (n := 8) dX8_standsWithStrength_7 rfl rfl ?_
  refine g_iload_n (n := 9) dX8_standsWithStrength_8 rfl rfl ?_
  refine g_iastN (n := 10) dX8_standsWithStrength_9 rfl rfl (by decide) (by omega) ?_
  refine g_wN (w' := [_, _, _, _, _, _, _, _, _, _, _, _, _, _, _, _, _, _, _, _, _, _, _, _, _, _, _, _, _, _, _, _]) rfl ?_
  rw [upd_upd]
  refine g_aload_n (n := 11) dX8_standsWithStrength_10 rfl rfl ?_
  refine g_get (n := 14) fl_X8_33 dX8_standsWithStrength_11 rfl rfl rfl ?_
  refine g_aload_n (n := 15) dX8_standsWithStrength_14 rfl rfl ?_
  refine g_get (n := 18) fl_X8_47 dX8_standsWithStrength_15 rfl rfl rfl ?_
  refine g_cutVv (ps := [1, 2, 3, 4, 5, 10, 11, 12, 13, 6]) (w' := [_, _, _, _, _, _, _, _, _, _, _, _, _, _, _, _, _, _, _, _, _, _, _, _, _, _, _, _, _, _, _, _]) (n := 21) cv_X8_176 (t_X6_startFrom l _ _ S hT hS.1) dX8_standsWithStrength_18 rfl rfl rfl ⟨by decide, by decide, rfl, rfl, Nat.zero_le _, Nat.zero_le _⟩ rfl rfl rfl (Nat.le_of_ble_eq_true rfl) rfl rfl rfl ?_
  refine g_aload_n (n := 22) dX8_standsWithStrength_21 rfl rfl ?_
  refine g_get (n := 25) fl_X8_33 dX8_standsWithStrength_22 rfl rfl rfl ?_
  refine g_aload_n (n := 26) dX8_standsWithStrength_25 rfl rfl ?_
  refine g_get (n := 29) fl_X8_69 dX8_standsWithStrength_26 rfl rfl rfl ?_
  refine g_cutV (ps := [1, 2, 3, 4, 5, 6, 7, 8, 9, 25, 26, 27, 28, 29, 30, 31]) (n := 32) cv_X8_297 (t_X6_standsFor l (vSg V f (nI v)) hV dn fb S _ _ _ _ a (by omega) hS) dX8_standsWithStrength_29 rfl rfl rfl ⟨by decide, by decide, rfl, rfl, Nat.zero_le _, Nat.zero_le _⟩ rfl rfl rfl (Nat.le_of_ble_eq_true rfl) rfl (fun r cw29 hq29 => ?_)
  obtain ⟨rfl, fell2, T2, ra2, lo2, pr2, hT2, rfl⟩ := hq29
  refine ⟨rfl, ?_⟩
  refine g_stN (st' := .int _ :: []) rfl ?_
  refine g_wN (w' := [_, _, _, _, _, _, _, _, _, _, _, _, _, _, _, _, _, _, _, _, _, _, _, _, _, _, _, _, _, _, _, _]) rfl ?_
  exact g_iret (ty := .int) dX8_standsWithStrength_32 rfl rfl ⟨Nat.zero_le _, Nat.zero_le _⟩ ⟨rfl, _, _, _, _, _, _, _, _, hT2, rfl⟩
set_option maxRecDepth 20000 in
theorem t_X8_strong_bad (l : Launch) (fell : Int32) (T : ST) (hT : okZ T) (ra lo pr rb lb pb : Nat → Int32) (kc : Int32) (S : ST) (V : WT) (hV : okV V) (dn : Int32) (fb : Nat → Int32) (U : WT) (un : Int32) (ub : Nat → Int32) (a : Nat) (ha : a + 100 < 2 ^ 31) (hS : okS V S a) (hYU : okY U ub) (hYV : okY V fb) (x : Int32) (h : isB (vnf V) x = false) : Con l M_X8_strong [.ref 0, .int x] (xa fell T ra lo pr rb lb pb kc S V dn fb U un ub) (fun r u => r = some (.int (-1)) ∧ ∃ fell T ra lo pr rb lb pb U un ub, okZ T ∧ okY U ub ∧ u = xa fell T ra lo pr rb lb pb kc S V dn fb U un ub) := by
  refine con_of rfl rfl (Nat.le_of_ble_eq_true rfl) ?_
  refine g_lsN (ls' := [_, _, _, _, _, _, _]) rfl ?_
  refine g_aload_n (n := 1) dX8_strong_0 rfl rfl ?_
  refine g_get (n := 4) fl_X8_65 dX8_strong_1 rfl rfl rfl ?_
  refine g_iload_n (n := 5) dX8_strong_4 rfl rfl ?_
  refine g_cutVi (ps := [14, 15, 16, 17, 18, 19, 20]) (w' := [_, _, _, _, _, _, _, _, _, _, _, _, _, _, _, _, _, _, _, _, _, _, _, _, _, _, _, _, _, _, _, _]) (n := 8) cv_X8_116 (t_X7_hasButtress l V hV dn _) dX8_strong_5 rfl rfl rfl ⟨by decide, by decide, rfl, rfl, Nat.zero_le _, Nat.zero_le _⟩ rfl rfl rfl (Nat.le_of_ble_eq_true rfl) rfl rfl rfl ?_
  refine g_if_ne (tgt := 13) (n := 11) dX8_strong_8 (by decide) rfl (fun c8 => absurd (bI_0.mpr h) c8) (fun c8 => ?_)
  refine g_iconst (v := (-1)) (n := 12) dX8_strong_11 (by decide) rfl ?_
  exact g_iret (ty := .int) dX8_strong_12 rfl rfl ⟨Nat.zero_le _, Nat.zero_le _⟩ ⟨rfl, _, _, _, _, _, _, _, _, _, _, _, hT, hYU, rfl⟩
set_option maxRecDepth 20000 in
theorem lp_X8_strong (l : Launch) (z : Nat × Nat × Nat) (hz : z.2.1 ≤ 0 ∧ z.2.2 ≤ 0) (Q : Option Value → List va_E → Prop) (kc : Int32) (S : ST) (V : WT) (hV : okV V) (dn : Int32) (fb : Nat → Int32) (a : Nat) (ha : a + 100 < 2 ^ 31) (hS : okS V S a) (hYV : okY V fb) (f : Nat) (hf : f < vnf V) (rr : Nat) (hr1 : 1 ≤ rr ∧ rr ≤ 99) (hr3 : ∀ i, 1 ≤ i → i < rr → ¬ sgK V S f i = sgK V S f 99) (hr4 : ∀ i, rr ≤ i → i ≤ 99 → sgK V S f i = sgK V S f 99) (hQ : ∀ fell T ra lo pr rb lb pb U, okZ T → okY U fb → Q (some (.int (nI rr))) (xa fell T ra lo pr rb lb pb kc S V dn fb U dn fb)) : ∀ i, i ≤ 98 → ∀ (le en : Nat) (fell : Int32) (T : ST) (hT : okZ T) (ra lo pr rb lb pb : Nat → Int32) (x : Int32) (o6 : Option Value), (1 ≤ le ∧ le ≤ rr ∧ rr ≤ en ∧ en ≤ 99 ∧ i + (en - le) ≤ 98) → G l M_X8_strong z Q 41 [some (.ref 0), some (.int (nI f)), some (.int (nI (sgK V S f 99))), some (.int (nI le)), some (.int (nI en)), some (.int (nI i)), o6] [] (xa fell T ra lo pr rb lb pb kc S V dn fb (vSg V f x) dn fb) := by
  have hV1 := hV.1
  have hV2 := hV.2.1
  have hV3 := hV.2.2
  refine loopN 98 ?_ (fun i hi ih => ?_)
  ·
    intro le en fell T hT ra lo pr rb lb pb x o6 hI
    refine g_iload (n := 43) dX8_strong_41 rfl rfl ?_
    refine g_bipush (v := nI 99) (n := 45) dX8_strong_43 (by decide) rfl ?_
    refine g_icmp_ge (tgt := 91) (n := 48) dX8_strong_45 (by decide) rfl (fun c45 => absurd c45 (nI_ge (by decide) (by decide))) (fun c45 => ?_)
    refine g_iload_n (n := 49) dX8_strong_48 rfl rfl ?_
    refine g_iload (n := 51) dX8_strong_49 rfl rfl ?_
    refine g_icmp_ge (tgt := 91) (n := 54) dX8_strong_51 (by decide) rfl (fun c51 => ?_) (fun c51 => absurd (nI_le (by omega) (by omega)) c51)
    rw [show en = rr from by omega]
    refine g_iload (n := 93) dX8_strong_91 rfl rfl ?_
    exact g_iret (ty := .int) dX8_strong_93 rfl rfl hz (hQ _ _ _ _ _ _ _ _ _ hT (okY_sg _ (by omega) hYV))
  ·
    intro le en fell T hT ra lo pr rb lb pb x o6 hI
    have hk1 : sgK V S f ((le + en) / 2) ≤ 61 := fk_le _ _ _
    have hk2 : sgK V S f 99 ≤ 61 := fk_le _ _ _
    refine g_iload (n := 43) dX8_strong_41 rfl rfl ?_
    refine g_bipush (v := nI 99) (n := 45) dX8_strong_43 (by decide) rfl ?_
    refine g_icmp_ge (tgt := 91) (n := 48) dX8_strong_45 (by decide) rfl (fun c45 => absurd c45 (nI_ge (by omega) (by decide))) (fun c45 => ?_)
    refine g_iload_n (n := 49) dX8_strong_48 rfl rfl ?_
    refine g_iload (n := 51) dX8_strong_49 rfl rfl ?_
    refine g_icmp_ge (tgt := 91) (n := 54) dX8_strong_51 (by decide) rfl (fun c51 => ?_) (fun c51 => ?_)
    ·
      have h5 : en ≤ le := (nI_leI (by omega) (by omega)).mp c51
      rw [show en = rr from by omega]
      refine g_iload (n := 93) dX8_strong_91 rfl rfl ?_
      exact g_iret (ty := .int) dX8_strong_93 rfl rfl hz (hQ _ _ _ _ _ _ _ _ _ hT (okY_sg _ (by omega) hYV))
    ·
      have h5 : le < en := Nat.lt_of_not_le (fun q => c51 (nI_le q (by omega)))
      refine g_iload_n (n := 55) dX8_strong_54 rfl rfl ?_
      refine g_iload (n := 57) dX8_strong_55 rfl rfl ?_
      refine g_iaddN (n := 58) dX8_strong_57 rfl ?_
      refine g_iconst (v := nI 2) (n := 59) dX8_strong_58 (by decide) rfl ?_
      refine g_idiv (n := 60) dX8_strong_59 (by decide) rfl ?_
      refine g_top (pk_div (by omega) (by decide) (by decide)) ?_
      refine g_istore (n := 62) dX8_strong_60 (by decide) rfl rfl ?_
      refine g_lsN (ls' := [_, _, _, _, _, _, _]) rfl ?_
      refine g_aload_n (n := 63) dX8_strong_62 rfl rfl ?_
      refine g_iload_n (n := 64) dX8_strong_63 rfl rfl ?_
      refine g_iload (n := 66) dX8_strong_64 rfl rfl ?_
      refine g_callW (n := 69) cv_X8_225 (t_X8_standsWithStrength l fell T hT ra lo pr rb lb pb kc S V hV dn fb a ha hS hYV f hf _ ((le + en) / 2)) dX8_strong_66 rfl ⟨by decide, by decide, rfl, rfl, hz.1, hz.2⟩ rfl rfl rfl (Nat.le_of_ble_eq_true rfl) rfl (fun r cw66 hq66 => ?_)
      obtain ⟨rfl, fell2, T2, ra2, lo2, pr2, rb2, lb2, pb2, hT2, rfl⟩ := hq66
      refine ⟨rfl, ?_⟩
      refine g_stN (st' := .int _ :: []) rfl ?_
      refine g_wN (w' := [_, _, _, _, _, _, _, _, _, _, _, _, _, _, _, _, _, _, _, _, _, _, _, _, _, _, _, _, _, _, _, _]) rfl ?_
      refine g_iload_n (n := 70) dX8_strong_69 rfl rfl ?_
      refine g_icmp_ne (tgt := 80) (n := 73) dX8_strong_70 (by decide) rfl (fun c70 => ?_) (fun c70 => ?_)
      ·
        have h6 : ¬ sgK V S f ((le + en) / 2) = sgK V S f 99 := fun q => c70 (by rw [q])
        have hA : 1 ≤ (le + en) / 2 + 1 ∧ (le + en) / 2 + 1 ≤ rr ∧ rr ≤ en ∧ en ≤ 99 ∧ i + 1 + (en - ((le + en) / 2 + 1)) ≤ 98 := by
          have h7 : ¬ rr ≤ (le + en) / 2 := fun q => h6 (hr4 _ q (by omega))
          omega
        refine g_iload (n := 82) dX8_strong_80 rfl rfl ?_
        refine g_iconst (v := nI 1) (n := 83) dX8_strong_82 (by decide) rfl ?_
        refine g_iaddN (n := 84) dX8_strong_83 rfl ?_
        refine g_istore_n (n := 85) dX8_strong_84 (by decide) rfl rfl ?_
        refine g_lsN (ls' := [_, _, _, _, _, _, _]) rfl ?_
        refine g_iincN (k := 1) (n := 88) dX8_strong_85 rfl (by decide) rfl rfl ?_
        refine g_lsN (ls' := [_, _, _, _, _, _, _]) rfl ?_
        refine g_goto (tgt := 41) dX8_strong_88 (by decide) ?_
        first | exact ih _ _ _ _ hT2 _ _ _ _ _ _ _ _ hA | exact ih _ _ _ _ hT2 _ _ _ _ _ _ _ _ hB
      ·
        have h6 : sgK V S f ((le + en) / 2) = sgK V S f 99 := (nI_eq (by omega) (by omega)).mp c70
        have hB : 1 ≤ le ∧ le ≤ rr ∧ rr ≤ (le + en) / 2 ∧ (le + en) / 2 ≤ 99 ∧ i + 1 + ((le + en) / 2 - le) ≤ 98 := by
          have h7 : rr ≤ (le + en) / 2 := Nat.le_of_not_lt (fun q => hr3 _ (by omega) q h6)
          omega
        refine g_iload (n := 75) dX8_strong_73 rfl rfl ?_
        refine g_istore (n := 77) dX8_strong_75 (by decide) rfl rfl ?_
        refine g_lsN (ls' := [_, _, _, _, _, _, _]) rfl ?_
        refine g_goto (tgt := 85) dX8_strong_77 (by decide) ?_
        refine g_iincN (k := 1) (n := 88) dX8_strong_85 rfl (by decide) rfl rfl ?_
        refine g_lsN (ls' := [_, _, _, _, _, _, _]) rfl ?_
        refine g_goto (tgt := 41) dX8_strong_88 (by decide) ?_
        first | exact ih _ _ _ _ hT2 _ _ _ _ _ _ _ _ hA | exact ih _ _ _ _ hT2 _ _ _ _ _ _ _ _ hB
set_option maxRecDepth 20000 in
theorem t_X8_strong_ok (l : Launch) (fell : Int32) (T : ST) (hT : okZ T) (ra lo pr rb lb pb : Nat → Int32) (kc : Int32) (S : ST) (V : WT) (hV : okV V) (dn : Int32) (fb : Nat → Int32) (U : WT) (un : Int32) (ub : Nat → Int32) (a : Nat) (ha : a + 100 < 2 ^ 31) (hS : okS V S a) (hYU : okY U ub) (hYV : okY V fb) (f : Nat) (hf : f < vnf V) (rr : Nat) (hr1 : 1 ≤ rr ∧ rr ≤ 99) (hr3 : ∀ i, 1 ≤ i → i < rr → ¬ sgK V S f i = sgK V S f 99) (hr4 : ∀ i, rr ≤ i → i ≤ 99 → sgK V S f i = sgK V S f 99) : Con l M_X8_strong [.ref 0, .int (nI f)] (xa fell T ra lo pr rb lb pb kc S V dn fb U un ub) (fun r u => r = some (.int (nI rr)) ∧ ∃ fell T ra lo pr rb lb pb U un ub, okZ T ∧ okY U ub ∧ u = xa fell T ra lo pr rb lb pb kc S V dn fb U un ub) := by
  have hV1 := hV.1
  have hV2 := hV.2.1
  have hV3 := hV.2.2
  refine con_of rfl rfl (Nat.le_of_ble_eq_true rfl) ?_
  refine g_lsN (ls' := [_, _, _, _, _, _, _]) rfl ?_
  refine g_aload_n (n := 1) dX8_strong_0 rfl rfl ?_
  refine g_get (n := 4) fl_X8_65 dX8_strong_1 rfl rfl rfl ?_
  refine g_iload_n (n := 5) dX8_strong_4 rfl rfl ?_
  refine g_cutVi (ps := [14, 15, 16, 17, 18, 19, 20]) (w' := [_, _, _, _, _, _, _, _, _, _, _, _, _, _, _, _, _, _, _, _, _, _, _, _, _, _, _, _, _, _, _, _]) (n := 8) cv_X8_116 (t_X7_hasButtress l V hV dn _) dX8_strong_5 rfl rfl rfl ⟨by decide, by decide, rfl, rfl, Nat.zero_le _, Nat.zero_le _⟩ rfl rfl rfl (Nat.le_of_ble_eq_true rfl) rfl rfl rfl ?_
  refine g_if_ne (tgt := 13) (n := 11) dX8_strong_8 (by decide) rfl (fun c8 => ?_) (fun c8 => absurd c8 (bI_n0.mpr (show isB (vnf V) (nI f) = true by rw [isB_nI (by omega) (by omega)]; exact decide_eq_true hf)))
  refine g_aload_n (n := 14) dX8_strong_13 rfl rfl ?_
  refine g_get (n := 17) fl_X8_69 dX8_strong_14 rfl rfl rfl ?_
  refine g_aload_n (n := 18) dX8_strong_17 rfl rfl ?_
  refine g_get (n := 21) fl_X8_65 dX8_strong_18 rfl rfl rfl ?_
  refine g_cutVv (ps := [25, 26, 27, 28, 29, 30, 31, 14, 15, 16, 17, 18, 19, 20]) (w' := [_, _, _, _, _, _, _, _, _, _, _, _, _, _, _, _, _, _, _, _, _, _, _, _, _, _, _, _, _, _, _, _]) (n := 24) cv_X8_221 (t_X7_takeFrom l U un ub V dn fb hYU hYV) dX8_strong_21 rfl rfl rfl ⟨by decide, by decide, rfl, rfl, Nat.zero_le _, Nat.zero_le _⟩ rfl rfl rfl (Nat.le_of_ble_eq_true rfl) rfl rfl rfl ?_
  refine g_wN (w' := xa fell T ra lo pr rb lb pb kc S V dn fb (vSg V f (vsg V f)) dn fb) (by rw [vSg_self]; rfl) ?_
  refine g_aload_n (n := 25) dX8_strong_24 rfl rfl ?_
  refine g_iload_n (n := 26) dX8_strong_25 rfl rfl ?_
  refine g_bipush (v := nI 99) (n := 28) dX8_strong_26 (by decide) rfl ?_
  refine g_callW (n := 31) cv_X8_225 (t_X8_standsWithStrength l fell T hT ra lo pr rb lb pb kc S V hV dn fb a ha hS hYV f hf _ 99) dX8_strong_28 rfl ⟨by decide, by decide, rfl, rfl, Nat.zero_le _, Nat.zero_le _⟩ rfl rfl rfl (Nat.le_of_ble_eq_true rfl) rfl (fun r cw28 hq28 => ?_)
  obtain ⟨rfl, fell2, T2, ra2, lo2, pr2, rb2, lb2, pb2, hT2, rfl⟩ := hq28
  refine ⟨rfl, ?_⟩
  refine g_stN (st' := .int _ :: []) rfl ?_
  refine g_wN (w' := [_, _, _, _, _, _, _, _, _, _, _, _, _, _, _, _, _, _, _, _, _, _, _, _, _, _, _, _, _, _, _, _]) rfl ?_
  refine g_istore_n (n := 32) dX8_strong_31 (by decide) rfl rfl ?_
  refine g_lsN (ls' := [_, _, _, _, _, _, _]) rfl ?_
  refine g_iconst (v := nI 1) (n := 33) dX8_strong_32 (by decide) rfl ?_
  refine g_istore_n (n := 34) dX8_strong_33 (by decide) rfl rfl ?_
  refine g_lsN (ls' := [_, _, _, _, _, _, _]) rfl ?_
  refine g_bipush (v := nI 99) (n := 36) dX8_strong_34 (by decide) rfl ?_
  refine g_istore (n := 38) dX8_strong_36 (by decide) rfl rfl ?_
  refine g_lsN (ls' := [_, _, _, _, _, _, _]) rfl ?_
  refine g_iconst (v := nI 0) (n := 39) dX8_strong_38 (by decide) rfl ?_
  refine g_istore (n := 41) dX8_strong_39 (by decide) rfl rfl ?_
  refine g_lsN (ls' := [_, _, _, _, _, _, _]) rfl ?_
  exact lp_X8_strong l _ ⟨Nat.zero_le _, Nat.zero_le _⟩ _ kc S V hV dn fb a ha hS hYV f hf rr hr1 hr3 hr4 (fun fell T ra lo pr rb lb pb U hT hU => ⟨rfl, fell, T, ra, lo, pr, rb, lb, pb, U, dn, fb, hT, hU, rfl⟩) 0 (by decide) 1 99 _ _ hT2 _ _ _ _ _ _ _ _ (by omega)
set_option maxRecDepth 20000 in
theorem t_X8_knees_bad1 (l : Launch) (fell : Int32) (T : ST) (hT : okZ T) (ra lo pr rb lb pb : Nat → Int32) (kc : Int32) (S : ST) (V : WT) (hV : okV V) (dn : Int32) (fb : Nat → Int32) (U : WT) (un : Int32) (ub : Nat → Int32) (a : Nat) (ha : a + 100 < 2 ^ 31) (hS : okS V S a) (hYU : okY U ub) (hYV : okY V fb) (x y : Int32) (h : isB (vnf V) x = false) : Con l M_X8_knees [.ref 0, .int x, .int y] (xa fell T ra lo pr rb lb pb kc S V dn fb U un ub) (fun r u => r = some (.int (-1)) ∧ ∃ fell T ra lo pr rb lb pb U un ub, okZ T ∧ okY U ub ∧ u = xa fell T ra lo pr rb lb pb kc S V dn fb U un ub) := by
  refine con_of rfl rfl (Nat.le_of_ble_eq_true rfl) ?_
  refine g_lsN (ls' := [_, _, _, _, _]) rfl ?_
  refine g_aload_n (n := 1) dX8_knees_0 rfl rfl ?_
  refine g_get (n := 4) fl_X8_65 dX8_knees_1 rfl rfl rfl ?_
  refine g_iload_n (n := 5) dX8_knees_4 rfl rfl ?_
  refine g_cutVi (ps := [14, 15, 16, 17, 18, 19, 20]) (w' := [_, _, _, _, _, _, _, _, _, _, _, _, _, _, _, _, _, _, _, _, _, _, _, _, _, _, _, _, _, _, _, _]) (n := 8) cv_X8_116 (t_X7_hasButtress l V hV dn _) dX8_knees_5 rfl rfl rfl ⟨by decide, by decide, rfl, rfl, Nat.zero_le _, Nat.zero_le _⟩ rfl rfl rfl (Nat.le_of_ble_eq_true rfl) rfl rfl rfl ?_
  refine g_if_eq (tgt := 22) (n := 11) dX8_knees_8 (by decide) rfl (fun c8 => ?_) (fun c8 => absurd (bI_0.mpr h) c8)
  refine g_iconst (v := (-1)) (n := 23) dX8_knees_22 (by decide) rfl ?_
  exact g_iret (ty := .int) dX8_knees_23 rfl rfl ⟨Nat.zero_le _, Nat.zero_le _⟩ ⟨rfl, _, _, _, _, _, _, _, _, _, _, _, hT, hYU, rfl⟩
set_option maxRecDepth 20000 in
theorem t_X8_knees_bad2 (l : Launch) (fell : Int32) (T : ST) (hT : okZ T) (ra lo pr rb lb pb : Nat → Int32) (kc : Int32) (S : ST) (V : WT) (hV : okV V) (dn : Int32) (fb : Nat → Int32) (U : WT) (un : Int32) (ub : Nat → Int32) (a : Nat) (ha : a + 100 < 2 ^ 31) (hS : okS V S a) (hYU : okY U ub) (hYV : okY V fb) (x y : Int32) (h : isB (vnf V) x = true) (h2 : inB y (nI 1) (nI 40) = false) : Con l M_X8_knees [.ref 0, .int x, .int y] (xa fell T ra lo pr rb lb pb kc S V dn fb U un ub) (fun r u => r = some (.int (-1)) ∧ ∃ fell T ra lo pr rb lb pb U un ub, okZ T ∧ okY U ub ∧ u = xa fell T ra lo pr rb lb pb kc S V dn fb U un ub) := by
  refine con_of rfl rfl (Nat.le_of_ble_eq_true rfl) ?_
  refine g_lsN (ls' := [_, _, _, _, _]) rfl ?_
  refine g_aload_n (n := 1) dX8_knees_0 rfl rfl ?_
  refine g_get (n := 4) fl_X8_65 dX8_knees_1 rfl rfl rfl ?_
  refine g_iload_n (n := 5) dX8_knees_4 rfl rfl ?_
  refine g_cutVi (ps := [14, 15, 16, 17, 18, 19, 20]) (w' := [_, _, _, _, _, _, _, _, _, _, _, _, _, _, _, _, _, _, _, _, _, _, _, _, _, _, _, _, _, _, _, _]) (n := 8) cv_X8_116 (t_X7_hasButtress l V hV dn _) dX8_knees_5 rfl rfl rfl ⟨by decide, by decide, rfl, rfl, Nat.zero_le _, Nat.zero_le _⟩ rfl rfl rfl (Nat.le_of_ble_eq_true rfl) rfl rfl rfl ?_
  refine g_if_eq (tgt := 22) (n := 11) dX8_knees_8 (by decide) rfl (fun c8 => absurd c8 (bI_n0.mpr h)) (fun c8 => ?_)
  refine g_iload_n (n := 12) dX8_knees_11 rfl rfl ?_
  refine g_iconst (v := nI 1) (n := 13) dX8_knees_12 (by decide) rfl ?_
  refine g_icmp_lt (tgt := 22) (n := 16) dX8_knees_13 (by decide) rfl (fun c13 => ?_) (fun c13 => ?_)
  ·
    refine g_iconst (v := (-1)) (n := 23) dX8_knees_22 (by decide) rfl ?_
    exact g_iret (ty := .int) dX8_knees_23 rfl rfl ⟨Nat.zero_le _, Nat.zero_le _⟩ ⟨rfl, _, _, _, _, _, _, _, _, _, _, _, hT, hYU, rfl⟩
  ·
    refine g_iload_n (n := 17) dX8_knees_16 rfl rfl ?_
    refine g_bipush (v := nI 40) (n := 19) dX8_knees_17 (by decide) rfl ?_
    refine g_icmp_le (tgt := 24) (n := 22) dX8_knees_19 (by decide) rfl (fun c19 => ?_) (fun c19 => ?_)
    ·
      exact inB_x h2 c13 c19
    ·
      refine g_iconst (v := (-1)) (n := 23) dX8_knees_22 (by decide) rfl ?_
      exact g_iret (ty := .int) dX8_knees_23 rfl rfl ⟨Nat.zero_le _, Nat.zero_le _⟩ ⟨rfl, _, _, _, _, _, _, _, _, _, _, _, hT, hYU, rfl⟩
set_option maxRecDepth 20000 in
theorem t_X8_knees_no (l : Launch) (fell : Int32) (T : ST) (hT : okZ T) (ra lo pr rb lb pb : Nat → Int32) (kc : Int32) (S : ST) (V : WT) (hV : okV V) (dn : Int32) (fb : Nat → Int32) (U : WT) (un : Int32) (ub : Nat → Int32) (a : Nat) (ha : a + 100 < 2 ^ 31) (hS : okS V S a) (hYU : okY U ub) (hYV : okY V fb) (f : Nat) (hf : f < vnf V) (y : Int32) (h2 : inB y (nI 1) (nI 40) = true) (h : hb (sup S) (nI f) = false) : Con l M_X8_knees [.ref 0, .int (nI f), .int y] (xa fell T ra lo pr rb lb pb kc S V dn fb U un ub) (fun r u => r = some (.int (-2)) ∧ ∃ fell T ra lo pr rb lb pb U un ub, okZ T ∧ okY U ub ∧ u = xa fell T ra lo pr rb lb pb kc S V dn fb U un ub) := by
  have hV1 := hV.1
  have hV2 := hV.2.1
  have hV3 := hV.2.2
  refine con_of rfl rfl (Nat.le_of_ble_eq_true rfl) ?_
  refine g_lsN (ls' := [_, _, _, _, _]) rfl ?_
  refine g_aload_n (n := 1) dX8_knees_0 rfl rfl ?_
  refine g_get (n := 4) fl_X8_65 dX8_knees_1 rfl rfl rfl ?_
  refine g_iload_n (n := 5) dX8_knees_4 rfl rfl ?_
  refine g_cutVi (ps := [14, 15, 16, 17, 18, 19, 20]) (w' := [_, _, _, _, _, _, _, _, _, _, _, _, _, _, _, _, _, _, _, _, _, _, _, _, _, _, _, _, _, _, _, _]) (n := 8) cv_X8_116 (t_X7_hasButtress l V hV dn _) dX8_knees_5 rfl rfl rfl ⟨by decide, by decide, rfl, rfl, Nat.zero_le _, Nat.zero_le _⟩ rfl rfl rfl (Nat.le_of_ble_eq_true rfl) rfl rfl rfl ?_
  refine g_if_eq (tgt := 22) (n := 11) dX8_knees_8 (by decide) rfl (fun c8 => absurd c8 (bI_n0.mpr (show isB (vnf V) (nI f) = true by rw [isB_nI (by omega) (by omega)]; exact decide_eq_true hf))) (fun c8 => ?_)
  refine g_iload_n (n := 12) dX8_knees_11 rfl rfl ?_
  refine g_iconst (v := nI 1) (n := 13) dX8_knees_12 (by decide) rfl ?_
  refine g_icmp_lt (tgt := 22) (n := 16) dX8_knees_13 (by decide) rfl (fun c13 => absurd c13 (inB_ge h2)) (fun c13 => ?_)
  refine g_iload_n (n := 17) dX8_knees_16 rfl rfl ?_
  refine g_bipush (v := nI 40) (n := 19) dX8_knees_17 (by decide) rfl ?_
  refine g_icmp_le (tgt := 24) (n := 22) dX8_knees_19 (by decide) rfl (fun c19 => ?_) (fun c19 => absurd (inB_le h2) c19)
  refine g_aload_n (n := 25) dX8_knees_24 rfl rfl ?_
  refine g_get (n := 28) fl_X8_47 dX8_knees_25 rfl rfl rfl ?_
  refine g_iload_n (n := 29) dX8_knees_28 rfl rfl ?_
  refine g_cutVi (ps := [10, 11, 12, 13]) (w' := [_, _, _, _, _, _, _, _, _, _, _, _, _, _, _, _, _, _, _, _, _, _, _, _, _, _, _, _, _, _, _, _]) (n := 32) cv_X8_134 (t_X3_isUp l _ _) dX8_knees_29 rfl rfl rfl ⟨by decide, by decide, rfl, rfl, Nat.zero_le _, Nat.zero_le _⟩ rfl rfl rfl (Nat.le_of_ble_eq_true rfl) rfl rfl rfl ?_
  refine g_if_ne (tgt := 38) (n := 35) dX8_knees_32 (by decide) rfl (fun c32 => absurd (bI_0.mpr h) c32) (fun c32 => ?_)
  refine g_bipush (v := (-2)) (n := 37) dX8_knees_35 (by decide) rfl ?_
  exact g_iret (ty := .int) dX8_knees_37 rfl rfl ⟨Nat.zero_le _, Nat.zero_le _⟩ ⟨rfl, _, _, _, _, _, _, _, _, _, _, _, hT, hYU, rfl⟩
set_option maxRecDepth 20000 in
theorem lp_X8_knees (l : Launch) (z : Nat × Nat × Nat) (hz : z.2.1 ≤ 0 ∧ z.2.2 ≤ 0) (Q : Option Value → List va_E → Prop) (kc : Int32) (S : ST) (V : WT) (hV : okV V) (dn : Int32) (fb : Nat → Int32) (a : Nat) (ha : a + 100 < 2 ^ 31) (hS : okS V S a) (hYV : okY V fb) (f : Nat) (hf : f < vnf V) (n : Nat) (hn : n ≤ 40) (h : hb (sup S) (nI f) = true) (hQ : ∀ fell T ra lo pr rb lb pb U, okZ T → okY U fb → Q (some (.int (knN V S f n 30))) (xa fell T ra lo pr rb lb pb kc S V dn fb U dn fb)) : ∀ v, v ≤ 30 → ∀ (fell : Int32) (T : ST) (hT : okZ T) (ra lo pr rb lb pb : Nat → Int32) (x : Int32), G l M_X8_knees z Q 54 [some (.ref 0), some (.int (nI f)), some (.int (nI n)), some (.int (knN V S f n v)), some (.int (nI (v + 1)))] [] (xa fell T ra lo pr rb lb pb kc S V dn fb (vKn V f x) dn fb) := by
  have hV1 := hV.1
  have hV2 := hV.2.1
  have hV3 := hV.2.2
  refine loopN 30 ?_ (fun v hv ih => ?_)
  ·
    intro fell T hT ra lo pr rb lb pb x
    refine g_iload (n := 56) dX8_knees_54 rfl rfl ?_
    refine g_bipush (v := nI 30) (n := 58) dX8_knees_56 (by decide) rfl ?_
    refine g_icmp_gt (tgt := 112) (n := 61) dX8_knees_58 (by decide) rfl (fun c58 => ?_) (fun c58 => absurd (by decide) c58)
    refine g_iload_n (n := 113) dX8_knees_112 rfl rfl ?_
    exact g_iret (ty := .int) dX8_knees_113 rfl rfl hz (hQ _ _ _ _ _ _ _ _ _ hT (okY_kn _ (by omega) hYV))
  ·
    intro fell T hT ra lo pr rb lb pb x
    have e5 : knC V S f n (v + 1) = gwB (vKn V f (nI (v + 1))) f n S := (gw_kn (vKn V f (nI (v + 1))) f n S h).symm
    refine g_iload (n := 56) dX8_knees_54 rfl rfl ?_
    refine g_bipush (v := nI 30) (n := 58) dX8_knees_56 (by decide) rfl ?_
    refine g_icmp_gt (tgt := 112) (n := 61) dX8_knees_58 (by decide) rfl (fun c58 => absurd c58 (Int32.not_lt.mpr (nI_le (by omega) (by decide)))) (fun c58 => ?_)
    refine g_aload_n (n := 62) dX8_knees_61 rfl rfl ?_
    refine g_get (n := 65) fl_X8_69 dX8_knees_62 rfl rfl rfl ?_
    refine g_get (n := 68) fl_X8_128 dX8_knees_65 rfl rfl rfl ?_
    refine g_iload_n (n := 69) dX8_knees_68 rfl rfl ?_
    refine g_iload (n := 71) dX8_knees_69 rfl rfl ?_
    refine g_iastN (n := 72) dX8_knees_71 rfl rfl (by decide) (by omega) ?_
    refine g_wN (w' := [_, _, _, _, _, _, _, _, _, _, _, _, _, _, _, _, _, _, _, _, _, _, _, _, _, _, _, _, _, _, _, _]) rfl ?_
    rw [upd_upd]
    refine g_aload_n (n := 73) dX8_knees_72 rfl rfl ?_
    refine g_get (n := 76) fl_X8_33 dX8_knees_73 rfl rfl rfl ?_
    refine g_aload_n (n := 77) dX8_knees_76 rfl rfl ?_
    refine g_get (n := 80) fl_X8_47 dX8_knees_77 rfl rfl rfl ?_
    refine g_cutVv (ps := [1, 2, 3, 4, 5, 10, 11, 12, 13, 6]) (w' := [_, _, _, _, _, _, _, _, _, _, _, _, _, _, _, _, _, _, _, _, _, _, _, _, _, _, _, _, _, _, _, _]) (n := 83) cv_X8_176 (t_X6_startFrom l _ _ S hT hS.1) dX8_knees_80 rfl rfl rfl ⟨by decide, by decide, rfl, rfl, hz.1, hz.2⟩ rfl rfl rfl (Nat.le_of_ble_eq_true rfl) rfl rfl rfl ?_
    refine g_aload_n (n := 84) dX8_knees_83 rfl rfl ?_
    refine g_get (n := 87) fl_X8_33 dX8_knees_84 rfl rfl rfl ?_
    refine g_aload_n (n := 88) dX8_knees_87 rfl rfl ?_
    refine g_get (n := 91) fl_X8_69 dX8_knees_88 rfl rfl rfl ?_
    refine g_iload_n (n := 92) dX8_knees_91 rfl rfl ?_
    refine g_iload_n (n := 93) dX8_knees_92 rfl rfl ?_
    refine g_cutV (ps := [1, 2, 3, 4, 5, 6, 7, 8, 9, 25, 26, 27, 28, 29, 30, 31]) (n := 96) cv_X8_234 (t_X6_givesWayBehind l (vKn V f (nI (v + 1))) hV dn fb f hf n hn S _ _ _ _ a (by omega) hS) dX8_knees_93 rfl rfl rfl ⟨by decide, by decide, rfl, rfl, hz.1, hz.2⟩ rfl rfl rfl (Nat.le_of_ble_eq_true rfl) rfl (fun r cw93 hq93 => ?_)
    obtain ⟨rfl, fell2, T2, ra2, lo2, pr2, hT2, rfl⟩ := hq93
    refine ⟨rfl, ?_⟩
    refine g_stN (st' := .int _ :: []) rfl ?_
    refine g_wN (w' := [_, _, _, _, _, _, _, _, _, _, _, _, _, _, _, _, _, _, _, _, _, _, _, _, _, _, _, _, _, _, _, _]) rfl ?_
    refine g_if_eq (tgt := 106) (n := 99) dX8_knees_96 (by decide) rfl (fun c96 => ?_) (fun c96 => ?_)
    ·
      have e9 : knN V S f n (v + 1) = knN V S f n v := by rw [knN, e5, bI_0.mp c96]; exact Int32.or_zero
      refine g_lsN (ls' := [some (.ref 0), some (.int (nI f)), some (.int (nI n)), some (.int (knN V S f n (v + 1))), some (.int (nI (v + 1)))]) (by rw [e9]) ?_
      refine g_iincN (k := 1) (n := 109) dX8_knees_106 rfl (by decide) rfl rfl ?_
      refine g_lsN (ls' := [_, _, _, _, _]) rfl ?_
      refine g_goto (tgt := 54) dX8_knees_109 (by decide) ?_
      exact ih _ _ hT2 _ _ _ _ _ _ _
    ·
      have e9 : knN V S f n (v + 1) = knN V S f n v ||| nI 1 <<< (nI (v + 1) &&& 31) := by rw [knN, e5, bI_n0.mp c96]; rfl
      refine g_iload_n (n := 100) dX8_knees_99 rfl rfl ?_
      refine g_iconst (v := nI 1) (n := 101) dX8_knees_100 (by decide) rfl ?_
      refine g_iload (n := 103) dX8_knees_101 rfl rfl ?_
      refine g_ishl (n := 104) dX8_knees_103 rfl ?_
      refine g_ior (n := 105) dX8_knees_104 rfl ?_
      refine g_istore_n (n := 106) dX8_knees_105 (by decide) rfl rfl ?_
      refine g_lsN (ls' := [_, _, _, _, _]) rfl ?_
      refine g_lsN (ls' := [some (.ref 0), some (.int (nI f)), some (.int (nI n)), some (.int (knN V S f n (v + 1))), some (.int (nI (v + 1)))]) (by rw [e9]) ?_
      refine g_iincN (k := 1) (n := 109) dX8_knees_106 rfl (by decide) rfl rfl ?_
      refine g_lsN (ls' := [_, _, _, _, _]) rfl ?_
      refine g_goto (tgt := 54) dX8_knees_109 (by decide) ?_
      exact ih _ _ hT2 _ _ _ _ _ _ _
set_option maxRecDepth 20000 in
theorem t_X8_knees_ok (l : Launch) (fell : Int32) (T : ST) (hT : okZ T) (ra lo pr rb lb pb : Nat → Int32) (kc : Int32) (S : ST) (V : WT) (hV : okV V) (dn : Int32) (fb : Nat → Int32) (U : WT) (un : Int32) (ub : Nat → Int32) (a : Nat) (ha : a + 100 < 2 ^ 31) (hS : okS V S a) (hYU : okY U ub) (hYV : okY V fb) (f : Nat) (hf : f < vnf V) (n : Nat) (hn : n ≤ 40) (h2 : inB (nI n) (nI 1) (nI 40) = true) (h : hb (sup S) (nI f) = true) : Con l M_X8_knees [.ref 0, .int (nI f), .int (nI n)] (xa fell T ra lo pr rb lb pb kc S V dn fb U un ub) (fun r u => r = some (.int (knN V S f n 30)) ∧ ∃ fell T ra lo pr rb lb pb U un ub, okZ T ∧ okY U ub ∧ u = xa fell T ra lo pr rb lb pb kc S V dn fb U un ub) := by
  have hV1 := hV.1
  have hV2 := hV.2.1
  have hV3 := hV.2.2
  refine con_of rfl rfl (Nat.le_of_ble_eq_true rfl) ?_
  refine g_lsN (ls' := [_, _, _, _, _]) rfl ?_
  refine g_aload_n (n := 1) dX8_knees_0 rfl rfl ?_
  refine g_get (n := 4) fl_X8_65 dX8_knees_1 rfl rfl rfl ?_
  refine g_iload_n (n := 5) dX8_knees_4 rfl rfl ?_
  refine g_cutVi (ps := [14, 15, 16, 17, 18, 19, 20]) (w' := [_, _, _, _, _, _, _, _, _, _, _, _, _, _, _, _, _, _, _, _, _, _, _, _, _, _, _, _, _, _, _, _]) (n := 8) cv_X8_116 (t_X7_hasButtress l V hV dn _) dX8_knees_5 rfl rfl rfl ⟨by decide, by decide, rfl, rfl, Nat.zero_le _, Nat.zero_le _⟩ rfl rfl rfl (Nat.le_of_ble_eq_true rfl) rfl rfl rfl ?_
  refine g_if_eq (tgt := 22) (n := 11) dX8_knees_8 (by decide) rfl (fun c8 => absurd c8 (bI_n0.mpr (show isB (vnf V) (nI f) = true by rw [isB_nI (by omega) (by omega)]; exact decide_eq_true hf))) (fun c8 => ?_)
  refine g_iload_n (n := 12) dX8_knees_11 rfl rfl ?_
  refine g_iconst (v := nI 1) (n := 13) dX8_knees_12 (by decide) rfl ?_
  refine g_icmp_lt (tgt := 22) (n := 16) dX8_knees_13 (by decide) rfl (fun c13 => absurd c13 (inB_ge h2)) (fun c13 => ?_)
  refine g_iload_n (n := 17) dX8_knees_16 rfl rfl ?_
  refine g_bipush (v := nI 40) (n := 19) dX8_knees_17 (by decide) rfl ?_
  refine g_icmp_le (tgt := 24) (n := 22) dX8_knees_19 (by decide) rfl (fun c19 => ?_) (fun c19 => absurd (inB_le h2) c19)
  refine g_aload_n (n := 25) dX8_knees_24 rfl rfl ?_
  refine g_get (n := 28) fl_X8_47 dX8_knees_25 rfl rfl rfl ?_
  refine g_iload_n (n := 29) dX8_knees_28 rfl rfl ?_
  refine g_cutVi (ps := [10, 11, 12, 13]) (w' := [_, _, _, _, _, _, _, _, _, _, _, _, _, _, _, _, _, _, _, _, _, _, _, _, _, _, _, _, _, _, _, _]) (n := 32) cv_X8_134 (t_X3_isUp l _ _) dX8_knees_29 rfl rfl rfl ⟨by decide, by decide, rfl, rfl, Nat.zero_le _, Nat.zero_le _⟩ rfl rfl rfl (Nat.le_of_ble_eq_true rfl) rfl rfl rfl ?_
  refine g_if_ne (tgt := 38) (n := 35) dX8_knees_32 (by decide) rfl (fun c32 => ?_) (fun c32 => absurd c32 (bI_n0.mpr h))
  refine g_aload_n (n := 39) dX8_knees_38 rfl rfl ?_
  refine g_get (n := 42) fl_X8_69 dX8_knees_39 rfl rfl rfl ?_
  refine g_aload_n (n := 43) dX8_knees_42 rfl rfl ?_
  refine g_get (n := 46) fl_X8_65 dX8_knees_43 rfl rfl rfl ?_
  refine g_cutVv (ps := [25, 26, 27, 28, 29, 30, 31, 14, 15, 16, 17, 18, 19, 20]) (w' := [_, _, _, _, _, _, _, _, _, _, _, _, _, _, _, _, _, _, _, _, _, _, _, _, _, _, _, _, _, _, _, _]) (n := 49) cv_X8_221 (t_X7_takeFrom l U un ub V dn fb hYU hYV) dX8_knees_46 rfl rfl rfl ⟨by decide, by decide, rfl, rfl, Nat.zero_le _, Nat.zero_le _⟩ rfl rfl rfl (Nat.le_of_ble_eq_true rfl) rfl rfl rfl ?_
  refine g_wN (w' := xa fell T ra lo pr rb lb pb kc S V dn fb (vKn V f (vkn V f)) dn fb) (by rw [vKn_self]; rfl) ?_
  refine g_iconst (v := nI 0) (n := 50) dX8_knees_49 (by decide) rfl ?_
  refine g_istore_n (n := 51) dX8_knees_50 (by decide) rfl rfl ?_
  refine g_lsN (ls' := [_, _, _, _, _]) rfl ?_
  refine g_iconst (v := nI 1) (n := 52) dX8_knees_51 (by decide) rfl ?_
  refine g_istore (n := 54) dX8_knees_52 (by decide) rfl rfl ?_
  refine g_lsN (ls' := [_, _, _, _, _]) rfl ?_
  exact lp_X8_knees l _ ⟨Nat.zero_le _, Nat.zero_le _⟩ _ kc S V hV dn fb a ha hS hYV f hf n hn h (fun fell T ra lo pr rb lb pb U hT hU => ⟨rfl, fell, T, ra, lo, pr, rb, lb, pb, U, dn, fb, hT, hU, rfl⟩) 0 (Nat.zero_le _) _ _ hT _ _ _ _ _ _ _

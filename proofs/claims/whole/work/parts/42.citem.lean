/-! 42.citem: the class takes items into a wall -/
abbrev w7 (V : WT) (dn : Int32) (fb : Nat → Int32) : List va_E := [wo V dn 0, a8 (vth V), a8 (vpa V), a6 (vki V), a6 (vsg V), a6 fb, a6 (vkn V)]
theorem nI_nle2 {a b : Nat} (h : b < a) (ha : a < 2 ^ 31) : ¬ nI a ≤ nI b := nI_ge h ha

set_option maxRecDepth 20000 in
theorem t_X7_addBay_ok (l : Launch) (V : WT) (hV : okV V) (dn : Int32) (fb : Nat → Int32) (t h : Nat) (ht : t ≤ 99) (hh : h ≤ 20) (hb8 : vnb V < 8) : Fn l M_X7_addBay [.ref 0, .int (nI t), .int (nI h)] (w7 V dn fb) (some (.int (nI 1))) (w7 (vB V (nI t) (nI h)) dn fb) := by
  have hV1 := hV.1
  have hV2 := hV.2.1
  have hV3 := hV.2.2
  refine con_of rfl rfl (Nat.le_of_ble_eq_true rfl) ?_
  refine g_lsN (ls' := [_, _, _]) rfl ?_
  refine g_aload_n (n := 1) dX7_addBay_0 rfl rfl ?_
  refine g_get (n := 4) fl_X7_30 dX7_addBay_1 rfl rfl rfl ?_
  refine g_bipush (v := nI 8) (n := 6) dX7_addBay_4 (by decide) rfl ?_
  refine g_icmp_ge (tgt := 21) (n := 9) dX7_addBay_6 (by decide) rfl (fun c6 => absurd c6 (nI_ge (by omega) (by omega))) (fun c6 => ?_)
  refine g_iload_n (n := 10) dX7_addBay_9 rfl rfl ?_
  refine g_bipush (v := nI 99) (n := 12) dX7_addBay_10 (by decide) rfl ?_
  refine g_icmp_gt (tgt := 21) (n := 15) dX7_addBay_12 (by decide) rfl (fun c12 => absurd c12 (nI_nlt (by omega) (by omega))) (fun c12 => ?_)
  refine g_iload_n (n := 16) dX7_addBay_15 rfl rfl ?_
  refine g_bipush (v := nI 20) (n := 18) dX7_addBay_16 (by decide) rfl ?_
  refine g_icmp_le (tgt := 23) (n := 21) dX7_addBay_18 (by decide) rfl (fun c18 => ?_) (fun c18 => absurd (nI_le (by omega) (by omega)) c18)
  refine g_aload_n (n := 24) dX7_addBay_23 rfl rfl ?_
  refine g_get (n := 27) fl_X7_9 dX7_addBay_24 rfl rfl rfl ?_
  refine g_aload_n (n := 28) dX7_addBay_27 rfl rfl ?_
  refine g_get (n := 31) fl_X7_30 dX7_addBay_28 rfl rfl rfl ?_
  refine g_iload_n (n := 32) dX7_addBay_31 rfl rfl ?_
  refine g_iastN (n := 33) dX7_addBay_32 rfl rfl (by decide) (by omega) ?_
  refine g_wN (w' := [_, _, _, _, _, _, _]) rfl ?_
  refine g_aload_n (n := 34) dX7_addBay_33 rfl rfl ?_
  refine g_get (n := 37) fl_X7_15 dX7_addBay_34 rfl rfl rfl ?_
  refine g_aload_n (n := 38) dX7_addBay_37 rfl rfl ?_
  refine g_get (n := 41) fl_X7_30 dX7_addBay_38 rfl rfl rfl ?_
  refine g_iload_n (n := 42) dX7_addBay_41 rfl rfl ?_
  refine g_iastN (n := 43) dX7_addBay_42 rfl rfl (by decide) (by omega) ?_
  refine g_wN (w' := [_, _, _, _, _, _, _]) rfl ?_
  refine g_aload_n (n := 44) dX7_addBay_43 rfl rfl ?_
  refine g_dup (n := 45) dX7_addBay_44 rfl rfl ?_
  refine g_get (n := 48) fl_X7_30 dX7_addBay_45 rfl rfl rfl ?_
  refine g_iconst (v := nI 1) (n := 49) dX7_addBay_48 (by decide) rfl ?_
  refine g_iaddN (n := 50) dX7_addBay_49 rfl ?_
  refine g_put (n := 53) pf_X7_30 dX7_addBay_50 rfl (Nat.le_of_ble_eq_true rfl) (fun _ => rfl) (fun _ => rfl) rfl ?_
  refine g_wN (w' := [_, _, _, _, _, _, _]) rfl ?_
  refine g_iconst (v := nI 1) (n := 54) dX7_addBay_53 (by decide) rfl ?_
  exact g_iret (ty := .boolean) dX7_addBay_54 rfl (by first | exact bI_nar _ | decide) ⟨Nat.zero_le _, Nat.zero_le _⟩ ⟨rfl, rfl⟩
set_option maxRecDepth 20000 in
theorem t_X7_addBay_no (l : Launch) (V : WT) (hV : okV V) (dn : Int32) (fb : Nat → Int32) (t h : Nat) (ht : t ≤ 99) (hh : h ≤ 99) (hn : ¬ (vnb V < 8 ∧ h ≤ 20)) : Fn l M_X7_addBay [.ref 0, .int (nI t), .int (nI h)] (w7 V dn fb) (some (.int (nI 0))) (w7 V dn fb) := by
  have hV1 := hV.1
  have hV2 := hV.2.1
  have hV3 := hV.2.2
  refine con_of rfl rfl (Nat.le_of_ble_eq_true rfl) ?_
  refine g_lsN (ls' := [_, _, _]) rfl ?_
  refine g_aload_n (n := 1) dX7_addBay_0 rfl rfl ?_
  refine g_get (n := 4) fl_X7_30 dX7_addBay_1 rfl rfl rfl ?_
  refine g_bipush (v := nI 8) (n := 6) dX7_addBay_4 (by decide) rfl ?_
  refine g_icmp_ge (tgt := 21) (n := 9) dX7_addBay_6 (by decide) rfl (fun c6 => ?_) (fun c6 => ?_)
  ·
    refine g_iconst (v := nI 0) (n := 22) dX7_addBay_21 (by decide) rfl ?_
    exact g_iret (ty := .boolean) dX7_addBay_22 rfl (by first | exact bI_nar _ | decide) ⟨Nat.zero_le _, Nat.zero_le _⟩ ⟨rfl, rfl⟩
  ·
    refine g_iload_n (n := 10) dX7_addBay_9 rfl rfl ?_
    refine g_bipush (v := nI 99) (n := 12) dX7_addBay_10 (by decide) rfl ?_
    refine g_icmp_gt (tgt := 21) (n := 15) dX7_addBay_12 (by decide) rfl (fun c12 => absurd c12 (nI_nlt (by omega) (by omega))) (fun c12 => ?_)
    refine g_iload_n (n := 16) dX7_addBay_15 rfl rfl ?_
    refine g_bipush (v := nI 20) (n := 18) dX7_addBay_16 (by decide) rfl ?_
    refine g_icmp_le (tgt := 23) (n := 21) dX7_addBay_18 (by decide) rfl (fun c18 => ?_) (fun c18 => ?_)
    ·
      exact absurd ⟨Nat.lt_of_not_le (fun q => c6 (nI_le q (by omega))), (nI_leI (by omega) (by omega)).mp c18⟩ hn
    ·
      refine g_iconst (v := nI 0) (n := 22) dX7_addBay_21 (by decide) rfl ?_
      exact g_iret (ty := .boolean) dX7_addBay_22 rfl (by first | exact bI_nar _ | decide) ⟨Nat.zero_le _, Nat.zero_le _⟩ ⟨rfl, rfl⟩
set_option maxRecDepth 20000 in
theorem t_X7_addButtress_ok (l : Launch) (V : WT) (hV : okV V) (dn : Int32) (fb : Nat → Int32) (k s x t : Nat) (hk : k ≤ 99) (hs : s ≤ 99) (hx : x < 64) (ht : t ≤ 99) (h1 : k ≤ 3) (h2 : 1 ≤ s) (h3 : x < vnb V) (h4 : 1 ≤ t) (h5 : t ≤ 30) (h6 : vnf V < 6) : Fn l M_X7_addButtress [.ref 0, .int (nI k), .int (nI s), .int (nI x), .int (nI t)] (w7 V dn fb) (some (.int (nI 1))) (w7 (vF V (nI k) (nI s) (nI t)) dn (upd fb (vnf V) (nI x))) := by
  have hV1 := hV.1
  have hV2 := hV.2.1
  have hV3 := hV.2.2
  refine con_of rfl rfl (Nat.le_of_ble_eq_true rfl) ?_
  refine g_lsN (ls' := [_, _, _, _, _, _]) rfl ?_
  refine g_iload_n (n := 1) dX7_addButtress_0 rfl rfl ?_
  refine g_iconst (v := nI 3) (n := 2) dX7_addButtress_1 (by decide) rfl ?_
  refine g_icmp_gt (tgt := 41) (n := 5) dX7_addButtress_2 (by decide) rfl (fun c2 => absurd c2 (nI_nlt h1 (by omega))) (fun c2 => ?_)
  refine g_iload_n (n := 6) dX7_addButtress_5 rfl rfl ?_
  refine g_iconst (v := nI 1) (n := 7) dX7_addButtress_6 (by decide) rfl ?_
  refine g_icmp_lt (tgt := 41) (n := 10) dX7_addButtress_7 (by decide) rfl (fun c7 => absurd c7 (nI_nlt h2 (by omega))) (fun c7 => ?_)
  refine g_iload_n (n := 11) dX7_addButtress_10 rfl rfl ?_
  refine g_bipush (v := nI 99) (n := 13) dX7_addButtress_11 (by decide) rfl ?_
  refine g_icmp_gt (tgt := 41) (n := 16) dX7_addButtress_13 (by decide) rfl (fun c13 => absurd c13 (nI_nlt (by omega) (by omega))) (fun c13 => ?_)
  refine g_aload_n (n := 17) dX7_addButtress_16 rfl rfl ?_
  refine g_iload_n (n := 18) dX7_addButtress_17 rfl rfl ?_
  refine g_cutVi (ps := [0, 1, 2, 3, 4, 5, 6]) (w' := [_, _, _, _, _, _, _]) (n := 21) cv_X7_52 (t_X7_hasBay l V hV dn _) dX7_addButtress_18 rfl rfl rfl ⟨by decide, by decide, rfl, rfl, Nat.zero_le _, Nat.zero_le _⟩ rfl rfl rfl (Nat.le_of_ble_eq_true rfl) rfl rfl rfl ?_
  refine g_if_eq (tgt := 41) (n := 24) dX7_addButtress_21 (by decide) rfl (fun c21 => absurd c21 (bI_n0.mpr (show isB (vnb V) (nI x) = true by rw [isB_nI (by omega) (by omega)]; exact decide_eq_true h3))) (fun c21 => ?_)
  refine g_iload (n := 26) dX7_addButtress_24 rfl rfl ?_
  refine g_iconst (v := nI 1) (n := 27) dX7_addButtress_26 (by decide) rfl ?_
  refine g_icmp_lt (tgt := 41) (n := 30) dX7_addButtress_27 (by decide) rfl (fun c27 => absurd c27 (nI_nlt h4 (by omega))) (fun c27 => ?_)
  refine g_iload (n := 32) dX7_addButtress_30 rfl rfl ?_
  refine g_bipush (v := nI 30) (n := 34) dX7_addButtress_32 (by decide) rfl ?_
  refine g_icmp_gt (tgt := 41) (n := 37) dX7_addButtress_34 (by decide) rfl (fun c34 => absurd c34 (nI_nlt h5 (by omega))) (fun c34 => ?_)
  refine g_iconst (v := nI 1) (n := 38) dX7_addButtress_37 (by decide) rfl ?_
  refine g_goto (tgt := 42) dX7_addButtress_38 (by decide) ?_
  refine g_istore (n := 44) dX7_addButtress_42 (by decide) rfl rfl ?_
  refine g_lsN (ls' := [_, _, _, _, _, _]) rfl ?_
  refine g_aload_n (n := 45) dX7_addButtress_44 rfl rfl ?_
  refine g_get (n := 48) fl_X7_34 dX7_addButtress_45 rfl rfl rfl ?_
  refine g_bipush (v := nI 6) (n := 50) dX7_addButtress_48 (by decide) rfl ?_
  refine g_icmp_ge (tgt := 58) (n := 53) dX7_addButtress_50 (by decide) rfl (fun c50 => absurd c50 (nI_ge (by omega) (by omega))) (fun c50 => ?_)
  refine g_iload (n := 55) dX7_addButtress_53 rfl rfl ?_
  refine g_if_ne (tgt := 60) (n := 58) dX7_addButtress_55 (by decide) rfl (fun c55 => ?_) (fun c55 => absurd c55 (by decide))
  refine g_aload_n (n := 61) dX7_addButtress_60 rfl rfl ?_
  refine g_get (n := 64) fl_X7_18 dX7_addButtress_61 rfl rfl rfl ?_
  refine g_aload_n (n := 65) dX7_addButtress_64 rfl rfl ?_
  refine g_get (n := 68) fl_X7_34 dX7_addButtress_65 rfl rfl rfl ?_
  refine g_iload_n (n := 69) dX7_addButtress_68 rfl rfl ?_
  refine g_iastN (n := 70) dX7_addButtress_69 rfl rfl (by decide) (by omega) ?_
  refine g_wN (w' := [_, _, _, _, _, _, _]) rfl ?_
  refine g_aload_n (n := 71) dX7_addButtress_70 rfl rfl ?_
  refine g_get (n := 74) fl_X7_21 dX7_addButtress_71 rfl rfl rfl ?_
  refine g_aload_n (n := 75) dX7_addButtress_74 rfl rfl ?_
  refine g_get (n := 78) fl_X7_34 dX7_addButtress_75 rfl rfl rfl ?_
  refine g_iload_n (n := 79) dX7_addButtress_78 rfl rfl ?_
  refine g_iastN (n := 80) dX7_addButtress_79 rfl rfl (by decide) (by omega) ?_
  refine g_wN (w' := [_, _, _, _, _, _, _]) rfl ?_
  refine g_aload_n (n := 81) dX7_addButtress_80 rfl rfl ?_
  refine g_get (n := 84) fl_X7_24 dX7_addButtress_81 rfl rfl rfl ?_
  refine g_aload_n (n := 85) dX7_addButtress_84 rfl rfl ?_
  refine g_get (n := 88) fl_X7_34 dX7_addButtress_85 rfl rfl rfl ?_
  refine g_iload_n (n := 89) dX7_addButtress_88 rfl rfl ?_
  refine g_iastN (n := 90) dX7_addButtress_89 rfl rfl (by decide) (by omega) ?_
  refine g_wN (w' := [_, _, _, _, _, _, _]) rfl ?_
  refine g_aload_n (n := 91) dX7_addButtress_90 rfl rfl ?_
  refine g_get (n := 94) fl_X7_27 dX7_addButtress_91 rfl rfl rfl ?_
  refine g_aload_n (n := 95) dX7_addButtress_94 rfl rfl ?_
  refine g_get (n := 98) fl_X7_34 dX7_addButtress_95 rfl rfl rfl ?_
  refine g_iload (n := 100) dX7_addButtress_98 rfl rfl ?_
  refine g_iastN (n := 101) dX7_addButtress_100 rfl rfl (by decide) (by omega) ?_
  refine g_wN (w' := [_, _, _, _, _, _, _]) rfl ?_
  refine g_aload_n (n := 102) dX7_addButtress_101 rfl rfl ?_
  refine g_dup (n := 103) dX7_addButtress_102 rfl rfl ?_
  refine g_get (n := 106) fl_X7_34 dX7_addButtress_103 rfl rfl rfl ?_
  refine g_iconst (v := nI 1) (n := 107) dX7_addButtress_106 (by decide) rfl ?_
  refine g_iaddN (n := 108) dX7_addButtress_107 rfl ?_
  refine g_put (n := 111) pf_X7_34 dX7_addButtress_108 rfl (Nat.le_of_ble_eq_true rfl) (fun _ => rfl) (fun _ => rfl) rfl ?_
  refine g_wN (w' := [_, _, _, _, _, _, _]) rfl ?_
  refine g_iconst (v := nI 1) (n := 112) dX7_addButtress_111 (by decide) rfl ?_
  exact g_iret (ty := .boolean) dX7_addButtress_112 rfl (by first | exact bI_nar _ | decide) ⟨Nat.zero_le _, Nat.zero_le _⟩ ⟨rfl, rfl⟩
theorem isB_lt {nb x : Nat} (hx : x < 2 ^ 30) (h : isB nb (nI x) = true) (hn : nb ≤ 64 := by omega) : x < nb := by
  obtain ⟨b, hb, e⟩ := isB_t hn h
  rw [nI_eq (by omega) (by omega)] at e
  omega
set_option maxRecDepth 20000 in
theorem t_X7_addButtress_no (l : Launch) (V : WT) (hV : okV V) (dn : Int32) (fb : Nat → Int32) (k s x t : Nat) (hk : k ≤ 99) (hs : s ≤ 99) (hx : x ≤ 99) (ht : t ≤ 99) (hn : ¬ (k ≤ 3 ∧ 1 ≤ s ∧ x < vnb V ∧ 1 ≤ t ∧ t ≤ 30 ∧ vnf V < 6)) : Fn l M_X7_addButtress [.ref 0, .int (nI k), .int (nI s), .int (nI x), .int (nI t)] (w7 V dn fb) (some (.int (nI 0))) (w7 V dn fb) := by
  have hV1 := hV.1
  have hV2 := hV.2.1
  have hV3 := hV.2.2
  refine con_of rfl rfl (Nat.le_of_ble_eq_true rfl) ?_
  refine g_lsN (ls' := [_, _, _, _, _, _]) rfl ?_
  refine g_iload_n (n := 1) dX7_addButtress_0 rfl rfl ?_
  refine g_iconst (v := nI 3) (n := 2) dX7_addButtress_1 (by decide) rfl ?_
  refine g_icmp_gt (tgt := 41) (n := 5) dX7_addButtress_2 (by decide) rfl (fun c2 => ?_) (fun c2 => ?_)
  ·
    refine g_iconst (v := nI 0) (n := 42) dX7_addButtress_41 (by decide) rfl ?_
    refine g_istore (n := 44) dX7_addButtress_42 (by decide) rfl rfl ?_
    refine g_lsN (ls' := [_, _, _, _, _, _]) rfl ?_
    refine g_aload_n (n := 45) dX7_addButtress_44 rfl rfl ?_
    refine g_get (n := 48) fl_X7_34 dX7_addButtress_45 rfl rfl rfl ?_
    refine g_bipush (v := nI 6) (n := 50) dX7_addButtress_48 (by decide) rfl ?_
    refine g_icmp_ge (tgt := 58) (n := 53) dX7_addButtress_50 (by decide) rfl (fun c50 => ?_) (fun c50 => ?_)
    ·
      refine g_iconst (v := nI 0) (n := 59) dX7_addButtress_58 (by decide) rfl ?_
      exact g_iret (ty := .boolean) dX7_addButtress_59 rfl (by first | exact bI_nar _ | decide) ⟨Nat.zero_le _, Nat.zero_le _⟩ ⟨rfl, rfl⟩
    ·
      refine g_iload (n := 55) dX7_addButtress_53 rfl rfl ?_
      refine g_if_ne (tgt := 60) (n := 58) dX7_addButtress_55 (by decide) rfl (fun c55 => ?_) (fun c55 => ?_)
      ·
        first | exact absurd rfl c55 | exact absurd ⟨Nat.le_of_not_lt (fun q => c2 (nI_lt q (by omega))), Nat.le_of_not_lt (fun q => c7 (nI_lt q (by omega))), isB_lt (by omega) (bI_n0.mp c21), Nat.le_of_not_lt (fun q => c27 (nI_lt q (by omega))), Nat.le_of_not_lt (fun q => c34 (nI_lt q (by omega))), Nat.lt_of_not_le (fun q => c50 (nI_le q (by omega)))⟩ hn
      ·
        refine g_iconst (v := nI 0) (n := 59) dX7_addButtress_58 (by decide) rfl ?_
        exact g_iret (ty := .boolean) dX7_addButtress_59 rfl (by first | exact bI_nar _ | decide) ⟨Nat.zero_le _, Nat.zero_le _⟩ ⟨rfl, rfl⟩
  ·
    refine g_iload_n (n := 6) dX7_addButtress_5 rfl rfl ?_
    refine g_iconst (v := nI 1) (n := 7) dX7_addButtress_6 (by decide) rfl ?_
    refine g_icmp_lt (tgt := 41) (n := 10) dX7_addButtress_7 (by decide) rfl (fun c7 => ?_) (fun c7 => ?_)
    ·
      refine g_iconst (v := nI 0) (n := 42) dX7_addButtress_41 (by decide) rfl ?_
      refine g_istore (n := 44) dX7_addButtress_42 (by decide) rfl rfl ?_
      refine g_lsN (ls' := [_, _, _, _, _, _]) rfl ?_
      refine g_aload_n (n := 45) dX7_addButtress_44 rfl rfl ?_
      refine g_get (n := 48) fl_X7_34 dX7_addButtress_45 rfl rfl rfl ?_
      refine g_bipush (v := nI 6) (n := 50) dX7_addButtress_48 (by decide) rfl ?_
      refine g_icmp_ge (tgt := 58) (n := 53) dX7_addButtress_50 (by decide) rfl (fun c50 => ?_) (fun c50 => ?_)
      ·
        refine g_iconst (v := nI 0) (n := 59) dX7_addButtress_58 (by decide) rfl ?_
        exact g_iret (ty := .boolean) dX7_addButtress_59 rfl (by first | exact bI_nar _ | decide) ⟨Nat.zero_le _, Nat.zero_le _⟩ ⟨rfl, rfl⟩
      ·
        refine g_iload (n := 55) dX7_addButtress_53 rfl rfl ?_
        refine g_if_ne (tgt := 60) (n := 58) dX7_addButtress_55 (by decide) rfl (fun c55 => ?_) (fun c55 => ?_)
        ·
          first | exact absurd rfl c55 | exact absurd ⟨Nat.le_of_not_lt (fun q => c2 (nI_lt q (by omega))), Nat.le_of_not_lt (fun q => c7 (nI_lt q (by omega))), isB_lt (by omega) (bI_n0.mp c21), Nat.le_of_not_lt (fun q => c27 (nI_lt q (by omega))), Nat.le_of_not_lt (fun q => c34 (nI_lt q (by omega))), Nat.lt_of_not_le (fun q => c50 (nI_le q (by omega)))⟩ hn
        ·
          refine g_iconst (v := nI 0) (n := 59) dX7_addButtress_58 (by decide) rfl ?_
          exact g_iret (ty := .boolean) dX7_addButtress_59 rfl (by first | exact bI_nar _ | decide) ⟨Nat.zero_le _, Nat.zero_le _⟩ ⟨rfl, rfl⟩
    ·
      refine g_iload_n (n := 11) dX7_addButtress_10 rfl rfl ?_
      refine g_bipush (v := nI 99) (n := 13) dX7_addButtress_11 (by decide) rfl ?_
      refine g_icmp_gt (tgt := 41) (n := 16) dX7_addButtress_13 (by decide) rfl (fun c13 => absurd c13 (nI_nlt (by omega) (by omega))) (fun c13 => ?_)
      refine g_aload_n (n := 17) dX7_addButtress_16 rfl rfl ?_
      refine g_iload_n (n := 18) dX7_addButtress_17 rfl rfl ?_
      refine g_cutVi (ps := [0, 1, 2, 3, 4, 5, 6]) (w' := [_, _, _, _, _, _, _]) (n := 21) cv_X7_52 (t_X7_hasBay l V hV dn _) dX7_addButtress_18 rfl rfl rfl ⟨by decide, by decide, rfl, rfl, Nat.zero_le _, Nat.zero_le _⟩ rfl rfl rfl (Nat.le_of_ble_eq_true rfl) rfl rfl rfl ?_
      refine g_if_eq (tgt := 41) (n := 24) dX7_addButtress_21 (by decide) rfl (fun c21 => ?_) (fun c21 => ?_)
      ·
        refine g_iconst (v := nI 0) (n := 42) dX7_addButtress_41 (by decide) rfl ?_
        refine g_istore (n := 44) dX7_addButtress_42 (by decide) rfl rfl ?_
        refine g_lsN (ls' := [_, _, _, _, _, _]) rfl ?_
        refine g_aload_n (n := 45) dX7_addButtress_44 rfl rfl ?_
        refine g_get (n := 48) fl_X7_34 dX7_addButtress_45 rfl rfl rfl ?_
        refine g_bipush (v := nI 6) (n := 50) dX7_addButtress_48 (by decide) rfl ?_
        refine g_icmp_ge (tgt := 58) (n := 53) dX7_addButtress_50 (by decide) rfl (fun c50 => ?_) (fun c50 => ?_)
        ·
          refine g_iconst (v := nI 0) (n := 59) dX7_addButtress_58 (by decide) rfl ?_
          exact g_iret (ty := .boolean) dX7_addButtress_59 rfl (by first | exact bI_nar _ | decide) ⟨Nat.zero_le _, Nat.zero_le _⟩ ⟨rfl, rfl⟩
        ·
          refine g_iload (n := 55) dX7_addButtress_53 rfl rfl ?_
          refine g_if_ne (tgt := 60) (n := 58) dX7_addButtress_55 (by decide) rfl (fun c55 => ?_) (fun c55 => ?_)
          ·
            first | exact absurd rfl c55 | exact absurd ⟨Nat.le_of_not_lt (fun q => c2 (nI_lt q (by omega))), Nat.le_of_not_lt (fun q => c7 (nI_lt q (by omega))), isB_lt (by omega) (bI_n0.mp c21), Nat.le_of_not_lt (fun q => c27 (nI_lt q (by omega))), Nat.le_of_not_lt (fun q => c34 (nI_lt q (by omega))), Nat.lt_of_not_le (fun q => c50 (nI_le q (by omega)))⟩ hn
          ·
            refine g_iconst (v := nI 0) (n := 59) dX7_addButtress_58 (by decide) rfl ?_
            exact g_iret (ty := .boolean) dX7_addButtress_59 rfl (by first | exact bI_nar _ | decide) ⟨Nat.zero_le _, Nat.zero_le _⟩ ⟨rfl, rfl⟩
      ·
        refine g_iload (n := 26) dX7_addButtress_24 rfl rfl ?_
        refine g_iconst (v := nI 1) (n := 27) dX7_addButtress_26 (by decide) rfl ?_
        refine g_icmp_lt (tgt := 41) (n := 30) dX7_addButtress_27 (by decide) rfl (fun c27 => ?_) (fun c27 => ?_)
        ·
          refine g_iconst (v := nI 0) (n := 42) dX7_addButtress_41 (by decide) rfl ?_
          refine g_istore (n := 44) dX7_addButtress_42 (by decide) rfl rfl ?_
          refine g_lsN (ls' := [_, _, _, _, _, _]) rfl ?_
          refine g_aload_n (n := 45) dX7_addButtress_44 rfl rfl ?_
          refine g_get (n := 48) fl_X7_34 dX7_addButtress_45 rfl rfl rfl ?_
          refine g_bipush (v := nI 6) (n := 50) dX7_addButtress_48 (by decide) rfl ?_
          refine g_icmp_ge (tgt := 58) (n := 53) dX7_addButtress_50 (by decide) rfl (fun c50 => ?_) (fun c50 => ?_)
          ·
            refine g_iconst (v := nI 0) (n := 59) dX7_addButtress_58 (by decide) rfl ?_
            exact g_iret (ty := .boolean) dX7_addButtress_59 rfl (by first | exact bI_nar _ | decide) ⟨Nat.zero_le _, Nat.zero_le _⟩ ⟨rfl, rfl⟩
          ·
            refine g_iload (n := 55) dX7_addButtress_53 rfl rfl ?_
            refine g_if_ne (tgt := 60) (n := 58) dX7_addButtress_55 (by decide) rfl (fun c55 => ?_) (fun c55 => ?_)
            ·
              first | exact absurd rfl c55 | exact absurd ⟨Nat.le_of_not_lt (fun q => c2 (nI_lt q (by omega))), Nat.le_of_not_lt (fun q => c7 (nI_lt q (by omega))), isB_lt (by omega) (bI_n0.mp c21), Nat.le_of_not_lt (fun q => c27 (nI_lt q (by omega))), Nat.le_of_not_lt (fun q => c34 (nI_lt q (by omega))), Nat.lt_of_not_le (fun q => c50 (nI_le q (by omega)))⟩ hn
            ·
              refine g_iconst (v := nI 0) (n := 59) dX7_addButtress_58 (by decide) rfl ?_
              exact g_iret (ty := .boolean) dX7_addButtress_59 rfl (by first | exact bI_nar _ | decide) ⟨Nat.zero_le _, Nat.zero_le _⟩ ⟨rfl, rfl⟩
        ·
          refine g_iload (n := 32) dX7_addButtress_30 rfl rfl ?_
          refine g_bipush (v := nI 30) (n := 34) dX7_addButtress_32 (by decide) rfl ?_
          refine g_icmp_gt (tgt := 41) (n := 37) dX7_addButtress_34 (by decide) rfl (fun c34 => ?_) (fun c34 => ?_)
          ·
            refine g_iconst (v := nI 0) (n := 42) dX7_addButtress_41 (by decide) rfl ?_
            refine g_istore (n := 44) dX7_addButtress_42 (by decide) rfl rfl ?_
            refine g_lsN (ls' := [_, _, _, _, _, _]) rfl ?_
            refine g_aload_n (n := 45) dX7_addButtress_44 rfl rfl ?_
            refine g_get (n := 48) fl_X7_34 dX7_addButtress_45 rfl rfl rfl ?_
            refine g_bipush (v := nI 6) (n := 50) dX7_addButtress_48 (by decide) rfl ?_
            refine g_icmp_ge (tgt := 58) (n := 53) dX7_addButtress_50 (by decide) rfl (fun c50 => ?_) (fun c50 => ?_)
            ·
              refine g_iconst (v := nI 0) (n := 59) dX7_addButtress_58 (by decide) rfl ?_
              exact g_iret (ty := .boolean) dX7_addButtress_59 rfl (by first | exact bI_nar _ | decide) ⟨Nat.zero_le _, Nat.zero_le _⟩ ⟨rfl, rfl⟩
            ·
              refine g_iload (n := 55) dX7_addButtress_53 rfl rfl ?_
              refine g_if_ne (tgt := 60) (n := 58) dX7_addButtress_55 (by decide) rfl (fun c55 => ?_) (fun c55 => ?_)
              ·
                first | exact absurd rfl c55 | exact absurd ⟨Nat.le_of_not_lt (fun q => c2 (nI_lt q (by omega))), Nat.le_of_not_lt (fun q => c7 (nI_lt q (by omega))), isB_lt (by omega) (bI_n0.mp c21), Nat.le_of_not_lt (fun q => c27 (nI_lt q (by omega))), Nat.le_of_not_lt (fun q => c34 (nI_lt q (by omega))), Nat.lt_of_not_le (fun q => c50 (nI_le q (by omega)))⟩ hn
              ·
                refine g_iconst (v := nI 0) (n := 59) dX7_addButtress_58 (by decide) rfl ?_
                exact g_iret (ty := .boolean) dX7_addButtress_59 rfl (by first | exact bI_nar _ | decide) ⟨Nat.zero_le _, Nat.zero_le _⟩ ⟨rfl, rfl⟩
          ·
            refine g_iconst (v := nI 1) (n := 38) dX7_addButtress_37 (by decide) rfl ?_
            refine g_goto (tgt := 42) dX7_addButtress_38 (by decide) ?_
            refine g_istore (n := 44) dX7_addButtress_42 (by decide) rfl rfl ?_
            refine g_lsN (ls' := [_, _, _, _, _, _]) rfl ?_
            refine g_aload_n (n := 45) dX7_addButtress_44 rfl rfl ?_
            refine g_get (n := 48) fl_X7_34 dX7_addButtress_45 rfl rfl rfl ?_
            refine g_bipush (v := nI 6) (n := 50) dX7_addButtress_48 (by decide) rfl ?_
            refine g_icmp_ge (tgt := 58) (n := 53) dX7_addButtress_50 (by decide) rfl (fun c50 => ?_) (fun c50 => ?_)
            ·
              refine g_iconst (v := nI 0) (n := 59) dX7_addButtress_58 (by decide) rfl ?_
              exact g_iret (ty := .boolean) dX7_addButtress_59 rfl (by first | exact bI_nar _ | decide) ⟨Nat.zero_le _, Nat.zero_le _⟩ ⟨rfl, rfl⟩
            ·
              refine g_iload (n := 55) dX7_addButtress_53 rfl rfl ?_
              refine g_if_ne (tgt := 60) (n := 58) dX7_addButtress_55 (by decide) rfl (fun c55 => ?_) (fun c55 => ?_)
              ·
                first | exact absurd rfl c55 | exact absurd ⟨Nat.le_of_not_lt (fun q => c2 (nI_lt q (by omega))), Nat.le_of_not_lt (fun q => c7 (nI_lt q (by omega))), isB_lt (by omega) (bI_n0.mp c21), Nat.le_of_not_lt (fun q => c27 (nI_lt q (by omega))), Nat.le_of_not_lt (fun q => c34 (nI_lt q (by omega))), Nat.lt_of_not_le (fun q => c50 (nI_le q (by omega)))⟩ hn
              ·
                refine g_iconst (v := nI 0) (n := 59) dX7_addButtress_58 (by decide) rfl ?_
                exact g_iret (ty := .boolean) dX7_addButtress_59 rfl (by first | exact bI_nar _ | decide) ⟨Nat.zero_le _, Nat.zero_le _⟩ ⟨rfl, rfl⟩
set_option maxRecDepth 20000 in
theorem t_X7_addCarts_ok (l : Launch) (V : WT) (hV : okV V) (dn : Int32) (fb : Nat → Int32) (c : Nat) (hc : c ≤ 1) (h12 : vnc V < 12) : Fn l M_X7_addCarts [.ref 0, .int (nI c)] (w7 V dn fb) (some (.int (nI 1))) (w7 (vC V (nI c)) dn fb) := by
  have hV1 := hV.1
  have hV2 := hV.2.1
  have hV3 := hV.2.2
  refine con_of rfl rfl (Nat.le_of_ble_eq_true rfl) ?_
  refine g_lsN (ls' := [_, _]) rfl ?_
  refine g_aload_n (n := 1) dX7_addCarts_0 rfl rfl ?_
  refine g_get (n := 4) fl_X7_37 dX7_addCarts_1 rfl rfl rfl ?_
  refine g_bipush (v := nI 12) (n := 6) dX7_addCarts_4 (by decide) rfl ?_
  refine g_icmp_ge (tgt := 14) (n := 9) dX7_addCarts_6 (by decide) rfl (fun c6 => absurd c6 (nI_ge (by omega) (by omega))) (fun c6 => ?_)
  refine g_iload_n (n := 10) dX7_addCarts_9 rfl rfl ?_
  refine g_iconst (v := nI 1) (n := 11) dX7_addCarts_10 (by decide) rfl ?_
  refine g_icmp_le (tgt := 16) (n := 14) dX7_addCarts_11 (by decide) rfl (fun c11 => ?_) (fun c11 => absurd (nI_le (by omega) (by omega)) c11)
  refine g_aload_n (n := 17) dX7_addCarts_16 rfl rfl ?_
  refine g_dup (n := 18) dX7_addCarts_17 rfl rfl ?_
  refine g_get (n := 21) fl_X7_40 dX7_addCarts_18 rfl rfl rfl ?_
  refine g_iload_n (n := 22) dX7_addCarts_21 rfl rfl ?_
  refine g_aload_n (n := 23) dX7_addCarts_22 rfl rfl ?_
  refine g_get (n := 26) fl_X7_37 dX7_addCarts_23 rfl rfl rfl ?_
  refine g_ishl (n := 27) dX7_addCarts_26 rfl ?_
  refine g_ior (n := 28) dX7_addCarts_27 rfl ?_
  refine g_put (n := 31) pf_X7_40 dX7_addCarts_28 rfl (Nat.le_of_ble_eq_true rfl) (fun _ => rfl) (fun _ => rfl) rfl ?_
  refine g_wN (w' := [_, _, _, _, _, _, _]) rfl ?_
  refine g_aload_n (n := 32) dX7_addCarts_31 rfl rfl ?_
  refine g_dup (n := 33) dX7_addCarts_32 rfl rfl ?_
  refine g_get (n := 36) fl_X7_37 dX7_addCarts_33 rfl rfl rfl ?_
  refine g_iconst (v := nI 1) (n := 37) dX7_addCarts_36 (by decide) rfl ?_
  refine g_iaddN (n := 38) dX7_addCarts_37 rfl ?_
  refine g_put (n := 41) pf_X7_37 dX7_addCarts_38 rfl (Nat.le_of_ble_eq_true rfl) (fun _ => rfl) (fun _ => rfl) rfl ?_
  refine g_wN (w' := [_, _, _, _, _, _, _]) rfl ?_
  refine g_iconst (v := nI 1) (n := 42) dX7_addCarts_41 (by decide) rfl ?_
  exact g_iret (ty := .boolean) dX7_addCarts_42 rfl (by first | exact bI_nar _ | decide) ⟨Nat.zero_le _, Nat.zero_le _⟩ ⟨rfl, rfl⟩
set_option maxRecDepth 20000 in
theorem t_X7_addCarts_no (l : Launch) (V : WT) (hV : okV V) (dn : Int32) (fb : Nat → Int32) (c : Nat) (hc : c ≤ 99) (hn : ¬ (vnc V < 12 ∧ c ≤ 1)) : Fn l M_X7_addCarts [.ref 0, .int (nI c)] (w7 V dn fb) (some (.int (nI 0))) (w7 V dn fb) := by
  have hV1 := hV.1
  have hV2 := hV.2.1
  have hV3 := hV.2.2
  refine con_of rfl rfl (Nat.le_of_ble_eq_true rfl) ?_
  refine g_lsN (ls' := [_, _]) rfl ?_
  refine g_aload_n (n := 1) dX7_addCarts_0 rfl rfl ?_
  refine g_get (n := 4) fl_X7_37 dX7_addCarts_1 rfl rfl rfl ?_
  refine g_bipush (v := nI 12) (n := 6) dX7_addCarts_4 (by decide) rfl ?_
  refine g_icmp_ge (tgt := 14) (n := 9) dX7_addCarts_6 (by decide) rfl (fun c6 => ?_) (fun c6 => ?_)
  ·
    refine g_iconst (v := nI 0) (n := 15) dX7_addCarts_14 (by decide) rfl ?_
    exact g_iret (ty := .boolean) dX7_addCarts_15 rfl (by first | exact bI_nar _ | decide) ⟨Nat.zero_le _, Nat.zero_le _⟩ ⟨rfl, rfl⟩
  ·
    refine g_iload_n (n := 10) dX7_addCarts_9 rfl rfl ?_
    refine g_iconst (v := nI 1) (n := 11) dX7_addCarts_10 (by decide) rfl ?_
    refine g_icmp_le (tgt := 16) (n := 14) dX7_addCarts_11 (by decide) rfl (fun c11 => ?_) (fun c11 => ?_)
    ·
      exact absurd ⟨Nat.lt_of_not_le (fun q => c6 (nI_le q (by omega))), (nI_leI (by omega) (by omega)).mp c11⟩ hn
    ·
      refine g_iconst (v := nI 0) (n := 15) dX7_addCarts_14 (by decide) rfl ?_
      exact g_iret (ty := .boolean) dX7_addCarts_15 rfl (by first | exact bI_nar _ | decide) ⟨Nat.zero_le _, Nat.zero_le _⟩ ⟨rfl, rfl⟩
set_option maxRecDepth 20000 in
theorem t_X7_addDown_ok (l : Launch) (V : WT) (hV : okV V) (dn : Int32) (fb : Nat → Int32) (x : Nat) (hx : x < vnf V) : Fn l M_X7_addDown [.ref 0, .int (nI x)] (w7 V dn fb) (some (.int (nI 1))) (w7 V (dn ||| nI 1 <<< (nI x &&& 31)) fb) := by
  have hV1 := hV.1
  have hV2 := hV.2.1
  have hV3 := hV.2.2
  refine con_of rfl rfl (Nat.le_of_ble_eq_true rfl) ?_
  refine g_lsN (ls' := [_, _]) rfl ?_
  refine g_aload_n (n := 1) dX7_addDown_0 rfl rfl ?_
  refine g_iload_n (n := 2) dX7_addDown_1 rfl rfl ?_
  refine g_cutVi (ps := [0, 1, 2, 3, 4, 5, 6]) (w' := [_, _, _, _, _, _, _]) (n := 5) cv_X7_56 (t_X7_hasButtress l V hV dn _) dX7_addDown_2 rfl rfl rfl ⟨by decide, by decide, rfl, rfl, Nat.zero_le _, Nat.zero_le _⟩ rfl rfl rfl (Nat.le_of_ble_eq_true rfl) rfl rfl rfl ?_
  refine g_if_ne (tgt := 10) (n := 8) dX7_addDown_5 (by decide) rfl (fun c5 => ?_) (fun c5 => absurd c5 (bI_n0.mpr (show isB (vnf V) (nI x) = true by rw [isB_nI (by omega) (by omega)]; exact decide_eq_true hx)))
  refine g_aload_n (n := 11) dX7_addDown_10 rfl rfl ?_
  refine g_dup (n := 12) dX7_addDown_11 rfl rfl ?_
  refine g_get (n := 15) fl_X7_43 dX7_addDown_12 rfl rfl rfl ?_
  refine g_iconst (v := nI 1) (n := 16) dX7_addDown_15 (by decide) rfl ?_
  refine g_iload_n (n := 17) dX7_addDown_16 rfl rfl ?_
  refine g_ishl (n := 18) dX7_addDown_17 rfl ?_
  refine g_ior (n := 19) dX7_addDown_18 rfl ?_
  refine g_put (n := 22) pf_X7_43 dX7_addDown_19 rfl (Nat.le_of_ble_eq_true rfl) (fun _ => rfl) (fun _ => rfl) rfl ?_
  refine g_wN (w' := [_, _, _, _, _, _, _]) rfl ?_
  refine g_iconst (v := nI 1) (n := 23) dX7_addDown_22 (by decide) rfl ?_
  exact g_iret (ty := .boolean) dX7_addDown_23 rfl (by first | exact bI_nar _ | decide) ⟨Nat.zero_le _, Nat.zero_le _⟩ ⟨rfl, rfl⟩
set_option maxRecDepth 20000 in
theorem t_X7_addDown_no (l : Launch) (V : WT) (hV : okV V) (dn : Int32) (fb : Nat → Int32) (x : Nat) (hx9 : x ≤ 99) (hx : ¬ x < vnf V) : Fn l M_X7_addDown [.ref 0, .int (nI x)] (w7 V dn fb) (some (.int (nI 0))) (w7 V dn fb) := by
  have hV1 := hV.1
  have hV2 := hV.2.1
  have hV3 := hV.2.2
  refine con_of rfl rfl (Nat.le_of_ble_eq_true rfl) ?_
  refine g_lsN (ls' := [_, _]) rfl ?_
  refine g_aload_n (n := 1) dX7_addDown_0 rfl rfl ?_
  refine g_iload_n (n := 2) dX7_addDown_1 rfl rfl ?_
  refine g_cutVi (ps := [0, 1, 2, 3, 4, 5, 6]) (w' := [_, _, _, _, _, _, _]) (n := 5) cv_X7_56 (t_X7_hasButtress l V hV dn _) dX7_addDown_2 rfl rfl rfl ⟨by decide, by decide, rfl, rfl, Nat.zero_le _, Nat.zero_le _⟩ rfl rfl rfl (Nat.le_of_ble_eq_true rfl) rfl rfl rfl ?_
  refine g_if_ne (tgt := 10) (n := 8) dX7_addDown_5 (by decide) rfl (fun c5 => ?_) (fun c5 => ?_)
  ·
    exact absurd (isB_lt (by omega) (bI_n0.mp c5)) hx
  ·
    refine g_iconst (v := nI 0) (n := 9) dX7_addDown_8 (by decide) rfl ?_
    exact g_iret (ty := .boolean) dX7_addDown_9 rfl (by first | exact bI_nar _ | decide) ⟨Nat.zero_le _, Nat.zero_le _⟩ ⟨rfl, rfl⟩
abbrev tk9 (nm : Nat → Int32) (nx : Int32) (V : WT) (dn : Int32) (fb : Nat → Int32) : List va_E := [.inr (1, [.ref 1, .int nx]), .inl (0, 4, .inl nm), wo V dn 2, a8 (vth V), a8 (vpa V), a6 (vki V), a6 (vsg V), a6 fb, a6 (vkn V)]
set_option maxRecDepth 20000 in
theorem t_X1_takeItem_b1 (l : Launch) (nm : Nat → Int32) (nx : Int32) (V : WT) (hV : okV V) (dn : Int32) (fb : Nat → Int32) (t h : Nat) (e0 : nm 0 = nI t) (e1 : nm 1 = nI h) (ht : t ≤ 99) (hh : h ≤ 20) (hb8 : vnb V < 8) : Fn l M_X1_takeItem [.ref 0, .int (nI 98), .ref 2] (tk9 nm nx V dn fb) (some (.int (nI 1))) (tk9 nm nx (vB V (nI t) (nI h)) dn fb) := by
  refine con_of rfl rfl (Nat.le_of_ble_eq_true rfl) ?_
  refine g_lsN (ls' := [_, _, _]) rfl ?_
  refine g_iload_n (n := 1) dX1_takeItem_0 rfl rfl ?_
  refine g_tableIn (tgt := 36) dX1_takeItem_1 (by decide) (by decide) rfl (by decide) ?_
  refine g_aload_n (n := 37) dX1_takeItem_36 rfl rfl ?_
  refine g_aload_n (n := 38) dX1_takeItem_37 rfl rfl ?_
  refine g_get (n := 41) fl_X1_9 dX1_takeItem_38 rfl rfl rfl ?_
  refine g_iconst (v := nI 0) (n := 42) dX1_takeItem_41 (by decide) rfl ?_
  refine g_ialdN (n := 43) dX1_takeItem_42 rfl rfl (by decide) (by omega) ?_
  refine g_top e0 ?_
  refine g_aload_n (n := 44) dX1_takeItem_43 rfl rfl ?_
  refine g_get (n := 47) fl_X1_9 dX1_takeItem_44 rfl rfl rfl ?_
  refine g_iconst (v := nI 1) (n := 48) dX1_takeItem_47 (by decide) rfl ?_
  refine g_ialdN (n := 49) dX1_takeItem_48 rfl rfl (by decide) (by omega) ?_
  refine g_top e1 ?_
  refine g_cutVi (ps := [2, 3, 4, 5, 6, 7, 8]) (w' := [_, _, _, _, _, _, _, _, _]) (n := 52) cv_X1_52 (t_X7_addBay_ok l V hV dn fb t h ht hh hb8) dX1_takeItem_49 rfl rfl rfl ⟨by decide, by decide, rfl, rfl, Nat.zero_le _, Nat.zero_le _⟩ rfl rfl rfl (Nat.le_of_ble_eq_true rfl) rfl rfl rfl ?_
  exact g_iret (ty := .boolean) dX1_takeItem_52 rfl (by first | exact bI_nar _ | decide) ⟨Nat.zero_le _, Nat.zero_le _⟩ ⟨rfl, rfl⟩
set_option maxRecDepth 20000 in
theorem t_X1_takeItem_b0 (l : Launch) (nm : Nat → Int32) (nx : Int32) (V : WT) (hV : okV V) (dn : Int32) (fb : Nat → Int32) (t h : Nat) (e0 : nm 0 = nI t) (e1 : nm 1 = nI h) (ht : t ≤ 99) (hh : h ≤ 99) (hn : ¬ (vnb V < 8 ∧ h ≤ 20)) : Fn l M_X1_takeItem [.ref 0, .int (nI 98), .ref 2] (tk9 nm nx V dn fb) (some (.int (nI 0))) (tk9 nm nx V dn fb) := by
  refine con_of rfl rfl (Nat.le_of_ble_eq_true rfl) ?_
  refine g_lsN (ls' := [_, _, _]) rfl ?_
  refine g_iload_n (n := 1) dX1_takeItem_0 rfl rfl ?_
  refine g_tableIn (tgt := 36) dX1_takeItem_1 (by decide) (by decide) rfl (by decide) ?_
  refine g_aload_n (n := 37) dX1_takeItem_36 rfl rfl ?_
  refine g_aload_n (n := 38) dX1_takeItem_37 rfl rfl ?_
  refine g_get (n := 41) fl_X1_9 dX1_takeItem_38 rfl rfl rfl ?_
  refine g_iconst (v := nI 0) (n := 42) dX1_takeItem_41 (by decide) rfl ?_
  refine g_ialdN (n := 43) dX1_takeItem_42 rfl rfl (by decide) (by omega) ?_
  refine g_top e0 ?_
  refine g_aload_n (n := 44) dX1_takeItem_43 rfl rfl ?_
  refine g_get (n := 47) fl_X1_9 dX1_takeItem_44 rfl rfl rfl ?_
  refine g_iconst (v := nI 1) (n := 48) dX1_takeItem_47 (by decide) rfl ?_
  refine g_ialdN (n := 49) dX1_takeItem_48 rfl rfl (by decide) (by omega) ?_
  refine g_top e1 ?_
  refine g_cutVi (ps := [2, 3, 4, 5, 6, 7, 8]) (w' := [_, _, _, _, _, _, _, _, _]) (n := 52) cv_X1_52 (t_X7_addBay_no l V hV dn fb t h ht hh hn) dX1_takeItem_49 rfl rfl rfl ⟨by decide, by decide, rfl, rfl, Nat.zero_le _, Nat.zero_le _⟩ rfl rfl rfl (Nat.le_of_ble_eq_true rfl) rfl rfl rfl ?_
  exact g_iret (ty := .boolean) dX1_takeItem_52 rfl (by first | exact bI_nar _ | decide) ⟨Nat.zero_le _, Nat.zero_le _⟩ ⟨rfl, rfl⟩
set_option maxRecDepth 20000 in
theorem t_X1_takeItem_f1 (l : Launch) (nm : Nat → Int32) (nx : Int32) (V : WT) (hV : okV V) (dn : Int32) (fb : Nat → Int32) (k s x t : Nat) (e0 : nm 0 = nI k) (e1 : nm 1 = nI s) (e2 : nm 2 = nI x) (e3 : nm 3 = nI t) (hk : k ≤ 99) (hs : s ≤ 99) (hx : x ≤ 99) (ht : t ≤ 99) (h1 : k ≤ 3) (h2 : 1 ≤ s) (h3 : x < vnb V) (h4 : 1 ≤ t) (h5 : t ≤ 30) (h6 : vnf V < 6) : Fn l M_X1_takeItem [.ref 0, .int (nI 102), .ref 2] (tk9 nm nx V dn fb) (some (.int (nI 1))) (tk9 nm nx (vF V (nI k) (nI s) (nI t)) dn (upd fb (vnf V) (nI x))) := by
  refine con_of rfl rfl (Nat.le_of_ble_eq_true rfl) ?_
  refine g_lsN (ls' := [_, _, _]) rfl ?_
  refine g_iload_n (n := 1) dX1_takeItem_0 rfl rfl ?_
  refine g_tableIn (tgt := 53) dX1_takeItem_1 (by decide) (by decide) rfl (by decide) ?_
  refine g_aload_n (n := 54) dX1_takeItem_53 rfl rfl ?_
  refine g_aload_n (n := 55) dX1_takeItem_54 rfl rfl ?_
  refine g_get (n := 58) fl_X1_9 dX1_takeItem_55 rfl rfl rfl ?_
  refine g_iconst (v := nI 0) (n := 59) dX1_takeItem_58 (by decide) rfl ?_
  refine g_ialdN (n := 60) dX1_takeItem_59 rfl rfl (by decide) (by omega) ?_
  refine g_top e0 ?_
  refine g_aload_n (n := 61) dX1_takeItem_60 rfl rfl ?_
  refine g_get (n := 64) fl_X1_9 dX1_takeItem_61 rfl rfl rfl ?_
  refine g_iconst (v := nI 1) (n := 65) dX1_takeItem_64 (by decide) rfl ?_
  refine g_ialdN (n := 66) dX1_takeItem_65 rfl rfl (by decide) (by omega) ?_
  refine g_top e1 ?_
  refine g_aload_n (n := 67) dX1_takeItem_66 rfl rfl ?_
  refine g_get (n := 70) fl_X1_9 dX1_takeItem_67 rfl rfl rfl ?_
  refine g_iconst (v := nI 2) (n := 71) dX1_takeItem_70 (by decide) rfl ?_
  refine g_ialdN (n := 72) dX1_takeItem_71 rfl rfl (by decide) (by omega) ?_
  refine g_top e2 ?_
  refine g_aload_n (n := 73) dX1_takeItem_72 rfl rfl ?_
  refine g_get (n := 76) fl_X1_9 dX1_takeItem_73 rfl rfl rfl ?_
  refine g_iconst (v := nI 3) (n := 77) dX1_takeItem_76 (by decide) rfl ?_
  refine g_ialdN (n := 78) dX1_takeItem_77 rfl rfl (by decide) (by omega) ?_
  refine g_top e3 ?_
  refine g_cutVi (ps := [2, 3, 4, 5, 6, 7, 8]) (w' := [_, _, _, _, _, _, _, _, _]) (n := 81) cv_X1_56 (t_X7_addButtress_ok l V hV dn fb k s x t hk hs (by have := hV.1; omega) ht h1 h2 h3 h4 h5 h6) dX1_takeItem_78 rfl rfl rfl ⟨by decide, by decide, rfl, rfl, Nat.zero_le _, Nat.zero_le _⟩ rfl rfl rfl (Nat.le_of_ble_eq_true rfl) rfl rfl rfl ?_
  exact g_iret (ty := .boolean) dX1_takeItem_81 rfl (by first | exact bI_nar _ | decide) ⟨Nat.zero_le _, Nat.zero_le _⟩ ⟨rfl, rfl⟩
set_option maxRecDepth 20000 in
theorem t_X1_takeItem_f0 (l : Launch) (nm : Nat → Int32) (nx : Int32) (V : WT) (hV : okV V) (dn : Int32) (fb : Nat → Int32) (k s x t : Nat) (e0 : nm 0 = nI k) (e1 : nm 1 = nI s) (e2 : nm 2 = nI x) (e3 : nm 3 = nI t) (hk : k ≤ 99) (hs : s ≤ 99) (hx : x ≤ 99) (ht : t ≤ 99) (hn : ¬ (k ≤ 3 ∧ 1 ≤ s ∧ x < vnb V ∧ 1 ≤ t ∧ t ≤ 30 ∧ vnf V < 6)) : Fn l M_X1_takeItem [.ref 0, .int (nI 102), .ref 2] (tk9 nm nx V dn fb) (some (.int (nI 0))) (tk9 nm nx V dn fb) := by
  refine con_of rfl rfl (Nat.le_of_ble_eq_true rfl) ?_
  refine g_lsN (ls' := [_, _, _]) rfl ?_
  refine g_iload_n (n := 1) dX1_takeItem_0 rfl rfl ?_
  refine g_tableIn (tgt := 53) dX1_takeItem_1 (by decide) (by decide) rfl (by decide) ?_
  refine g_aload_n (n := 54) dX1_takeItem_53 rfl rfl ?_
  refine g_aload_n (n := 55) dX1_takeItem_54 rfl rfl ?_
  refine g_get (n := 58) fl_X1_9 dX1_takeItem_55 rfl rfl rfl ?_
  refine g_iconst (v := nI 0) (n := 59) dX1_takeItem_58 (by decide) rfl ?_
  refine g_ialdN (n := 60) dX1_takeItem_59 rfl rfl (by decide) (by omega) ?_
  refine g_top e0 ?_
  refine g_aload_n (n := 61) dX1_takeItem_60 rfl rfl ?_
  refine g_get (n := 64) fl_X1_9 dX1_takeItem_61 rfl rfl rfl ?_
  refine g_iconst (v := nI 1) (n := 65) dX1_takeItem_64 (by decide) rfl ?_
  refine g_ialdN (n := 66) dX1_takeItem_65 rfl rfl (by decide) (by omega) ?_
  refine g_top e1 ?_
  refine g_aload_n (n := 67) dX1_takeItem_66 rfl rfl ?_
  refine g_get (n := 70) fl_X1_9 dX1_takeItem_67 rfl rfl rfl ?_
  refine g_iconst (v := nI 2) (n := 71) dX1_takeItem_70 (by decide) rfl ?_
  refine g_ialdN (n := 72) dX1_takeItem_71 rfl rfl (by decide) (by omega) ?_
  refine g_top e2 ?_
  refine g_aload_n (n := 73) dX1_takeItem_72 rfl rfl ?_
  refine g_get (n := 76) fl_X1_9 dX1_takeItem_73 rfl rfl rfl ?_
  refine g_iconst (v := nI 3) (n := 77) dX1_takeItem_76 (by decide) rfl ?_
  refine g_ialdN (n := 78) dX1_takeItem_77 rfl rfl (by decide) (by omega) ?_
  refine g_top e3 ?_
  refine g_cutVi (ps := [2, 3, 4, 5, 6, 7, 8]) (w' := [_, _, _, _, _, _, _, _, _]) (n := 81) cv_X1_56 (t_X7_addButtress_no l V hV dn fb k s x t hk hs hx ht hn) dX1_takeItem_78 rfl rfl rfl ⟨by decide, by decide, rfl, rfl, Nat.zero_le _, Nat.zero_le _⟩ rfl rfl rfl (Nat.le_of_ble_eq_true rfl) rfl rfl rfl ?_
  exact g_iret (ty := .boolean) dX1_takeItem_81 rfl (by first | exact bI_nar _ | decide) ⟨Nat.zero_le _, Nat.zero_le _⟩ ⟨rfl, rfl⟩
set_option maxRecDepth 20000 in
theorem t_X1_takeItem_c1 (l : Launch) (nm : Nat → Int32) (nx : Int32) (V : WT) (hV : okV V) (dn : Int32) (fb : Nat → Int32) (c : Nat) (e0 : nm 0 = nI c) (hc : c ≤ 1) (h12 : vnc V < 12) : Fn l M_X1_takeItem [.ref 0, .int (nI 99), .ref 2] (tk9 nm nx V dn fb) (some (.int (nI 1))) (tk9 nm nx (vC V (nI c)) dn fb) := by
  refine con_of rfl rfl (Nat.le_of_ble_eq_true rfl) ?_
  refine g_lsN (ls' := [_, _, _]) rfl ?_
  refine g_iload_n (n := 1) dX1_takeItem_0 rfl rfl ?_
  refine g_tableIn (tgt := 82) dX1_takeItem_1 (by decide) (by decide) rfl (by decide) ?_
  refine g_aload_n (n := 83) dX1_takeItem_82 rfl rfl ?_
  refine g_aload_n (n := 84) dX1_takeItem_83 rfl rfl ?_
  refine g_get (n := 87) fl_X1_9 dX1_takeItem_84 rfl rfl rfl ?_
  refine g_iconst (v := nI 0) (n := 88) dX1_takeItem_87 (by decide) rfl ?_
  refine g_ialdN (n := 89) dX1_takeItem_88 rfl rfl (by decide) (by omega) ?_
  refine g_top e0 ?_
  refine g_cutVi (ps := [2, 3, 4, 5, 6, 7, 8]) (w' := [_, _, _, _, _, _, _, _, _]) (n := 92) cv_X1_60 (t_X7_addCarts_ok l V hV dn fb c hc h12) dX1_takeItem_89 rfl rfl rfl ⟨by decide, by decide, rfl, rfl, Nat.zero_le _, Nat.zero_le _⟩ rfl rfl rfl (Nat.le_of_ble_eq_true rfl) rfl rfl rfl ?_
  exact g_iret (ty := .boolean) dX1_takeItem_92 rfl (by first | exact bI_nar _ | decide) ⟨Nat.zero_le _, Nat.zero_le _⟩ ⟨rfl, rfl⟩
set_option maxRecDepth 20000 in
theorem t_X1_takeItem_c0 (l : Launch) (nm : Nat → Int32) (nx : Int32) (V : WT) (hV : okV V) (dn : Int32) (fb : Nat → Int32) (c : Nat) (e0 : nm 0 = nI c) (hc : c ≤ 99) (hn : ¬ (vnc V < 12 ∧ c ≤ 1)) : Fn l M_X1_takeItem [.ref 0, .int (nI 99), .ref 2] (tk9 nm nx V dn fb) (some (.int (nI 0))) (tk9 nm nx V dn fb) := by
  refine con_of rfl rfl (Nat.le_of_ble_eq_true rfl) ?_
  refine g_lsN (ls' := [_, _, _]) rfl ?_
  refine g_iload_n (n := 1) dX1_takeItem_0 rfl rfl ?_
  refine g_tableIn (tgt := 82) dX1_takeItem_1 (by decide) (by decide) rfl (by decide) ?_
  refine g_aload_n (n := 83) dX1_takeItem_82 rfl rfl ?_
  refine g_aload_n (n := 84) dX1_takeItem_83 rfl rfl ?_
  refine g_get (n := 87) fl_X1_9 dX1_takeItem_84 rfl rfl rfl ?_
  refine g_iconst (v := nI 0) (n := 88) dX1_takeItem_87 (by decide) rfl ?_
  refine g_ialdN (n := 89) dX1_takeItem_88 rfl rfl (by decide) (by omega) ?_
  refine g_top e0 ?_
  refine g_cutVi (ps := [2, 3, 4, 5, 6, 7, 8]) (w' := [_, _, _, _, _, _, _, _, _]) (n := 92) cv_X1_60 (t_X7_addCarts_no l V hV dn fb c hc hn) dX1_takeItem_89 rfl rfl rfl ⟨by decide, by decide, rfl, rfl, Nat.zero_le _, Nat.zero_le _⟩ rfl rfl rfl (Nat.le_of_ble_eq_true rfl) rfl rfl rfl ?_
  exact g_iret (ty := .boolean) dX1_takeItem_92 rfl (by first | exact bI_nar _ | decide) ⟨Nat.zero_le _, Nat.zero_le _⟩ ⟨rfl, rfl⟩
set_option maxRecDepth 20000 in
theorem t_X1_takeItem_d1 (l : Launch) (nm : Nat → Int32) (nx : Int32) (V : WT) (hV : okV V) (dn : Int32) (fb : Nat → Int32) (x : Nat) (e0 : nm 0 = nI x) (hx : x < vnf V) : Fn l M_X1_takeItem [.ref 0, .int (nI 100), .ref 2] (tk9 nm nx V dn fb) (some (.int (nI 1))) (tk9 nm nx V (dn ||| nI 1 <<< (nI x &&& 31)) fb) := by
  refine con_of rfl rfl (Nat.le_of_ble_eq_true rfl) ?_
  refine g_lsN (ls' := [_, _, _]) rfl ?_
  refine g_iload_n (n := 1) dX1_takeItem_0 rfl rfl ?_
  refine g_tableIn (tgt := 93) dX1_takeItem_1 (by decide) (by decide) rfl (by decide) ?_
  refine g_aload_n (n := 94) dX1_takeItem_93 rfl rfl ?_
  refine g_aload_n (n := 95) dX1_takeItem_94 rfl rfl ?_
  refine g_get (n := 98) fl_X1_9 dX1_takeItem_95 rfl rfl rfl ?_
  refine g_iconst (v := nI 0) (n := 99) dX1_takeItem_98 (by decide) rfl ?_
  refine g_ialdN (n := 100) dX1_takeItem_99 rfl rfl (by decide) (by omega) ?_
  refine g_top e0 ?_
  refine g_cutVi (ps := [2, 3, 4, 5, 6, 7, 8]) (w' := [_, _, _, _, _, _, _, _, _]) (n := 103) cv_X1_64 (t_X7_addDown_ok l V hV dn fb x hx) dX1_takeItem_100 rfl rfl rfl ⟨by decide, by decide, rfl, rfl, Nat.zero_le _, Nat.zero_le _⟩ rfl rfl rfl (Nat.le_of_ble_eq_true rfl) rfl rfl rfl ?_
  exact g_iret (ty := .boolean) dX1_takeItem_103 rfl (by first | exact bI_nar _ | decide) ⟨Nat.zero_le _, Nat.zero_le _⟩ ⟨rfl, rfl⟩
set_option maxRecDepth 20000 in
theorem t_X1_takeItem_d0 (l : Launch) (nm : Nat → Int32) (nx : Int32) (V : WT) (hV : okV V) (dn : Int32) (fb : Nat → Int32) (x : Nat) (e0 : nm 0 = nI x) (hx9 : x ≤ 99) (hx : ¬ x < vnf V) : Fn l M_X1_takeItem [.ref 0, .int (nI 100), .ref 2] (tk9 nm nx V dn fb) (some (.int (nI 0))) (tk9 nm nx V dn fb) := by
  refine con_of rfl rfl (Nat.le_of_ble_eq_true rfl) ?_
  refine g_lsN (ls' := [_, _, _]) rfl ?_
  refine g_iload_n (n := 1) dX1_takeItem_0 rfl rfl ?_
  refine g_tableIn (tgt := 93) dX1_takeItem_1 (by decide) (by decide) rfl (by decide) ?_
  refine g_aload_n (n := 94) dX1_takeItem_93 rfl rfl ?_
  refine g_aload_n (n := 95) dX1_takeItem_94 rfl rfl ?_
  refine g_get (n := 98) fl_X1_9 dX1_takeItem_95 rfl rfl rfl ?_
  refine g_iconst (v := nI 0) (n := 99) dX1_takeItem_98 (by decide) rfl ?_
  refine g_ialdN (n := 100) dX1_takeItem_99 rfl rfl (by decide) (by omega) ?_
  refine g_top e0 ?_
  refine g_cutVi (ps := [2, 3, 4, 5, 6, 7, 8]) (w' := [_, _, _, _, _, _, _, _, _]) (n := 103) cv_X1_64 (t_X7_addDown_no l V hV dn fb x hx9 hx) dX1_takeItem_100 rfl rfl rfl ⟨by decide, by decide, rfl, rfl, Nat.zero_le _, Nat.zero_le _⟩ rfl rfl rfl (Nat.le_of_ble_eq_true rfl) rfl rfl rfl ?_
  exact g_iret (ty := .boolean) dX1_takeItem_103 rfl (by first | exact bI_nar _ | decide) ⟨Nat.zero_le _, Nat.zero_le _⟩ ⟨rfl, rfl⟩

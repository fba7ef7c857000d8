/-! 12.mhour: the reference's loads, props, what is held -/
def isB (nb : Nat) (x : Int32) : Bool := inB x (nI 0) (nI nb - nI 1)
theorem isB_t {nb : Nat} {x : Int32} (hn : nb ≤ 64) (h : isB nb x = true) : ∃ b : Nat, b < nb ∧ x = nI b := by
  simp only [isB, inB, Bool.and_eq_true, decide_eq_true_eq, Int32.le_iff_toInt_le] at h
  obtain ⟨h1, h2⟩ := h
  rw [pk_sub_toInt (by omega) (by omega)] at h2
  rw [nI_toInt (by omega)] at h1
  refine ⟨x.toInt.toNat, by omega, ?_⟩
  apply Int32.toInt_inj.mp
  rw [nI_toInt (by omega)]
  omega
theorem isB_nI {nb b : Nat} (hn : nb ≤ 64) (hb : b < 64) : isB nb (nI b) = decide (b < nb) := by
  simp only [isB, inB, Int32.le_iff_toInt_le]
  rw [pk_sub_toInt (by omega) (by omega), nI_toInt (by omega), nI_toInt (by omega)]
  by_cases h : b < nb
  · simp only [h, decide_true]
    rw [decide_eq_true (by omega), decide_eq_true (by omega)]; rfl
  · simp only [h, decide_false]
    rw [decide_eq_false (p := (b : Int) ≤ _) (by omega), Bool.and_false]
def ldF (V : WT) (S : ST) (b : Nat) : Int32 := vth V b + (if decide (0 < b) && hb (sfa S) (nI (b - 1)) then vth V (b - 1) / nI 2 else nI 0) + (if decide (b + 1 < vnb V) && hb (sfa S) (nI (b + 1)) then vth V (b + 1) / nI 2 else nI 0)
def srN (V : WT) (S : ST) (b : Nat) : Nat → Int32
  | 0 => nI 0
  | f + 1 => srN V S b f + (if hb (sup S) (nI f) && decide (sbo S f = nI b) then vsg V f else nI 0)
def srF (V : WT) (S : ST) (b : Nat) : Int32 := srN V S b (vnf V)
def hpF (V : WT) (S : ST) (b : Nat) : Int32 := if hb (sfa S) (nI b) then nI 0 else if srF V S b - ldF V S b ≤ 0 then nI 0 else (srF V S b - ldF V S b) / nI 2
def hpI (V : WT) (S : ST) (x : Int32) : Int32 := if isB (vnb V) x then hpF V S x.toNatClampNeg else nI 0
def prF (V : WT) (S : ST) (b : Nat) : Int32 := srF V S b + hpI V S (nI b - nI 1) + hpI V S (nI (b + 1))
def isH (V : WT) (S : ST) (b : Nat) : Bool := !hb (sfa S) (nI b) && decide (ldF V S b ≤ prF V S b)
def hdN (V : WT) (S : ST) : Nat → Int32
  | 0 => nI 0
  | b + 1 => hdN V S b ||| (if isH V S b then nI 1 <<< (nI b &&& 31) else nI 0)

set_option maxRecDepth 20000 in
theorem t_X9_isBay (l : Launch) (e : MR) (V : WT) (s : Nat → Int32) (x : Int32) : Fn l M_X9_isBay [.ref 0, .int x] (mw e (tk V) s) (some (.int (bI (isB (vnb V) x)))) (mw e (tk V) s) := by
  refine con_of rfl rfl (Nat.le_of_ble_eq_true rfl) ?_
  refine g_lsN (ls' := [_, _]) rfl ?_
  refine g_iload_n (n := 1) dX9_isBay_0 rfl rfl ?_
  refine g_iconst (v := nI 0) (n := 2) dX9_isBay_1 (by decide) rfl ?_
  refine g_aload_n (n := 3) dX9_isBay_2 rfl rfl ?_
  refine g_get (n := 6) fl_X9_13 dX9_isBay_3 rfl rfl rfl ?_
  refine g_iconst (v := nI 0) (n := 7) dX9_isBay_6 (by decide) rfl ?_
  refine g_ialdN (n := 8) dX9_isBay_7 rfl rfl (by decide) (by omega) ?_
  refine g_top (tk_0 _) ?_
  refine g_iconst (v := nI 1) (n := 9) dX9_isBay_8 (by decide) rfl ?_
  refine g_isub (n := 10) dX9_isBay_9 rfl ?_
  refine g_callSi (n := 13) cs_X9_52 (t_X9_in l _ _ _) dX9_isBay_10 rfl rfl ⟨by decide, by decide, rfl, rfl, Nat.zero_le _, Nat.zero_le _⟩ rfl (Nat.le_of_ble_eq_true rfl) rfl ?_
  exact g_iret (ty := .boolean) dX9_isBay_13 rfl (by first | exact bI_nar _ | decide) ⟨Nat.zero_le _, Nat.zero_le _⟩ ⟨rfl, rfl⟩
set_option maxRecDepth 20000 in
theorem t_X9_isButtress (l : Launch) (e : MR) (V : WT) (s : Nat → Int32) (x : Int32) : Fn l M_X9_isButtress [.ref 0, .int x] (mw e (tk V) s) (some (.int (bI (isB (vnf V) x)))) (mw e (tk V) s) := by
  refine con_of rfl rfl (Nat.le_of_ble_eq_true rfl) ?_
  refine g_lsN (ls' := [_, _]) rfl ?_
  refine g_iload_n (n := 1) dX9_isButtress_0 rfl rfl ?_
  refine g_iconst (v := nI 0) (n := 2) dX9_isButtress_1 (by decide) rfl ?_
  refine g_aload_n (n := 3) dX9_isButtress_2 rfl rfl ?_
  refine g_get (n := 6) fl_X9_13 dX9_isButtress_3 rfl rfl rfl ?_
  refine g_iconst (v := nI 1) (n := 7) dX9_isButtress_6 (by decide) rfl ?_
  refine g_ialdN (n := 8) dX9_isButtress_7 rfl rfl (by decide) (by omega) ?_
  refine g_top (tk_1 _) ?_
  refine g_iconst (v := nI 1) (n := 9) dX9_isButtress_8 (by decide) rfl ?_
  refine g_isub (n := 10) dX9_isButtress_9 rfl ?_
  refine g_callSi (n := 13) cs_X9_52 (t_X9_in l _ _ _) dX9_isButtress_10 rfl rfl ⟨by decide, by decide, rfl, rfl, Nat.zero_le _, Nat.zero_le _⟩ rfl (Nat.le_of_ble_eq_true rfl) rfl ?_
  exact g_iret (ty := .boolean) dX9_isButtress_13 rfl (by first | exact bI_nar _ | decide) ⟨Nat.zero_le _, Nat.zero_le _⟩ ⟨rfl, rfl⟩
set_option maxRecDepth 20000 in
theorem t_X9_hasFallen (l : Launch) (e : MR) (to : Nat → Int32) (S : ST) (x : Int32) : Fn l M_X9_hasFallen [.ref 0, .int x] (mw e to (pk S)) (some (.int (bI (hb (sfa S) x)))) (mw e to (pk S)) := by
  refine con_of rfl rfl (Nat.le_of_ble_eq_true rfl) ?_
  refine g_lsN (ls' := [_, _]) rfl ?_
  refine g_aload_n (n := 1) dX9_hasFallen_0 rfl rfl ?_
  refine g_get (n := 4) fl_X9_22 dX9_hasFallen_1 rfl rfl rfl ?_
  refine g_iconst (v := nI 2) (n := 5) dX9_hasFallen_4 (by decide) rfl ?_
  refine g_ialdN (n := 6) dX9_hasFallen_5 rfl rfl (by decide) (by omega) ?_
  refine g_top (sk_2 _) ?_
  refine g_iload_n (n := 7) dX9_hasFallen_6 rfl rfl ?_
  refine g_callSi (n := 10) cs_X9_94 (t_X9_has l _ _) dX9_hasFallen_7 rfl rfl ⟨by decide, by decide, rfl, rfl, Nat.zero_le _, Nat.zero_le _⟩ rfl (Nat.le_of_ble_eq_true rfl) rfl ?_
  exact g_iret (ty := .boolean) dX9_hasFallen_10 rfl (by first | exact bI_nar _ | decide) ⟨Nat.zero_le _, Nat.zero_le _⟩ ⟨rfl, rfl⟩
set_option maxRecDepth 20000 in
theorem t_X9_load (l : Launch) (e : MR) (V : WT) (S : ST) (hV : okV V) (b : Nat) (hbn : b < vnb V) : Fn l M_X9_load [.ref 0, .int (nI b)] (mw e (tk V) (pk S)) (some (.int (ldF V S b))) (mw e (tk V) (pk S)) := by
  refine con_of rfl rfl (Nat.le_of_ble_eq_true rfl) ?_
  refine g_lsN (ls' := [_, _, _, _]) rfl ?_
  obtain ⟨hV1, hV2, hV3⟩ := hV
  have J69 : G l M_X9_load ((mw e (tk V) (pk S)).length, 0, 0) (fun r u => r = some (.int (ldF V S b)) ∧ u = mw e (tk V) (pk S)) 69 [some (.ref 0), some (.int (nI b)), some (.int (if decide (0 < b) && hb (sfa S) (nI (b - 1)) then vth V (b - 1) / nI 2 else nI 0)), none] [.int (if decide (b + 1 < vnb V) && hb (sfa S) (nI (b + 1)) then vth V (b + 1) / nI 2 else nI 0)] (mw e (tk V) (pk S)) := by
    refine g_istore_n (n := 70) dX9_load_69 (by decide) rfl rfl ?_
    refine g_lsN (ls' := [_, _, _, _]) rfl ?_
    refine g_aload_n (n := 71) dX9_load_70 rfl rfl ?_
    refine g_get (n := 74) fl_X9_13 dX9_load_71 rfl rfl rfl ?_
    refine g_iconst (v := nI 4) (n := 75) dX9_load_74 (by decide) rfl ?_
    refine g_iload_n (n := 76) dX9_load_75 rfl rfl ?_
    refine g_iaddN (n := 77) dX9_load_76 rfl ?_
    refine g_ialdN (n := 78) dX9_load_77 rfl rfl (by decide) (by omega) ?_
    refine g_top (tk_th _ (by omega)) ?_
    refine g_iload_n (n := 79) dX9_load_78 rfl rfl ?_
    refine g_iadd (n := 80) dX9_load_79 rfl ?_
    refine g_iload_n (n := 81) dX9_load_80 rfl rfl ?_
    refine g_iadd (n := 82) dX9_load_81 rfl ?_
    exact g_iret (ty := .int) dX9_load_82 rfl rfl ⟨Nat.zero_le _, Nat.zero_le _⟩ ⟨rfl, rfl⟩
  have J30 : G l M_X9_load ((mw e (tk V) (pk S)).length, 0, 0) (fun r u => r = some (.int (ldF V S b)) ∧ u = mw e (tk V) (pk S)) 30 [some (.ref 0), some (.int (nI b)), none, none] [.int (if decide (0 < b) && hb (sfa S) (nI (b - 1)) then vth V (b - 1) / nI 2 else nI 0)] (mw e (tk V) (pk S)) := by
    refine g_istore_n (n := 31) dX9_load_30 (by decide) rfl rfl ?_
    refine g_lsN (ls' := [_, _, _, _]) rfl ?_
    refine g_iload_n (n := 32) dX9_load_31 rfl rfl ?_
    refine g_aload_n (n := 33) dX9_load_32 rfl rfl ?_
    refine g_get (n := 36) fl_X9_13 dX9_load_33 rfl rfl rfl ?_
    refine g_iconst (v := nI 0) (n := 37) dX9_load_36 (by decide) rfl ?_
    refine g_ialdN (n := 38) dX9_load_37 rfl rfl (by decide) (by omega) ?_
    refine g_top (tk_0 _) ?_
    refine g_iconst (v := nI 1) (n := 39) dX9_load_38 (by decide) rfl ?_
    refine g_isubN (n := 40) dX9_load_39 rfl (by omega) ?_
    refine g_icmp_ge (tgt := 68) (n := 43) dX9_load_40 (by decide) rfl (fun c40 => ?_) (fun c40 => ?_)
    ·
      have hc : ¬ b + 1 < vnb V := fun q => nI_ge (show b < vnb V - 1 by omega) (by omega) c40
      rw [decide_eq_false hc, Bool.false_and, if_neg Bool.false_ne_true] at J69
      refine g_iconst (v := nI 0) (n := 69) dX9_load_68 (by decide) rfl ?_
      exact J69
    ·
      have hc : b + 1 < vnb V := by
        rcases Nat.lt_or_ge (b + 1) (vnb V) with q | q
        · exact q
        · exact absurd (nI_le (by omega) (by omega)) c40
      rw [decide_eq_true hc, Bool.true_and] at J69
      refine g_aload_n (n := 44) dX9_load_43 rfl rfl ?_
      refine g_iload_n (n := 45) dX9_load_44 rfl rfl ?_
      refine g_iconst (v := nI 1) (n := 46) dX9_load_45 (by decide) rfl ?_
      refine g_iaddN (n := 47) dX9_load_46 rfl ?_
      refine g_callWi (n := 50) cv_X9_98 (t_X9_hasFallen l _ _ _ _) dX9_load_47 rfl ⟨by decide, by decide, rfl, rfl, Nat.zero_le _, Nat.zero_le _⟩ rfl rfl rfl (Nat.le_of_ble_eq_true rfl) rfl rfl ?_
      refine g_if_eq (tgt := 68) (n := 53) dX9_load_50 (by decide) rfl (fun c50 => ?_) (fun c50 => ?_)
      ·
        rw [bI_0.mp c50, if_neg Bool.false_ne_true] at J69
        refine g_iconst (v := nI 0) (n := 69) dX9_load_68 (by decide) rfl ?_
        exact J69
      ·
        rw [bI_n0.mp c50, if_pos rfl] at J69
        refine g_aload_n (n := 54) dX9_load_53 rfl rfl ?_
        refine g_get (n := 57) fl_X9_13 dX9_load_54 rfl rfl rfl ?_
        refine g_iconst (v := nI 4) (n := 58) dX9_load_57 (by decide) rfl ?_
        refine g_iload_n (n := 59) dX9_load_58 rfl rfl ?_
        refine g_iaddN (n := 60) dX9_load_59 rfl ?_
        refine g_iconst (v := nI 1) (n := 61) dX9_load_60 (by decide) rfl ?_
        refine g_iaddN (n := 62) dX9_load_61 rfl ?_
        refine g_ialdN (n := 63) dX9_load_62 rfl rfl (by decide) (by omega) ?_
        refine g_top (y := vth V (b + 1)) (by rw [show 4 + b + 1 = 4 + (b + 1) by omega]; exact tk_th V (by omega)) ?_
        refine g_iconst (v := nI 2) (n := 64) dX9_load_63 (by decide) rfl ?_
        refine g_idiv (n := 65) dX9_load_64 (by decide) rfl ?_
        refine g_goto (tgt := 69) dX9_load_65 (by decide) ?_
        exact J69
  refine g_iload_n (n := 1) dX9_load_0 rfl rfl ?_
  refine g_if_le (tgt := 29) (n := 4) dX9_load_1 (by decide) rfl (fun c1 => ?_) (fun c1 => ?_)
  ·
    have hc : ¬ 0 < b := fun q => nI_nle q (by omega) c1
    rw [decide_eq_false hc, Bool.false_and, if_neg Bool.false_ne_true] at J30
    refine g_iconst (v := nI 0) (n := 30) dX9_load_29 (by decide) rfl ?_
    exact J30
  ·
    have hc : 0 < b := by
      rcases Nat.eq_zero_or_pos b with q | q
      · subst q; exact absurd (by decide) c1
      · exact q
    rw [decide_eq_true hc, Bool.true_and] at J30
    refine g_aload_n (n := 5) dX9_load_4 rfl rfl ?_
    refine g_iload_n (n := 6) dX9_load_5 rfl rfl ?_
    refine g_iconst (v := nI 1) (n := 7) dX9_load_6 (by decide) rfl ?_
    refine g_isubN (n := 8) dX9_load_7 rfl (by omega) ?_
    refine g_callWi (n := 11) cv_X9_98 (t_X9_hasFallen l _ _ _ _) dX9_load_8 rfl ⟨by decide, by decide, rfl, rfl, Nat.zero_le _, Nat.zero_le _⟩ rfl rfl rfl (Nat.le_of_ble_eq_true rfl) rfl rfl ?_
    refine g_if_eq (tgt := 29) (n := 14) dX9_load_11 (by decide) rfl (fun c11 => ?_) (fun c11 => ?_)
    ·
      rw [bI_0.mp c11, if_neg Bool.false_ne_true] at J30
      refine g_iconst (v := nI 0) (n := 30) dX9_load_29 (by decide) rfl ?_
      exact J30
    ·
      rw [bI_n0.mp c11, if_pos rfl] at J30
      refine g_aload_n (n := 15) dX9_load_14 rfl rfl ?_
      refine g_get (n := 18) fl_X9_13 dX9_load_15 rfl rfl rfl ?_
      refine g_iconst (v := nI 4) (n := 19) dX9_load_18 (by decide) rfl ?_
      refine g_iload_n (n := 20) dX9_load_19 rfl rfl ?_
      refine g_iaddN (n := 21) dX9_load_20 rfl ?_
      refine g_iconst (v := nI 1) (n := 22) dX9_load_21 (by decide) rfl ?_
      refine g_isubN (n := 23) dX9_load_22 rfl (by omega) ?_
      refine g_ialdN (n := 24) dX9_load_23 rfl rfl (by decide) (by omega) ?_
      refine g_top (y := vth V (b - 1)) (by rw [show 4 + b - 1 = 4 + (b - 1) by omega]; exact tk_th V (by omega)) ?_
      refine g_iconst (v := nI 2) (n := 25) dX9_load_24 (by decide) rfl ?_
      refine g_idiv (n := 26) dX9_load_25 (by decide) rfl ?_
      refine g_goto (tgt := 30) dX9_load_26 (by decide) ?_
      exact J30
set_option maxRecDepth 20000 in
theorem lp_X9_strengths (l : Launch) (z : Nat × Nat × Nat) (hz : z.2.1 ≤ 0 ∧ z.2.2 ≤ 0) (Q : Option Value → List va_E → Prop) (e : MR) (V : WT) (S : ST) (hV : okV V) (b : Nat) (hQ : Q (some (.int (srF V S b))) (mw e (tk V) (pk S))) : ∀ f, f ≤ vnf V → G l M_X9_strengths z Q 4 [some (.ref 0), some (.int (nI b)), some (.int (srN V S b f)), some (.int (nI f))] [] (mw e (tk V) (pk S)) := by
  have hV1 := hV.1
  have hV2 := hV.2.1
  have hV3 := hV.2.2
  refine loopN (vnf V) ?_ (fun f hf ih => ?_)
  ·
    refine g_iload_n (n := 5) dX9_strengths_4 rfl rfl ?_
    refine g_aload_n (n := 6) dX9_strengths_5 rfl rfl ?_
    refine g_get (n := 9) fl_X9_13 dX9_strengths_6 rfl rfl rfl ?_
    refine g_iconst (v := nI 1) (n := 10) dX9_strengths_9 (by decide) rfl ?_
    refine g_ialdN (n := 11) dX9_strengths_10 rfl rfl (by decide) (by omega) ?_
    refine g_top (tk_1 _) ?_
    refine g_icmp_ge (tgt := 62) (n := 14) dX9_strengths_11 (by decide) rfl (fun c11 => ?_) (fun c11 => absurd (nI_le (Nat.le_refl _) (by omega)) c11)
    refine g_iload_n (n := 63) dX9_strengths_62 rfl rfl ?_
    exact g_iret (ty := .int) dX9_strengths_63 rfl rfl hz hQ
  ·
    refine g_iload_n (n := 5) dX9_strengths_4 rfl rfl ?_
    refine g_aload_n (n := 6) dX9_strengths_5 rfl rfl ?_
    refine g_get (n := 9) fl_X9_13 dX9_strengths_6 rfl rfl rfl ?_
    refine g_iconst (v := nI 1) (n := 10) dX9_strengths_9 (by decide) rfl ?_
    refine g_ialdN (n := 11) dX9_strengths_10 rfl rfl (by decide) (by omega) ?_
    refine g_top (tk_1 _) ?_
    refine g_icmp_ge (tgt := 62) (n := 14) dX9_strengths_11 (by decide) rfl (fun c11 => absurd c11 (nI_ge hf (by omega))) (fun c11 => ?_)
    refine g_iload_n (n := 15) dX9_strengths_14 rfl rfl ?_
    refine g_aload_n (n := 16) dX9_strengths_15 rfl rfl ?_
    refine g_get (n := 19) fl_X9_22 dX9_strengths_16 rfl rfl rfl ?_
    refine g_iconst (v := nI 1) (n := 20) dX9_strengths_19 (by decide) rfl ?_
    refine g_ialdN (n := 21) dX9_strengths_20 rfl rfl (by decide) (by omega) ?_
    refine g_top (sk_1 _) ?_
    refine g_iload_n (n := 22) dX9_strengths_21 rfl rfl ?_
    refine g_callSi (n := 25) cs_X9_94 (t_X9_has l _ _) dX9_strengths_22 rfl rfl ⟨by decide, by decide, rfl, rfl, hz.1, hz.2⟩ rfl (Nat.le_of_ble_eq_true rfl) rfl ?_
    refine g_if_eq (tgt := 53) (n := 28) dX9_strengths_25 (by decide) rfl (fun c25 => ?_) (fun c25 => ?_)
    ·
      have e1 : srN V S b (f + 1) = srN V S b f + nI 0 := by rw [srN, bI_0.mp c25]; rfl
      rw [e1] at ih
      refine g_iconst (v := nI 0) (n := 54) dX9_strengths_53 (by decide) rfl ?_
      refine g_iadd (n := 55) dX9_strengths_54 rfl ?_
      refine g_istore_n (n := 56) dX9_strengths_55 (by decide) rfl rfl ?_
      refine g_lsN (ls' := [_, _, _, _]) rfl ?_
      refine g_iincN (k := 1) (n := 59) dX9_strengths_56 rfl (by decide) rfl rfl ?_
      refine g_lsN (ls' := [_, _, _, _]) rfl ?_
      refine g_goto (tgt := 4) dX9_strengths_59 (by decide) ?_
      exact ih
    ·
      refine g_aload_n (n := 29) dX9_strengths_28 rfl rfl ?_
      refine g_get (n := 32) fl_X9_22 dX9_strengths_29 rfl rfl rfl ?_
      refine g_bipush (v := nI 9) (n := 34) dX9_strengths_32 (by decide) rfl ?_
      refine g_iload_n (n := 35) dX9_strengths_34 rfl rfl ?_
      refine g_iaddN (n := 36) dX9_strengths_35 rfl ?_
      refine g_ialdN (n := 37) dX9_strengths_36 rfl rfl (by decide) (by omega) ?_
      refine g_top (sk_bo _ (by omega)) ?_
      refine g_iload_n (n := 38) dX9_strengths_37 rfl rfl ?_
      refine g_icmp_ne (tgt := 53) (n := 41) dX9_strengths_38 (by decide) rfl (fun c38 => ?_) (fun c38 => ?_)
      ·
        have e1 : srN V S b (f + 1) = srN V S b f + nI 0 := by rw [srN, bI_n0.mp c25, decide_eq_false c38]; rfl
        rw [e1] at ih
        refine g_iconst (v := nI 0) (n := 54) dX9_strengths_53 (by decide) rfl ?_
        refine g_iadd (n := 55) dX9_strengths_54 rfl ?_
        refine g_istore_n (n := 56) dX9_strengths_55 (by decide) rfl rfl ?_
        refine g_lsN (ls' := [_, _, _, _]) rfl ?_
        refine g_iincN (k := 1) (n := 59) dX9_strengths_56 rfl (by decide) rfl rfl ?_
        refine g_lsN (ls' := [_, _, _, _]) rfl ?_
        refine g_goto (tgt := 4) dX9_strengths_59 (by decide) ?_
        exact ih
      ·
        have e1 : srN V S b (f + 1) = srN V S b f + vsg V f := by rw [srN, bI_n0.mp c25, decide_eq_true c38]; rfl
        rw [e1] at ih
        refine g_aload_n (n := 42) dX9_strengths_41 rfl rfl ?_
        refine g_get (n := 45) fl_X9_13 dX9_strengths_42 rfl rfl rfl ?_
        refine g_bipush (v := nI 26) (n := 47) dX9_strengths_45 (by decide) rfl ?_
        refine g_iload_n (n := 48) dX9_strengths_47 rfl rfl ?_
        refine g_iaddN (n := 49) dX9_strengths_48 rfl ?_
        refine g_ialdN (n := 50) dX9_strengths_49 rfl rfl (by decide) (by omega) ?_
        refine g_top (tk_sg _ (by omega)) ?_
        refine g_goto (tgt := 54) dX9_strengths_50 (by decide) ?_
        refine g_iadd (n := 55) dX9_strengths_54 rfl ?_
        refine g_istore_n (n := 56) dX9_strengths_55 (by decide) rfl rfl ?_
        refine g_lsN (ls' := [_, _, _, _]) rfl ?_
        refine g_iincN (k := 1) (n := 59) dX9_strengths_56 rfl (by decide) rfl rfl ?_
        refine g_lsN (ls' := [_, _, _, _]) rfl ?_
        refine g_goto (tgt := 4) dX9_strengths_59 (by decide) ?_
        exact ih
set_option maxRecDepth 20000 in
theorem t_X9_strengths (l : Launch) (e : MR) (V : WT) (S : ST) (hV : okV V) (b : Nat) : Fn l M_X9_strengths [.ref 0, .int (nI b)] (mw e (tk V) (pk S)) (some (.int (srF V S b))) (mw e (tk V) (pk S)) := by
  refine con_of rfl rfl (Nat.le_of_ble_eq_true rfl) ?_
  refine g_lsN (ls' := [_, _, _, _]) rfl ?_
  refine g_iconst (v := nI 0) (n := 1) dX9_strengths_0 (by decide) rfl ?_
  refine g_istore_n (n := 2) dX9_strengths_1 (by decide) rfl rfl ?_
  refine g_lsN (ls' := [_, _, _, _]) rfl ?_
  refine g_iconst (v := nI 0) (n := 3) dX9_strengths_2 (by decide) rfl ?_
  refine g_istore_n (n := 4) dX9_strengths_3 (by decide) rfl rfl ?_
  refine g_lsN (ls' := [_, _, _, _]) rfl ?_
  exact lp_X9_strengths l _ ⟨Nat.zero_le _, Nat.zero_le _⟩ _ e V S hV b ⟨rfl, rfl⟩ 0 (Nat.zero_le _)
set_option maxRecDepth 20000 in
theorem t_X9_helps (l : Launch) (e : MR) (V : WT) (S : ST) (hV : okV V) (x : Int32) : Fn l M_X9_helps [.ref 0, .int x] (mw e (tk V) (pk S)) (some (.int (hpI V S x))) (mw e (tk V) (pk S)) := by
  have hV1 := hV.1
  refine con_of rfl rfl (Nat.le_of_ble_eq_true rfl) ?_
  refine g_lsN (ls' := [_, _, _]) rfl ?_
  refine g_aload_n (n := 1) dX9_helps_0 rfl rfl ?_
  refine g_iload_n (n := 2) dX9_helps_1 rfl rfl ?_
  refine g_callWi (n := 5) cv_X9_101 (t_X9_isBay l _ _ _ _) dX9_helps_2 rfl ⟨by decide, by decide, rfl, rfl, Nat.zero_le _, Nat.zero_le _⟩ rfl rfl rfl (Nat.le_of_ble_eq_true rfl) rfl rfl ?_
  refine g_if_eq (tgt := 16) (n := 8) dX9_helps_5 (by decide) rfl (fun c5 => ?_) (fun c5 => ?_)
  ·
    have e1 : hpI V S x = nI 0 := by unfold hpI; rw [bI_0.mp c5]; rfl
    refine g_iconst (v := nI 0) (n := 17) dX9_helps_16 (by decide) rfl ?_
    exact g_iret (ty := .int) dX9_helps_17 rfl rfl ⟨Nat.zero_le _, Nat.zero_le _⟩ ⟨by rw [e1], rfl⟩
  ·
    obtain ⟨b, hbn, hxb⟩ := isB_t (by omega) (bI_n0.mp c5)
    subst hxb
    have e0 : hpI V S (nI b) = hpF V S b := by unfold hpI; rw [bI_n0.mp c5, if_pos rfl, nI_clamp (by omega)]
    refine g_aload_n (n := 9) dX9_helps_8 rfl rfl ?_
    refine g_iload_n (n := 10) dX9_helps_9 rfl rfl ?_
    refine g_callWi (n := 13) cv_X9_98 (t_X9_hasFallen l _ _ _ _) dX9_helps_10 rfl ⟨by decide, by decide, rfl, rfl, Nat.zero_le _, Nat.zero_le _⟩ rfl rfl rfl (Nat.le_of_ble_eq_true rfl) rfl rfl ?_
    refine g_if_eq (tgt := 18) (n := 16) dX9_helps_13 (by decide) rfl (fun c13 => ?_) (fun c13 => ?_)
    ·
      have e2 : hb (sfa S) (nI b) = false := bI_0.mp c13
      refine g_aload_n (n := 19) dX9_helps_18 rfl rfl ?_
      refine g_iload_n (n := 20) dX9_helps_19 rfl rfl ?_
      refine g_callWi (n := 23) cv_X9_104 (t_X9_strengths l _ _ _ hV b) dX9_helps_20 rfl ⟨by decide, by decide, rfl, rfl, Nat.zero_le _, Nat.zero_le _⟩ rfl rfl rfl (Nat.le_of_ble_eq_true rfl) rfl rfl ?_
      refine g_aload_n (n := 24) dX9_helps_23 rfl rfl ?_
      refine g_iload_n (n := 25) dX9_helps_24 rfl rfl ?_
      refine g_callWi (n := 28) cv_X9_107 (t_X9_load l _ _ _ hV b hbn) dX9_helps_25 rfl ⟨by decide, by decide, rfl, rfl, Nat.zero_le _, Nat.zero_le _⟩ rfl rfl rfl (Nat.le_of_ble_eq_true rfl) rfl rfl ?_
      refine g_isub (n := 29) dX9_helps_28 rfl ?_
      refine g_istore_n (n := 30) dX9_helps_29 (by decide) rfl rfl ?_
      refine g_lsN (ls' := [_, _, _]) rfl ?_
      refine g_iload_n (n := 31) dX9_helps_30 rfl rfl ?_
      refine g_if_le (tgt := 40) (n := 34) dX9_helps_31 (by decide) rfl (fun c31 => ?_) (fun c31 => ?_)
      ·
        have e1 : hpI V S (nI b) = nI 0 := by rw [e0]; unfold hpF; rw [e2, if_neg Bool.false_ne_true, if_pos c31]
        refine g_iconst (v := nI 0) (n := 41) dX9_helps_40 (by decide) rfl ?_
        exact g_iret (ty := .int) dX9_helps_41 rfl rfl ⟨Nat.zero_le _, Nat.zero_le _⟩ ⟨by rw [e1], rfl⟩
      ·
        have e1 : hpI V S (nI b) = (srF V S b - ldF V S b) / nI 2 := by rw [e0]; unfold hpF; rw [e2, if_neg Bool.false_ne_true, if_neg c31]
        refine g_iload_n (n := 35) dX9_helps_34 rfl rfl ?_
        refine g_iconst (v := nI 2) (n := 36) dX9_helps_35 (by decide) rfl ?_
        refine g_idiv (n := 37) dX9_helps_36 (by decide) rfl ?_
        refine g_goto (tgt := 41) dX9_helps_37 (by decide) ?_
        exact g_iret (ty := .int) dX9_helps_41 rfl rfl ⟨Nat.zero_le _, Nat.zero_le _⟩ ⟨by rw [e1], rfl⟩
    ·
      have e1 : hpI V S (nI b) = nI 0 := by rw [e0]; unfold hpF; rw [bI_n0.mp c13]; rfl
      refine g_iconst (v := nI 0) (n := 17) dX9_helps_16 (by decide) rfl ?_
      exact g_iret (ty := .int) dX9_helps_17 rfl rfl ⟨Nat.zero_le _, Nat.zero_le _⟩ ⟨by rw [e1], rfl⟩
set_option maxRecDepth 20000 in
theorem t_X9_props (l : Launch) (e : MR) (V : WT) (S : ST) (hV : okV V) (b : Nat) (hbn : b < vnb V) : Fn l M_X9_props [.ref 0, .int (nI b)] (mw e (tk V) (pk S)) (some (.int (prF V S b))) (mw e (tk V) (pk S)) := by
  refine con_of rfl rfl (Nat.le_of_ble_eq_true rfl) ?_
  refine g_lsN (ls' := [_, _]) rfl ?_
  refine g_aload_n (n := 1) dX9_props_0 rfl rfl ?_
  refine g_iload_n (n := 2) dX9_props_1 rfl rfl ?_
  refine g_callWi (n := 5) cv_X9_104 (t_X9_strengths l _ _ _ hV b) dX9_props_2 rfl ⟨by decide, by decide, rfl, rfl, Nat.zero_le _, Nat.zero_le _⟩ rfl rfl rfl (Nat.le_of_ble_eq_true rfl) rfl rfl ?_
  refine g_aload_n (n := 6) dX9_props_5 rfl rfl ?_
  refine g_iload_n (n := 7) dX9_props_6 rfl rfl ?_
  refine g_iconst (v := nI 1) (n := 8) dX9_props_7 (by decide) rfl ?_
  refine g_isub (n := 9) dX9_props_8 rfl ?_
  refine g_callWi (n := 12) cv_X9_110 (t_X9_helps l _ _ _ hV _) dX9_props_9 rfl ⟨by decide, by decide, rfl, rfl, Nat.zero_le _, Nat.zero_le _⟩ rfl rfl rfl (Nat.le_of_ble_eq_true rfl) rfl rfl ?_
  refine g_iadd (n := 13) dX9_props_12 rfl ?_
  refine g_aload_n (n := 14) dX9_props_13 rfl rfl ?_
  refine g_iload_n (n := 15) dX9_props_14 rfl rfl ?_
  refine g_iconst (v := nI 1) (n := 16) dX9_props_15 (by decide) rfl ?_
  refine g_iaddN (n := 17) dX9_props_16 rfl ?_
  refine g_callWi (n := 20) cv_X9_110 (t_X9_helps l _ _ _ hV _) dX9_props_17 rfl ⟨by decide, by decide, rfl, rfl, Nat.zero_le _, Nat.zero_le _⟩ rfl rfl rfl (Nat.le_of_ble_eq_true rfl) rfl rfl ?_
  refine g_iadd (n := 21) dX9_props_20 rfl ?_
  exact g_iret (ty := .int) dX9_props_21 rfl rfl ⟨Nat.zero_le _, Nat.zero_le _⟩ ⟨rfl, rfl⟩
set_option maxRecDepth 20000 in
theorem t_X9_isHeld (l : Launch) (e : MR) (V : WT) (S : ST) (hV : okV V) (b : Nat) (hbn : b < vnb V) : Fn l M_X9_isHeld [.ref 0, .int (nI b)] (mw e (tk V) (pk S)) (some (.int (bI (isH V S b)))) (mw e (tk V) (pk S)) := by
  refine con_of rfl rfl (Nat.le_of_ble_eq_true rfl) ?_
  refine g_lsN (ls' := [_, _]) rfl ?_
  refine g_aload_n (n := 1) dX9_isHeld_0 rfl rfl ?_
  refine g_iload_n (n := 2) dX9_isHeld_1 rfl rfl ?_
  refine g_callWi (n := 5) cv_X9_98 (t_X9_hasFallen l _ _ _ _) dX9_isHeld_2 rfl ⟨by decide, by decide, rfl, rfl, Nat.zero_le _, Nat.zero_le _⟩ rfl rfl rfl (Nat.le_of_ble_eq_true rfl) rfl rfl ?_
  refine g_if_ne (tgt := 25) (n := 8) dX9_isHeld_5 (by decide) rfl (fun c5 => ?_) (fun c5 => ?_)
  ·
    refine g_iconst (v := nI 0) (n := 26) dX9_isHeld_25 (by decide) rfl ?_
    exact g_iret (ty := .boolean) dX9_isHeld_26 rfl (by first | exact bI_nar _ | decide) ⟨Nat.zero_le _, Nat.zero_le _⟩ ⟨by first | exact okT (by unfold isH; simp_all [bI_0, bI_n0]) | exact okF (by unfold isH; simp_all [bI_0, bI_n0]), rfl⟩
  ·
    refine g_aload_n (n := 9) dX9_isHeld_8 rfl rfl ?_
    refine g_iload_n (n := 10) dX9_isHeld_9 rfl rfl ?_
    refine g_callWi (n := 13) cv_X9_113 (t_X9_props l _ _ _ hV b hbn) dX9_isHeld_10 rfl ⟨by decide, by decide, rfl, rfl, Nat.zero_le _, Nat.zero_le _⟩ rfl rfl rfl (Nat.le_of_ble_eq_true rfl) rfl rfl ?_
    refine g_aload_n (n := 14) dX9_isHeld_13 rfl rfl ?_
    refine g_iload_n (n := 15) dX9_isHeld_14 rfl rfl ?_
    refine g_callWi (n := 18) cv_X9_107 (t_X9_load l _ _ _ hV b hbn) dX9_isHeld_15 rfl ⟨by decide, by decide, rfl, rfl, Nat.zero_le _, Nat.zero_le _⟩ rfl rfl rfl (Nat.le_of_ble_eq_true rfl) rfl rfl ?_
    refine g_icmp_lt (tgt := 25) (n := 21) dX9_isHeld_18 (by decide) rfl (fun c18 => ?_) (fun c18 => ?_)
    ·
      refine g_iconst (v := nI 0) (n := 26) dX9_isHeld_25 (by decide) rfl ?_
      exact g_iret (ty := .boolean) dX9_isHeld_26 rfl (by first | exact bI_nar _ | decide) ⟨Nat.zero_le _, Nat.zero_le _⟩ ⟨by first | exact okT (by unfold isH; simp_all [bI_0, bI_n0]) | exact okF (by unfold isH; simp_all [bI_0, bI_n0]), rfl⟩
    ·
      refine g_iconst (v := nI 1) (n := 22) dX9_isHeld_21 (by decide) rfl ?_
      refine g_goto (tgt := 26) dX9_isHeld_22 (by decide) ?_
      exact g_iret (ty := .boolean) dX9_isHeld_26 rfl (by first | exact bI_nar _ | decide) ⟨Nat.zero_le _, Nat.zero_le _⟩ ⟨by first | exact okT (by unfold isH; simp_all [bI_0, bI_n0]) | exact okF (by unfold isH; simp_all [bI_0, bI_n0]), rfl⟩

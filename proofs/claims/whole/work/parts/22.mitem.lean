def nuB (ta : Nat → Nat) (n p : Nat) (lo hi : Int32) (e : Nat) : Bool := decide ((nuA ta n p lo hi e).1 < 0)
/-- reading a bay's numbers from p on: whether it is one, the wall, the place behind -/
def rbF (ta : Nat → Nat) (n p : Nat) (V : WT) : Bool × WT × Nat :=
  if nuB ta n p (nI 0) (nI 99) 44 then (false, V, (nuA ta n p (nI 0) (nI 99) 44).2)
  else if nuB ta n (nuA ta n p (nI 0) (nI 99) 44).2 (nI 0) (nI 20) 59 || decide (vnb V = 8) then (false, V, (nuA ta n (nuA ta n p (nI 0) (nI 99) 44).2 (nI 0) (nI 20) 59).2)
  else (true, vB V (nuA ta n p (nI 0) (nI 99) 44).1 (nuA ta n (nuA ta n p (nI 0) (nI 99) 44).2 (nI 0) (nI 20) 59).1, (nuA ta n (nuA ta n p (nI 0) (nI 99) 44).2 (nI 0) (nI 20) 59).2)
abbrev b1A (ta : Nat → Nat) (n p : Nat) : Int32 × Nat := nuA ta n p (nI 0) (nI 3) 44
abbrev b2A (ta : Nat → Nat) (n p : Nat) : Int32 × Nat := nuA ta n (b1A ta n p).2 (nI 1) (nI 99) 44
abbrev b3A (ta : Nat → Nat) (n p nb : Nat) : Int32 × Nat := nuA ta n (b2A ta n p).2 (nI 0) (nI nb - nI 1) 44
abbrev b4A (ta : Nat → Nat) (n p nb : Nat) : Int32 × Nat := nuA ta n (b3A ta n p nb).2 (nI 1) (nI 30) 59
def rfF (ta : Nat → Nat) (n p : Nat) (V : WT) (be : Nat → Int32) : Bool × WT × (Nat → Int32) × Nat :=
  if (b1A ta n p).1 < 0 then (false, V, be, (b1A ta n p).2)
  else if (b2A ta n p).1 < 0 then (false, V, be, (b2A ta n p).2)
  else if (b3A ta n p (vnb V)).1 < 0 then (false, V, be, (b3A ta n p (vnb V)).2)
  else if decide ((b4A ta n p (vnb V)).1 < 0) || decide (vnf V = 6) then (false, V, be, (b4A ta n p (vnb V)).2)
  else (true, vF V (b1A ta n p).1 (b2A ta n p).1 (b4A ta n p (vnb V)).1, upd be (vnf V) (b3A ta n p (vnb V)).1, (b4A ta n p (vnb V)).2)
theorem neg1_lt : ((-1 : Int32) < 0) := by decide
theorem ge_of {x : Int32} (h : 0 ≤ x) : ¬ x < 0 := Int32.not_lt.mpr h
theorem lt_of {x : Int32} (h : ¬ 0 ≤ x) : x < 0 := Int32.not_le.mp h
set_option maxRecDepth 20000 in
theorem t_X9_readsBay (l : Launch) (e : MR) (to s : Nat → Int32) (V : WT) (hV : okV V) (be : Nat → Int32) (dn : Int32) (ta : Nat → Nat) (n : Nat) (hT : TX e ta n) (p : Nat) (hp : p ≤ 300) : Fn l M_X9_readsBay [.ref 0] (mw (sRd e (tk V) be dn (nI p)) to s) (some (.int (bI (rbF ta n p V).1))) (mw (sRd e (tk (rbF ta n p V).2.1) be dn (nI (rbF ta n p V).2.2)) to s) := by
  have hV1 := hV.1
  have hV2 := hV.2.1
  have hV3 := hV.2.2
  have hT1 := hT.1
  have hT2 := hT.2.1
  have q1 := nuA_le ta n p (nI 0) (nI 99) 44
  refine con_of rfl rfl (Nat.le_of_ble_eq_true rfl) ?_
  refine g_lsN (ls' := [_, _, _]) rfl ?_
  refine g_aload_n (n := 1) dX9_readsBay_0 rfl rfl ?_
  refine g_iconst (v := nI 0) (n := 2) dX9_readsBay_1 (by decide) rfl ?_
  refine g_bipush (v := nI 99) (n := 4) dX9_readsBay_2 (by decide) rfl ?_
  refine g_bipush (v := nI 44) (n := 6) dX9_readsBay_4 (by decide) rfl ?_
  refine g_callWi (n := 9) cv_X9_70 (t_X9_number l e to s (tk V) be dn ta n hT (nI 0) (nI 99) 44 (by decide) p (by omega)) dX9_readsBay_6 rfl ⟨by decide, by decide, rfl, rfl, Nat.zero_le _, Nat.zero_le _⟩ rfl rfl rfl (Nat.le_of_ble_eq_true rfl) rfl rfl ?_
  refine g_istore_n (n := 10) dX9_readsBay_9 (by decide) rfl rfl ?_
  refine g_lsN (ls' := [_, _, _]) rfl ?_
  refine g_iload_n (n := 11) dX9_readsBay_10 rfl rfl ?_
  refine g_if_ge (tgt := 18) (n := 14) dX9_readsBay_11 (by decide) rfl (fun c11 => ?_) (fun c11 => ?_)
  ·
    have a1 : nuB ta n p (nI 0) (nI 99) 44 = false := decide_eq_false (ge_of c11)
    refine g_aload_n (n := 19) dX9_readsBay_18 rfl rfl ?_
    refine g_iconst (v := nI 0) (n := 20) dX9_readsBay_19 (by decide) rfl ?_
    refine g_bipush (v := nI 20) (n := 22) dX9_readsBay_20 (by decide) rfl ?_
    refine g_bipush (v := nI 59) (n := 24) dX9_readsBay_22 (by decide) rfl ?_
    refine g_callWi (n := 27) cv_X9_70 (t_X9_number l e to s (tk V) be dn ta n hT (nI 0) (nI 20) 59 (by decide) (nuA ta n p (nI 0) (nI 99) 44).2 (by omega)) dX9_readsBay_24 rfl ⟨by decide, by decide, rfl, rfl, Nat.zero_le _, Nat.zero_le _⟩ rfl rfl rfl (Nat.le_of_ble_eq_true rfl) rfl rfl ?_
    refine g_istore_n (n := 28) dX9_readsBay_27 (by decide) rfl rfl ?_
    refine g_lsN (ls' := [_, _, _]) rfl ?_
    refine g_iload_n (n := 29) dX9_readsBay_28 rfl rfl ?_
    refine g_if_lt (tgt := 43) (n := 32) dX9_readsBay_29 (by decide) rfl (fun c29 => ?_) (fun c29 => ?_)
    ·
      have e9 : rbF ta n p V = (false, V, (nuA ta n (nuA ta n p (nI 0) (nI 99) 44).2 (nI 0) (nI 20) 59).2) := by unfold rbF; rw [a1, if_neg Bool.false_ne_true, show nuB ta n (nuA ta n p (nI 0) (nI 99) 44).2 (nI 0) (nI 20) 59 = true from decide_eq_true c29]; rfl
      refine g_iconst (v := nI 0) (n := 44) dX9_readsBay_43 (by decide) rfl ?_
      exact g_iret (ty := .boolean) dX9_readsBay_44 rfl (by first | exact bI_nar _ | decide) ⟨Nat.zero_le _, Nat.zero_le _⟩ ⟨by first | exact okT (by rw [e9]) | exact okF (by rw [e9]), by rw [e9] <;> rfl⟩
    ·
      have a2 : nuB ta n (nuA ta n p (nI 0) (nI 99) 44).2 (nI 0) (nI 20) 59 = false := decide_eq_false c29
      refine g_aload_n (n := 33) dX9_readsBay_32 rfl rfl ?_
      refine g_get (n := 36) fl_X9_16 dX9_readsBay_33 rfl rfl rfl ?_
      refine g_iconst (v := nI 0) (n := 37) dX9_readsBay_36 (by decide) rfl ?_
      refine g_ialdN (n := 38) dX9_readsBay_37 rfl rfl (by decide) (by omega) ?_
      refine g_top (tk_0 _) ?_
      refine g_bipush (v := nI 8) (n := 40) dX9_readsBay_38 (by decide) rfl ?_
      refine g_icmp_ne (tgt := 45) (n := 43) dX9_readsBay_40 (by decide) rfl (fun c40 => ?_) (fun c40 => ?_)
      ·
        have h8 : vnb V < 8 := by
          rcases Nat.lt_or_ge (vnb V) 8 with q | q
          · exact q
          · exact absurd (show nI (vnb V) = nI 8 by rw [show vnb V = 8 by omega]) c40
        have e9 : rbF ta n p V = (true, vB V (nuA ta n p (nI 0) (nI 99) 44).1 (nuA ta n (nuA ta n p (nI 0) (nI 99) 44).2 (nI 0) (nI 20) 59).1, (nuA ta n (nuA ta n p (nI 0) (nI 99) 44).2 (nI 0) (nI 20) 59).2) := by unfold rbF; rw [a1, if_neg Bool.false_ne_true, a2, decide_eq_false (show ¬ vnb V = 8 by omega)]; rfl
        refine g_aload_n (n := 46) dX9_readsBay_45 rfl rfl ?_
        refine g_iload_n (n := 47) dX9_readsBay_46 rfl rfl ?_
        refine g_iload_n (n := 48) dX9_readsBay_47 rfl rfl ?_
        refine g_callWv (n := 51) cv_X9_37 (t_X9_bayOf l e to s V be dn _ h8 _ _) dX9_readsBay_48 rfl ⟨by decide, by decide, rfl, rfl, Nat.zero_le _, Nat.zero_le _⟩ rfl rfl rfl (Nat.le_of_ble_eq_true rfl) rfl rfl ?_
        refine g_iconst (v := nI 1) (n := 52) dX9_readsBay_51 (by decide) rfl ?_
        exact g_iret (ty := .boolean) dX9_readsBay_52 rfl (by first | exact bI_nar _ | decide) ⟨Nat.zero_le _, Nat.zero_le _⟩ ⟨by first | exact okT (by rw [e9]) | exact okF (by rw [e9]), by rw [e9] <;> rfl⟩
      ·
        have h8 : vnb V = 8 := (nI_eq (by omega) (by decide)).mp c40
        have e9 : rbF ta n p V = (false, V, (nuA ta n (nuA ta n p (nI 0) (nI 99) 44).2 (nI 0) (nI 20) 59).2) := by unfold rbF; rw [a1, if_neg Bool.false_ne_true, a2, decide_eq_true h8]; rfl
        refine g_iconst (v := nI 0) (n := 44) dX9_readsBay_43 (by decide) rfl ?_
        exact g_iret (ty := .boolean) dX9_readsBay_44 rfl (by first | exact bI_nar _ | decide) ⟨Nat.zero_le _, Nat.zero_le _⟩ ⟨by first | exact okT (by rw [e9]) | exact okF (by rw [e9]), by rw [e9] <;> rfl⟩
  ·
    have e9 : rbF ta n p V = (false, V, (nuA ta n p (nI 0) (nI 99) 44).2) := by unfold rbF; rw [show nuB ta n p (nI 0) (nI 99) 44 = true from decide_eq_true (lt_of c11)]; rfl
    refine g_iconst (v := (-1)) (n := 15) dX9_readsBay_14 (by decide) rfl ?_
    refine g_goto (tgt := 27) dX9_readsBay_15 (by decide) ?_
    refine g_istore_n (n := 28) dX9_readsBay_27 (by decide) rfl rfl ?_
    refine g_lsN (ls' := [_, _, _]) rfl ?_
    refine g_iload_n (n := 29) dX9_readsBay_28 rfl rfl ?_
    refine g_if_lt (tgt := 43) (n := 32) dX9_readsBay_29 (by decide) rfl (fun c29 => ?_) (fun c29 => absurd neg1_lt c29)
    refine g_iconst (v := nI 0) (n := 44) dX9_readsBay_43 (by decide) rfl ?_
    exact g_iret (ty := .boolean) dX9_readsBay_44 rfl (by first | exact bI_nar _ | decide) ⟨Nat.zero_le _, Nat.zero_le _⟩ ⟨by first | exact okT (by rw [e9]) | exact okF (by rw [e9]), by rw [e9] <;> rfl⟩
set_option maxRecDepth 20000 in
theorem t_X9_readsButtress (l : Launch) (e : MR) (to s : Nat → Int32) (V : WT) (hV : okV V) (be : Nat → Int32) (dn : Int32) (ta : Nat → Nat) (n : Nat) (hT : TX e ta n) (p : Nat) (hp : p ≤ 300) : Fn l M_X9_readsButtress [.ref 0] (mw (sRd e (tk V) be dn (nI p)) to s) (some (.int (bI (rfF ta n p V be).1))) (mw (sRd e (tk (rfF ta n p V be).2.1) (rfF ta n p V be).2.2.1 dn (nI (rfF ta n p V be).2.2.2)) to s) := by
  have hV1 := hV.1
  have hV2 := hV.2.1
  have hV3 := hV.2.2
  have hT1 := hT.1
  have hT2 := hT.2.1
  have q1 : (b1A ta n p).2 ≤ p + 3 := nuA_le ta n p (nI 0) (nI 3) 44
  have q2 : (b2A ta n p).2 ≤ (b1A ta n p).2 + 3 := nuA_le ta n (b1A ta n p).2 (nI 1) (nI 99) 44
  have q3 : (b3A ta n p (vnb V)).2 ≤ (b2A ta n p).2 + 3 := nuA_le ta n (b2A ta n p).2 (nI 0) (nI (vnb V) - nI 1) 44
  refine con_of rfl rfl (Nat.le_of_ble_eq_true rfl) ?_
  refine g_lsN (ls' := [_, _, _, _, _]) rfl ?_
  refine g_aload_n (n := 1) dX9_readsButtress_0 rfl rfl ?_
  refine g_iconst (v := nI 0) (n := 2) dX9_readsButtress_1 (by decide) rfl ?_
  refine g_iconst (v := nI 3) (n := 3) dX9_readsButtress_2 (by decide) rfl ?_
  refine g_bipush (v := nI 44) (n := 5) dX9_readsButtress_3 (by decide) rfl ?_
  refine g_callWi (n := 8) cv_X9_70 (t_X9_number l e to s (tk V) be dn ta n hT (nI 0) (nI 3) 44 (by decide) p (by omega)) dX9_readsButtress_5 rfl ⟨by decide, by decide, rfl, rfl, Nat.zero_le _, Nat.zero_le _⟩ rfl rfl rfl (Nat.le_of_ble_eq_true rfl) rfl rfl ?_
  refine g_istore_n (n := 9) dX9_readsButtress_8 (by decide) rfl rfl ?_
  refine g_lsN (ls' := [_, _, _, _, _]) rfl ?_
  refine g_iload_n (n := 10) dX9_readsButtress_9 rfl rfl ?_
  refine g_if_ge (tgt := 17) (n := 13) dX9_readsButtress_10 (by decide) rfl (fun c10 => ?_) (fun c10 => ?_)
  ·
    have a1 := ge_of c10
    refine g_aload_n (n := 18) dX9_readsButtress_17 rfl rfl ?_
    refine g_iconst (v := nI 1) (n := 19) dX9_readsButtress_18 (by decide) rfl ?_
    refine g_bipush (v := nI 99) (n := 21) dX9_readsButtress_19 (by decide) rfl ?_
    refine g_bipush (v := nI 44) (n := 23) dX9_readsButtress_21 (by decide) rfl ?_
    refine g_callWi (n := 26) cv_X9_70 (t_X9_number l e to s (tk V) be dn ta n hT (nI 1) (nI 99) 44 (by decide) (b1A ta n p).2 (by omega)) dX9_readsButtress_23 rfl ⟨by decide, by decide, rfl, rfl, Nat.zero_le _, Nat.zero_le _⟩ rfl rfl rfl (Nat.le_of_ble_eq_true rfl) rfl rfl ?_
    refine g_istore_n (n := 27) dX9_readsButtress_26 (by decide) rfl rfl ?_
    refine g_lsN (ls' := [_, _, _, _, _]) rfl ?_
    refine g_iload_n (n := 28) dX9_readsButtress_27 rfl rfl ?_
    refine g_if_ge (tgt := 35) (n := 31) dX9_readsButtress_28 (by decide) rfl (fun c28 => ?_) (fun c28 => ?_)
    ·
      have a2 := ge_of c28
      refine g_aload_n (n := 36) dX9_readsButtress_35 rfl rfl ?_
      refine g_iconst (v := nI 0) (n := 37) dX9_readsButtress_36 (by decide) rfl ?_
      refine g_aload_n (n := 38) dX9_readsButtress_37 rfl rfl ?_
      refine g_get (n := 41) fl_X9_16 dX9_readsButtress_38 rfl rfl rfl ?_
      refine g_iconst (v := nI 0) (n := 42) dX9_readsButtress_41 (by decide) rfl ?_
      refine g_ialdN (n := 43) dX9_readsButtress_42 rfl rfl (by decide) (by omega) ?_
      refine g_top (tk_0 _) ?_
      refine g_iconst (v := nI 1) (n := 44) dX9_readsButtress_43 (by decide) rfl ?_
      refine g_isub (n := 45) dX9_readsButtress_44 rfl ?_
      refine g_bipush (v := nI 44) (n := 47) dX9_readsButtress_45 (by decide) rfl ?_
      refine g_callWi (n := 50) cv_X9_70 (t_X9_number l e to s (tk V) be dn ta n hT (nI 0) (nI (vnb V) - nI 1) 44 (by decide) (b2A ta n p).2 (by omega)) dX9_readsButtress_47 rfl ⟨by decide, by decide, rfl, rfl, Nat.zero_le _, Nat.zero_le _⟩ rfl rfl rfl (Nat.le_of_ble_eq_true rfl) rfl rfl ?_
      refine g_istore_n (n := 51) dX9_readsButtress_50 (by decide) rfl rfl ?_
      refine g_lsN (ls' := [_, _, _, _, _]) rfl ?_
      refine g_iload_n (n := 52) dX9_readsButtress_51 rfl rfl ?_
      refine g_if_ge (tgt := 59) (n := 55) dX9_readsButtress_52 (by decide) rfl (fun c52 => ?_) (fun c52 => ?_)
      ·
        have a3 := ge_of c52
        refine g_aload_n (n := 60) dX9_readsButtress_59 rfl rfl ?_
        refine g_iconst (v := nI 1) (n := 61) dX9_readsButtress_60 (by decide) rfl ?_
        refine g_bipush (v := nI 30) (n := 63) dX9_readsButtress_61 (by decide) rfl ?_
        refine g_bipush (v := nI 59) (n := 65) dX9_readsButtress_63 (by decide) rfl ?_
        refine g_callWi (n := 68) cv_X9_70 (t_X9_number l e to s (tk V) be dn ta n hT (nI 1) (nI 30) 59 (by decide) (b3A ta n p (vnb V)).2 (by omega)) dX9_readsButtress_65 rfl ⟨by decide, by decide, rfl, rfl, Nat.zero_le _, Nat.zero_le _⟩ rfl rfl rfl (Nat.le_of_ble_eq_true rfl) rfl rfl ?_
        refine g_istore (n := 70) dX9_readsButtress_68 (by decide) rfl rfl ?_
        refine g_lsN (ls' := [_, _, _, _, _]) rfl ?_
        refine g_iload (n := 72) dX9_readsButtress_70 rfl rfl ?_
        refine g_if_lt (tgt := 86) (n := 75) dX9_readsButtress_72 (by decide) rfl (fun c72 => ?_) (fun c72 => ?_)
        ·
          have e9 : rfF ta n p V be = (false, V, be, (b4A ta n p (vnb V)).2) := by unfold rfF; rw [if_neg a1, if_neg a2, if_neg a3, decide_eq_true c72]; rfl
          refine g_iconst (v := nI 0) (n := 87) dX9_readsButtress_86 (by decide) rfl ?_
          exact g_iret (ty := .boolean) dX9_readsButtress_87 rfl (by first | exact bI_nar _ | decide) ⟨Nat.zero_le _, Nat.zero_le _⟩ ⟨by first | exact okT (by rw [e9]) | exact okF (by rw [e9]), by rw [e9] <;> rfl⟩
        ·
          have a4 := decide_eq_false c72
          refine g_aload_n (n := 76) dX9_readsButtress_75 rfl rfl ?_
          refine g_get (n := 79) fl_X9_16 dX9_readsButtress_76 rfl rfl rfl ?_
          refine g_iconst (v := nI 1) (n := 80) dX9_readsButtress_79 (by decide) rfl ?_
          refine g_ialdN (n := 81) dX9_readsButtress_80 rfl rfl (by decide) (by omega) ?_
          refine g_top (tk_1 _) ?_
          refine g_bipush (v := nI 6) (n := 83) dX9_readsButtress_81 (by decide) rfl ?_
          refine g_icmp_ne (tgt := 88) (n := 86) dX9_readsButtress_83 (by decide) rfl (fun c83 => ?_) (fun c83 => ?_)
          ·
            have h6 : vnf V < 6 := by
              rcases Nat.lt_or_ge (vnf V) 6 with q | q
              · exact q
              · exact absurd (show nI (vnf V) = nI 6 by rw [show vnf V = 6 by omega]) c83
            have e9 : rfF ta n p V be = (true, vF V (b1A ta n p).1 (b2A ta n p).1 (b4A ta n p (vnb V)).1, upd be (vnf V) (b3A ta n p (vnb V)).1, (b4A ta n p (vnb V)).2) := by unfold rfF; rw [if_neg a1, if_neg a2, if_neg a3, a4, decide_eq_false (show ¬ vnf V = 6 by omega)]; rfl
            refine g_aload_n (n := 89) dX9_readsButtress_88 rfl rfl ?_
            refine g_iload_n (n := 90) dX9_readsButtress_89 rfl rfl ?_
            refine g_iload_n (n := 91) dX9_readsButtress_90 rfl rfl ?_
            refine g_iload_n (n := 92) dX9_readsButtress_91 rfl rfl ?_
            refine g_iload (n := 94) dX9_readsButtress_92 rfl rfl ?_
            refine g_callWv (n := 97) cv_X9_41 (t_X9_buttressOf l e to s V be dn _ h6 _ _ _ _) dX9_readsButtress_94 rfl ⟨by decide, by decide, rfl, rfl, Nat.zero_le _, Nat.zero_le _⟩ rfl rfl rfl (Nat.le_of_ble_eq_true rfl) rfl rfl ?_
            refine g_iconst (v := nI 1) (n := 98) dX9_readsButtress_97 (by decide) rfl ?_
            exact g_iret (ty := .boolean) dX9_readsButtress_98 rfl (by first | exact bI_nar _ | decide) ⟨Nat.zero_le _, Nat.zero_le _⟩ ⟨by first | exact okT (by rw [e9]) | exact okF (by rw [e9]), by rw [e9] <;> rfl⟩
          ·
            have h6 : vnf V = 6 := (nI_eq (by omega) (by decide)).mp c83
            have e9 : rfF ta n p V be = (false, V, be, (b4A ta n p (vnb V)).2) := by unfold rfF; rw [if_neg a1, if_neg a2, if_neg a3, a4, decide_eq_true h6]; rfl
            refine g_iconst (v := nI 0) (n := 87) dX9_readsButtress_86 (by decide) rfl ?_
            exact g_iret (ty := .boolean) dX9_readsButtress_87 rfl (by first | exact bI_nar _ | decide) ⟨Nat.zero_le _, Nat.zero_le _⟩ ⟨by first | exact okT (by rw [e9]) | exact okF (by rw [e9]), by rw [e9] <;> rfl⟩
      ·
        have e9 : rfF ta n p V be = (false, V, be, (b3A ta n p (vnb V)).2) := by unfold rfF; rw [if_neg a1, if_neg a2, if_pos (lt_of c52)]
        refine g_iconst (v := (-1)) (n := 56) dX9_readsButtress_55 (by decide) rfl ?_
        refine g_goto (tgt := 68) dX9_readsButtress_56 (by decide) ?_
        refine g_istore (n := 70) dX9_readsButtress_68 (by decide) rfl rfl ?_
        refine g_lsN (ls' := [_, _, _, _, _]) rfl ?_
        refine g_iload (n := 72) dX9_readsButtress_70 rfl rfl ?_
        refine g_if_lt (tgt := 86) (n := 75) dX9_readsButtress_72 (by decide) rfl (fun c72 => ?_) (fun c72 => absurd neg1_lt c72)
        refine g_iconst (v := nI 0) (n := 87) dX9_readsButtress_86 (by decide) rfl ?_
        exact g_iret (ty := .boolean) dX9_readsButtress_87 rfl (by first | exact bI_nar _ | decide) ⟨Nat.zero_le _, Nat.zero_le _⟩ ⟨by first | exact okT (by rw [e9]) | exact okF (by rw [e9]), by rw [e9] <;> rfl⟩
    ·
      have e9 : rfF ta n p V be = (false, V, be, (b2A ta n p).2) := by unfold rfF; rw [if_neg a1, if_pos (lt_of c28)]
      refine g_iconst (v := (-1)) (n := 32) dX9_readsButtress_31 (by decide) rfl ?_
      refine g_goto (tgt := 50) dX9_readsButtress_32 (by decide) ?_
      refine g_istore_n (n := 51) dX9_readsButtress_50 (by decide) rfl rfl ?_
      refine g_lsN (ls' := [_, _, _, _, _]) rfl ?_
      refine g_iload_n (n := 52) dX9_readsButtress_51 rfl rfl ?_
      refine g_if_ge (tgt := 59) (n := 55) dX9_readsButtress_52 (by decide) rfl (fun c52 => absurd c52 (by decide)) (fun c52 => ?_)
      refine g_iconst (v := (-1)) (n := 56) dX9_readsButtress_55 (by decide) rfl ?_
      refine g_goto (tgt := 68) dX9_readsButtress_56 (by decide) ?_
      refine g_istore (n := 70) dX9_readsButtress_68 (by decide) rfl rfl ?_
      refine g_lsN (ls' := [_, _, _, _, _]) rfl ?_
      refine g_iload (n := 72) dX9_readsButtress_70 rfl rfl ?_
      refine g_if_lt (tgt := 86) (n := 75) dX9_readsButtress_72 (by decide) rfl (fun c72 => ?_) (fun c72 => absurd neg1_lt c72)
      refine g_iconst (v := nI 0) (n := 87) dX9_readsButtress_86 (by decide) rfl ?_
      exact g_iret (ty := .boolean) dX9_readsButtress_87 rfl (by first | exact bI_nar _ | decide) ⟨Nat.zero_le _, Nat.zero_le _⟩ ⟨by first | exact okT (by rw [e9]) | exact okF (by rw [e9]), by rw [e9] <;> rfl⟩
  ·
    have e9 : rfF ta n p V be = (false, V, be, (b1A ta n p).2) := by unfold rfF; rw [if_pos (lt_of c10)]
    refine g_iconst (v := (-1)) (n := 14) dX9_readsButtress_13 (by decide) rfl ?_
    refine g_goto (tgt := 26) dX9_readsButtress_14 (by decide) ?_
    refine g_istore_n (n := 27) dX9_readsButtress_26 (by decide) rfl rfl ?_
    refine g_lsN (ls' := [_, _, _, _, _]) rfl ?_
    refine g_iload_n (n := 28) dX9_readsButtress_27 rfl rfl ?_
    refine g_if_ge (tgt := 35) (n := 31) dX9_readsButtress_28 (by decide) rfl (fun c28 => absurd c28 (by decide)) (fun c28 => ?_)
    refine g_iconst (v := (-1)) (n := 32) dX9_readsButtress_31 (by decide) rfl ?_
    refine g_goto (tgt := 50) dX9_readsButtress_32 (by decide) ?_
    refine g_istore_n (n := 51) dX9_readsButtress_50 (by decide) rfl rfl ?_
    refine g_lsN (ls' := [_, _, _, _, _]) rfl ?_
    refine g_iload_n (n := 52) dX9_readsButtress_51 rfl rfl ?_
    refine g_if_ge (tgt := 59) (n := 55) dX9_readsButtress_52 (by decide) rfl (fun c52 => absurd c52 (by decide)) (fun c52 => ?_)
    refine g_iconst (v := (-1)) (n := 56) dX9_readsButtress_55 (by decide) rfl ?_
    refine g_goto (tgt := 68) dX9_readsButtress_56 (by decide) ?_
    refine g_istore (n := 70) dX9_readsButtress_68 (by decide) rfl rfl ?_
    refine g_lsN (ls' := [_, _, _, _, _]) rfl ?_
    refine g_iload (n := 72) dX9_readsButtress_70 rfl rfl ?_
    refine g_if_lt (tgt := 86) (n := 75) dX9_readsButtress_72 (by decide) rfl (fun c72 => ?_) (fun c72 => absurd neg1_lt c72)
    refine g_iconst (v := nI 0) (n := 87) dX9_readsButtress_86 (by decide) rfl ?_
    exact g_iret (ty := .boolean) dX9_readsButtress_87 rfl (by first | exact bI_nar _ | decide) ⟨Nat.zero_le _, Nat.zero_le _⟩ ⟨by first | exact okT (by rw [e9]) | exact okF (by rw [e9]), by rw [e9] <;> rfl⟩

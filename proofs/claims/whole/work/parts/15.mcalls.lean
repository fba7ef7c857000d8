/-! 15.mcalls: the reference's small calls -/
def baF (V : WT) (S : ST) (f : Nat) : Bool := decide (vki V f = nI 3) && caF V (sho S)
def mdF (V : WT) (S : ST) (f : Nat) : Bool := hb (sup S) (nI f) && !baF V S f
def muF (V : WT) (S : ST) (f : Nat) : Bool := !hb (sup S) (nI f) && !baF V S f && !decide (vkn V f ≤ sti S f) && !hb (sfa S) (sbo S f)
def itP (V : WT) : Nat → ST → ST
  | 0, S => S
  | n + 1, S => itP V n (psF V S)
def shb (f : Nat) : Int32 := nI 1 <<< (nI f &&& 31)
abbrev sUp (S : ST) (u : Int32) : ST := (S.1, u, S.2.2)
abbrev sBo (S : ST) (b : Nat → Int32) : ST := (S.1, S.2.1, S.2.2.1, S.2.2.2.1, b, S.2.2.2.2.2)
def uaN (V : WT) (S : ST) (f : Nat) : Nat → Int32
  | 0 => nI 0
  | g + 1 => uaN V S f g + (if hb (sup S) (nI g) && decide (sbo S g = sbo S f) then nI 1 else nI 0)
def usN (V : WT) (S : ST) : Nat → Int32
  | 0 => nI 0
  | f + 1 => usN V S f ||| (if hb (sfa S) (sbo S f) then nI 0 else nI 1 <<< (nI f &&& 31))

set_option maxRecDepth 20000 in
theorem t_X9_isBarred (l : Launch) (e : MR) (V : WT) (S : ST) (hV : okV V) (f : Nat) (hf : f < vnf V) : Fn l M_X9_isBarred [.ref 0, .int (nI f)] (mw e (tk V) (pk S)) (some (.int (bI (baF V S f)))) (mw e (tk V) (pk S)) := by
  have hV1 := hV.1
  have hV2 := hV.2.1
  have hV3 := hV.2.2
  refine con_of rfl rfl (Nat.le_of_ble_eq_true rfl) ?_
  refine g_lsN (ls' := [_, _]) rfl ?_
  refine g_aload_n (n := 1) dX9_isBarred_0 rfl rfl ?_
  refine g_get (n := 4) fl_X9_13 dX9_isBarred_1 rfl rfl rfl ?_
  refine g_bipush (v := nI 20) (n := 6) dX9_isBarred_4 (by decide) rfl ?_
  refine g_iload_n (n := 7) dX9_isBarred_6 rfl rfl ?_
  refine g_iaddN (n := 8) dX9_isBarred_7 rfl ?_
  refine g_ialdN (n := 9) dX9_isBarred_8 rfl rfl (by decide) (by omega) ?_
  refine g_top (tk_ki _ (by omega)) ?_
  refine g_iconst (v := nI 3) (n := 10) dX9_isBarred_9 (by decide) rfl ?_
  refine g_icmp_ne (tgt := 30) (n := 13) dX9_isBarred_10 (by decide) rfl (fun c10 => ?_) (fun c10 => ?_)
  ·
    have hF : baF V S f = false := by unfold baF; rw [decide_eq_false c10]; rfl
    refine g_iconst (v := nI 0) (n := 31) dX9_isBarred_30 (by decide) rfl ?_
    exact g_iret (ty := .boolean) dX9_isBarred_31 rfl (by first | exact bI_nar _ | decide) ⟨Nat.zero_le _, Nat.zero_le _⟩ ⟨by first | exact okT hT | exact okF hF, rfl⟩
  ·
    have a1 := decide_eq_true c10
    refine g_aload_n (n := 14) dX9_isBarred_13 rfl rfl ?_
    refine g_aload_n (n := 15) dX9_isBarred_14 rfl rfl ?_
    refine g_get (n := 18) fl_X9_22 dX9_isBarred_15 rfl rfl rfl ?_
    refine g_iconst (v := nI 0) (n := 19) dX9_isBarred_18 (by decide) rfl ?_
    refine g_ialdN (n := 20) dX9_isBarred_19 rfl rfl (by decide) (by omega) ?_
    refine g_top (sk_0 _) ?_
    refine g_callWi (n := 23) cv_X9_122 (t_X9_areCarts l _ _ _ hV _) dX9_isBarred_20 rfl ⟨by decide, by decide, rfl, rfl, Nat.zero_le _, Nat.zero_le _⟩ rfl rfl rfl (Nat.le_of_ble_eq_true rfl) rfl rfl ?_
    refine g_if_eq (tgt := 30) (n := 26) dX9_isBarred_23 (by decide) rfl (fun c23 => ?_) (fun c23 => ?_)
    ·
      have hF : baF V S f = false := by unfold baF; rw [bI_0.mp c23, Bool.and_false]
      refine g_iconst (v := nI 0) (n := 31) dX9_isBarred_30 (by decide) rfl ?_
      exact g_iret (ty := .boolean) dX9_isBarred_31 rfl (by first | exact bI_nar _ | decide) ⟨Nat.zero_le _, Nat.zero_le _⟩ ⟨by first | exact okT hT | exact okF hF, rfl⟩
    ·
      have hT : baF V S f = true := by unfold baF; rw [a1, bI_n0.mp c23]; rfl
      refine g_iconst (v := nI 1) (n := 27) dX9_isBarred_26 (by decide) rfl ?_
      refine g_goto (tgt := 31) dX9_isBarred_27 (by decide) ?_
      exact g_iret (ty := .boolean) dX9_isBarred_31 rfl (by first | exact bI_nar _ | decide) ⟨Nat.zero_le _, Nat.zero_le _⟩ ⟨by first | exact okT hT | exact okF hF, rfl⟩
set_option maxRecDepth 20000 in
theorem t_X9_mayDown (l : Launch) (e : MR) (V : WT) (S : ST) (hV : okV V) (f : Nat) (hf : f < vnf V) : Fn l M_X9_mayDown [.ref 0, .int (nI f)] (mw e (tk V) (pk S)) (some (.int (bI (mdF V S f)))) (mw e (tk V) (pk S)) := by
  have hV1 := hV.1
  have hV2 := hV.2.1
  have hV3 := hV.2.2
  refine con_of rfl rfl (Nat.le_of_ble_eq_true rfl) ?_
  refine g_lsN (ls' := [_, _]) rfl ?_
  refine g_aload_n (n := 1) dX9_mayDown_0 rfl rfl ?_
  refine g_get (n := 4) fl_X9_22 dX9_mayDown_1 rfl rfl rfl ?_
  refine g_iconst (v := nI 1) (n := 5) dX9_mayDown_4 (by decide) rfl ?_
  refine g_ialdN (n := 6) dX9_mayDown_5 rfl rfl (by decide) (by omega) ?_
  refine g_top (sk_1 _) ?_
  refine g_iload_n (n := 7) dX9_mayDown_6 rfl rfl ?_
  refine g_callSi (n := 10) cs_X9_94 (t_X9_has l _ _) dX9_mayDown_7 rfl rfl ⟨by decide, by decide, rfl, rfl, Nat.zero_le _, Nat.zero_le _⟩ rfl (Nat.le_of_ble_eq_true rfl) rfl ?_
  refine g_if_eq (tgt := 25) (n := 13) dX9_mayDown_10 (by decide) rfl (fun c10 => ?_) (fun c10 => ?_)
  ·
    have hF : mdF V S f = false := by unfold mdF; rw [bI_0.mp c10]; rfl
    refine g_iconst (v := nI 0) (n := 26) dX9_mayDown_25 (by decide) rfl ?_
    exact g_iret (ty := .boolean) dX9_mayDown_26 rfl (by first | exact bI_nar _ | decide) ⟨Nat.zero_le _, Nat.zero_le _⟩ ⟨by first | exact okT hT | exact okF hF, rfl⟩
  ·
    refine g_aload_n (n := 14) dX9_mayDown_13 rfl rfl ?_
    refine g_iload_n (n := 15) dX9_mayDown_14 rfl rfl ?_
    refine g_callWi (n := 18) cv_X9_137 (t_X9_isBarred l _ _ _ hV f hf) dX9_mayDown_15 rfl ⟨by decide, by decide, rfl, rfl, Nat.zero_le _, Nat.zero_le _⟩ rfl rfl rfl (Nat.le_of_ble_eq_true rfl) rfl rfl ?_
    refine g_if_ne (tgt := 25) (n := 21) dX9_mayDown_18 (by decide) rfl (fun c18 => ?_) (fun c18 => ?_)
    ·
      have hF : mdF V S f = false := by unfold mdF; rw [bI_n0.mp c18, Bool.not_true, Bool.and_false]
      refine g_iconst (v := nI 0) (n := 26) dX9_mayDown_25 (by decide) rfl ?_
      exact g_iret (ty := .boolean) dX9_mayDown_26 rfl (by first | exact bI_nar _ | decide) ⟨Nat.zero_le _, Nat.zero_le _⟩ ⟨by first | exact okT hT | exact okF hF, rfl⟩
    ·
      have hT : mdF V S f = true := by unfold mdF; rw [bI_n0.mp c10, bI_0.mp c18]; rfl
      refine g_iconst (v := nI 1) (n := 22) dX9_mayDown_21 (by decide) rfl ?_
      refine g_goto (tgt := 26) dX9_mayDown_22 (by decide) ?_
      exact g_iret (ty := .boolean) dX9_mayDown_26 rfl (by first | exact bI_nar _ | decide) ⟨Nat.zero_le _, Nat.zero_le _⟩ ⟨by first | exact okT hT | exact okF hF, rfl⟩
set_option maxRecDepth 20000 in
theorem t_X9_mayUp (l : Launch) (e : MR) (V : WT) (S : ST) (hV : okV V) (f : Nat) (hf : f < vnf V) : Fn l M_X9_mayUp [.ref 0, .int (nI f)] (mw e (tk V) (pk S)) (some (.int (bI (muF V S f)))) (mw e (tk V) (pk S)) := by
  have hV1 := hV.1
  have hV2 := hV.2.1
  have hV3 := hV.2.2
  refine con_of rfl rfl (Nat.le_of_ble_eq_true rfl) ?_
  refine g_lsN (ls' := [_, _]) rfl ?_
  refine g_aload_n (n := 1) dX9_mayUp_0 rfl rfl ?_
  refine g_get (n := 4) fl_X9_22 dX9_mayUp_1 rfl rfl rfl ?_
  refine g_iconst (v := nI 1) (n := 5) dX9_mayUp_4 (by decide) rfl ?_
  refine g_ialdN (n := 6) dX9_mayUp_5 rfl rfl (by decide) (by omega) ?_
  refine g_top (sk_1 _) ?_
  refine g_iload_n (n := 7) dX9_mayUp_6 rfl rfl ?_
  refine g_callSi (n := 10) cs_X9_94 (t_X9_has l _ _) dX9_mayUp_7 rfl rfl ⟨by decide, by decide, rfl, rfl, Nat.zero_le _, Nat.zero_le _⟩ rfl (Nat.le_of_ble_eq_true rfl) rfl ?_
  refine g_if_ne (tgt := 61) (n := 13) dX9_mayUp_10 (by decide) rfl (fun c10 => ?_) (fun c10 => ?_)
  ·
    have hF : muF V S f = false := by unfold muF; rw [bI_n0.mp c10]; rfl
    refine g_iconst (v := nI 0) (n := 62) dX9_mayUp_61 (by decide) rfl ?_
    exact g_iret (ty := .boolean) dX9_mayUp_62 rfl (by first | exact bI_nar _ | decide) ⟨Nat.zero_le _, Nat.zero_le _⟩ ⟨by first | exact okT hT | exact okF hF, rfl⟩
  ·
    have a1 := bI_0.mp c10
    refine g_aload_n (n := 14) dX9_mayUp_13 rfl rfl ?_
    refine g_iload_n (n := 15) dX9_mayUp_14 rfl rfl ?_
    refine g_callWi (n := 18) cv_X9_137 (t_X9_isBarred l _ _ _ hV f hf) dX9_mayUp_15 rfl ⟨by decide, by decide, rfl, rfl, Nat.zero_le _, Nat.zero_le _⟩ rfl rfl rfl (Nat.le_of_ble_eq_true rfl) rfl rfl ?_
    refine g_if_ne (tgt := 61) (n := 21) dX9_mayUp_18 (by decide) rfl (fun c18 => ?_) (fun c18 => ?_)
    ·
      have hF : muF V S f = false := by unfold muF; rw [a1, bI_n0.mp c18]; rfl
      refine g_iconst (v := nI 0) (n := 62) dX9_mayUp_61 (by decide) rfl ?_
      exact g_iret (ty := .boolean) dX9_mayUp_62 rfl (by first | exact bI_nar _ | decide) ⟨Nat.zero_le _, Nat.zero_le _⟩ ⟨by first | exact okT hT | exact okF hF, rfl⟩
    ·
      have a2 := bI_0.mp c18
      refine g_aload_n (n := 22) dX9_mayUp_21 rfl rfl ?_
      refine g_get (n := 25) fl_X9_22 dX9_mayUp_22 rfl rfl rfl ?_
      refine g_iconst (v := nI 3) (n := 26) dX9_mayUp_25 (by decide) rfl ?_
      refine g_iload_n (n := 27) dX9_mayUp_26 rfl rfl ?_
      refine g_iaddN (n := 28) dX9_mayUp_27 rfl ?_
      refine g_ialdN (n := 29) dX9_mayUp_28 rfl rfl (by decide) (by omega) ?_
      refine g_top (sk_ti _ (by omega)) ?_
      refine g_aload_n (n := 30) dX9_mayUp_29 rfl rfl ?_
      refine g_get (n := 33) fl_X9_13 dX9_mayUp_30 rfl rfl rfl ?_
      refine g_bipush (v := nI 32) (n := 35) dX9_mayUp_33 (by decide) rfl ?_
      refine g_iload_n (n := 36) dX9_mayUp_35 rfl rfl ?_
      refine g_iaddN (n := 37) dX9_mayUp_36 rfl ?_
      refine g_ialdN (n := 38) dX9_mayUp_37 rfl rfl (by decide) (by omega) ?_
      refine g_top (tk_kn _ (by omega)) ?_
      refine g_icmp_ge (tgt := 61) (n := 41) dX9_mayUp_38 (by decide) rfl (fun c38 => ?_) (fun c38 => ?_)
      ·
        have hF : muF V S f = false := by unfold muF; rw [a1, a2, decide_eq_true c38]; rfl
        refine g_iconst (v := nI 0) (n := 62) dX9_mayUp_61 (by decide) rfl ?_
        exact g_iret (ty := .boolean) dX9_mayUp_62 rfl (by first | exact bI_nar _ | decide) ⟨Nat.zero_le _, Nat.zero_le _⟩ ⟨by first | exact okT hT | exact okF hF, rfl⟩
      ·
        have a3 := decide_eq_false c38
        refine g_aload_n (n := 42) dX9_mayUp_41 rfl rfl ?_
        refine g_aload_n (n := 43) dX9_mayUp_42 rfl rfl ?_
        refine g_get (n := 46) fl_X9_22 dX9_mayUp_43 rfl rfl rfl ?_
        refine g_bipush (v := nI 9) (n := 48) dX9_mayUp_46 (by decide) rfl ?_
        refine g_iload_n (n := 49) dX9_mayUp_48 rfl rfl ?_
        refine g_iaddN (n := 50) dX9_mayUp_49 rfl ?_
        refine g_ialdN (n := 51) dX9_mayUp_50 rfl rfl (by decide) (by omega) ?_
        refine g_top (sk_bo _ (by omega)) ?_
        refine g_callWi (n := 54) cv_X9_98 (t_X9_hasFallen l _ _ _ _) dX9_mayUp_51 rfl ⟨by decide, by decide, rfl, rfl, Nat.zero_le _, Nat.zero_le _⟩ rfl rfl rfl (Nat.le_of_ble_eq_true rfl) rfl rfl ?_
        refine g_if_ne (tgt := 61) (n := 57) dX9_mayUp_54 (by decide) rfl (fun c54 => ?_) (fun c54 => ?_)
        ·
          have hF : muF V S f = false := by unfold muF; rw [a1, a2, a3, bI_n0.mp c54]; rfl
          refine g_iconst (v := nI 0) (n := 62) dX9_mayUp_61 (by decide) rfl ?_
          exact g_iret (ty := .boolean) dX9_mayUp_62 rfl (by first | exact bI_nar _ | decide) ⟨Nat.zero_le _, Nat.zero_le _⟩ ⟨by first | exact okT hT | exact okF hF, rfl⟩
        ·
          have hT : muF V S f = true := by unfold muF; rw [a1, a2, a3, bI_0.mp c54]; rfl
          refine g_iconst (v := nI 1) (n := 58) dX9_mayUp_57 (by decide) rfl ?_
          refine g_goto (tgt := 62) dX9_mayUp_58 (by decide) ?_
          exact g_iret (ty := .boolean) dX9_mayUp_62 rfl (by first | exact bI_nar _ | decide) ⟨Nat.zero_le _, Nat.zero_le _⟩ ⟨by first | exact okT hT | exact okF hF, rfl⟩
set_option maxRecDepth 20000 in
theorem t_X9_wipe (l : Launch) (e : MR) (to s : Nat → Int32) : Fn l M_X9_wipe [.ref 0] (mw e to s) (some (.int e.2.1)) (mw (sTx e e.1 (nI 0)) to s) := by
  refine con_of rfl rfl (Nat.le_of_ble_eq_true rfl) ?_
  refine g_lsN (ls' := [_, _]) rfl ?_
  refine g_aload_n (n := 1) dX9_wipe_0 rfl rfl ?_
  refine g_get (n := 4) fl_X9_56 dX9_wipe_1 rfl rfl rfl ?_
  refine g_istore_n (n := 5) dX9_wipe_4 (by decide) rfl rfl ?_
  refine g_lsN (ls' := [_, _]) rfl ?_
  refine g_aload_n (n := 6) dX9_wipe_5 rfl rfl ?_
  refine g_iconst (v := nI 0) (n := 7) dX9_wipe_6 (by decide) rfl ?_
  refine g_put (n := 10) pf_X9_56 dX9_wipe_7 rfl (Nat.le_of_ble_eq_true rfl) (fun _ => rfl) (fun _ => rfl) rfl ?_
  refine g_wN (w' := [_, _, _, _, _, _, _, _, _]) rfl ?_
  refine g_iload_n (n := 11) dX9_wipe_10 rfl rfl ?_
  exact g_iret (ty := .int) dX9_wipe_11 rfl rfl ⟨Nat.zero_le _, Nat.zero_le _⟩ ⟨rfl, rfl⟩
set_option maxRecDepth 20000 in
theorem t_X9_write_bad (l : Launch) (e : MR) (to s : Nat → Int32) (x : Int32) (h : inB x (nI 32) (nI 126) = false) : Fn l M_X9_write [.ref 0, .int x] (mw e to s) (some (.int (-1))) (mw e to s) := by
  refine con_of rfl rfl (Nat.le_of_ble_eq_true rfl) ?_
  refine g_lsN (ls' := [_, _]) rfl ?_
  refine g_iload_n (n := 1) dX9_write_0 rfl rfl ?_
  refine g_bipush (v := nI 32) (n := 3) dX9_write_1 (by decide) rfl ?_
  refine g_bipush (v := nI 126) (n := 5) dX9_write_3 (by decide) rfl ?_
  refine g_callSi (n := 8) cs_X9_52 (t_X9_in l _ _ _) dX9_write_5 rfl rfl ⟨by decide, by decide, rfl, rfl, Nat.zero_le _, Nat.zero_le _⟩ rfl (Nat.le_of_ble_eq_true rfl) rfl ?_
  refine g_if_ne (tgt := 13) (n := 11) dX9_write_8 (by decide) rfl (fun c8 => absurd (bI_0.mpr h) c8) (fun c8 => ?_)
  refine g_iconst (v := (-1)) (n := 12) dX9_write_11 (by decide) rfl ?_
  exact g_iret (ty := .int) dX9_write_12 rfl rfl ⟨Nat.zero_le _, Nat.zero_le _⟩ ⟨rfl, rfl⟩
set_option maxRecDepth 20000 in
theorem t_X9_write_full (l : Launch) (e : MR) (to s : Nat → Int32) (x : Int32) (h : inB x (nI 32) (nI 126) = true) (ht : e.2.1 = nI 200) : Fn l M_X9_write [.ref 0, .int x] (mw e to s) (some (.int (-3))) (mw e to s) := by
  refine con_of rfl rfl (Nat.le_of_ble_eq_true rfl) ?_
  refine g_lsN (ls' := [_, _]) rfl ?_
  refine g_iload_n (n := 1) dX9_write_0 rfl rfl ?_
  refine g_bipush (v := nI 32) (n := 3) dX9_write_1 (by decide) rfl ?_
  refine g_bipush (v := nI 126) (n := 5) dX9_write_3 (by decide) rfl ?_
  refine g_callSi (n := 8) cs_X9_52 (t_X9_in l _ _ _) dX9_write_5 rfl rfl ⟨by decide, by decide, rfl, rfl, Nat.zero_le _, Nat.zero_le _⟩ rfl (Nat.le_of_ble_eq_true rfl) rfl ?_
  refine g_if_ne (tgt := 13) (n := 11) dX9_write_8 (by decide) rfl (fun c8 => ?_) (fun c8 => absurd c8 (bI_n0.mpr h))
  refine g_aload_n (n := 14) dX9_write_13 rfl rfl ?_
  refine g_get (n := 17) fl_X9_56 dX9_write_14 rfl rfl rfl ?_
  refine g_top ht ?_
  refine g_sipush (v := nI 200) (n := 20) dX9_write_17 (by decide) rfl ?_
  refine g_icmp_ne (tgt := 26) (n := 23) dX9_write_20 (by decide) rfl (fun c20 => absurd rfl c20) (fun c20 => ?_)
  refine g_bipush (v := (-3)) (n := 25) dX9_write_23 (by decide) rfl ?_
  exact g_iret (ty := .int) dX9_write_25 rfl rfl ⟨Nat.zero_le _, Nat.zero_le _⟩ ⟨rfl, rfl⟩
set_option maxRecDepth 20000 in
theorem t_X9_write_ok (l : Launch) (e : MR) (to s : Nat → Int32) (x : Int32) (n : Nat) (hn : n < 200) (h : inB x (nI 32) (nI 126) = true) (ht : e.2.1 = nI n) : Fn l M_X9_write [.ref 0, .int x] (mw e to s) (some (.int (nI (n + 1)))) (mw (sTx e (upd e.1 n x) (nI (n + 1))) to s) := by
  refine con_of rfl rfl (Nat.le_of_ble_eq_true rfl) ?_
  refine g_lsN (ls' := [_, _]) rfl ?_
  refine g_iload_n (n := 1) dX9_write_0 rfl rfl ?_
  refine g_bipush (v := nI 32) (n := 3) dX9_write_1 (by decide) rfl ?_
  refine g_bipush (v := nI 126) (n := 5) dX9_write_3 (by decide) rfl ?_
  refine g_callSi (n := 8) cs_X9_52 (t_X9_in l _ _ _) dX9_write_5 rfl rfl ⟨by decide, by decide, rfl, rfl, Nat.zero_le _, Nat.zero_le _⟩ rfl (Nat.le_of_ble_eq_true rfl) rfl ?_
  refine g_if_ne (tgt := 13) (n := 11) dX9_write_8 (by decide) rfl (fun c8 => ?_) (fun c8 => absurd c8 (bI_n0.mpr h))
  refine g_aload_n (n := 14) dX9_write_13 rfl rfl ?_
  refine g_get (n := 17) fl_X9_56 dX9_write_14 rfl rfl rfl ?_
  refine g_top ht ?_
  refine g_sipush (v := nI 200) (n := 20) dX9_write_17 (by decide) rfl ?_
  refine g_icmp_ne (tgt := 26) (n := 23) dX9_write_20 (by decide) rfl (fun c20 => ?_) (fun c20 => absurd c20 (fun q => absurd ((nI_eq (by omega) (by omega)).mp q) (by omega)))
  refine g_aload_n (n := 27) dX9_write_26 rfl rfl ?_
  refine g_get (n := 30) fl_X9_7 dX9_write_27 rfl rfl rfl ?_
  refine g_aload_n (n := 31) dX9_write_30 rfl rfl ?_
  refine g_get (n := 34) fl_X9_56 dX9_write_31 rfl rfl rfl ?_
  refine g_top ht ?_
  refine g_iload_n (n := 35) dX9_write_34 rfl rfl ?_
  refine g_iastN (n := 36) dX9_write_35 rfl rfl (by decide) (by omega) ?_
  refine g_wN (w' := [_, _, _, _, _, _, _, _, _]) rfl ?_
  refine g_aload_n (n := 37) dX9_write_36 rfl rfl ?_
  refine g_dup (n := 38) dX9_write_37 rfl rfl ?_
  refine g_get (n := 41) fl_X9_56 dX9_write_38 rfl rfl rfl ?_
  refine g_top ht ?_
  refine g_iconst (v := nI 1) (n := 42) dX9_write_41 (by decide) rfl ?_
  refine g_iaddN (n := 43) dX9_write_42 rfl ?_
  refine g_put (n := 46) pf_X9_56 dX9_write_43 rfl (Nat.le_of_ble_eq_true rfl) (fun _ => rfl) (fun _ => rfl) rfl ?_
  refine g_wN (w' := [_, _, _, _, _, _, _, _, _]) rfl ?_
  refine g_aload_n (n := 47) dX9_write_46 rfl rfl ?_
  refine g_get (n := 50) fl_X9_56 dX9_write_47 rfl rfl rfl ?_
  exact g_iret (ty := .int) dX9_write_50 rfl rfl ⟨Nat.zero_le _, Nat.zero_le _⟩ ⟨rfl, rfl⟩
set_option maxRecDepth 20000 in
theorem t_X9_carts_bad (l : Launch) (e : MR) (V : WT) (S : ST) (hV : okV V) (x : Int32) (h : inB x (nI 0) (nI 99) = false) : Fn l M_X9_carts [.ref 0, .int x] (mw e (tk V) (pk S)) (some (.int (-1))) (mw e (tk V) (pk S)) := by
  have hV1 := hV.1
  have hV2 := hV.2.1
  have hV3 := hV.2.2
  refine con_of rfl rfl (Nat.le_of_ble_eq_true rfl) ?_
  refine g_lsN (ls' := [_, _]) rfl ?_
  refine g_iload_n (n := 1) dX9_carts_0 rfl rfl ?_
  refine g_iconst (v := nI 0) (n := 2) dX9_carts_1 (by decide) rfl ?_
  refine g_bipush (v := nI 99) (n := 4) dX9_carts_2 (by decide) rfl ?_
  refine g_callSi (n := 7) cs_X9_52 (t_X9_in l _ _ _) dX9_carts_4 rfl rfl ⟨by decide, by decide, rfl, rfl, Nat.zero_le _, Nat.zero_le _⟩ rfl (Nat.le_of_ble_eq_true rfl) rfl ?_
  refine g_if_ne (tgt := 12) (n := 10) dX9_carts_7 (by decide) rfl (fun c7 => absurd (bI_0.mpr h) c7) (fun c7 => ?_)
  refine g_iconst (v := (-1)) (n := 11) dX9_carts_10 (by decide) rfl ?_
  exact g_iret (ty := .int) dX9_carts_11 rfl rfl ⟨Nat.zero_le _, Nat.zero_le _⟩ ⟨rfl, rfl⟩
set_option maxRecDepth 20000 in
theorem t_X9_carts_ok (l : Launch) (e : MR) (V : WT) (S : ST) (hV : okV V) (x : Int32) (h : inB x (nI 0) (nI 99) = true) : Fn l M_X9_carts [.ref 0, .int x] (mw e (tk V) (pk S)) (some (.int (bI (caF V (sho S + x))))) (mw e (tk V) (pk S)) := by
  have hV1 := hV.1
  have hV2 := hV.2.1
  have hV3 := hV.2.2
  refine con_of rfl rfl (Nat.le_of_ble_eq_true rfl) ?_
  refine g_lsN (ls' := [_, _]) rfl ?_
  refine g_iload_n (n := 1) dX9_carts_0 rfl rfl ?_
  refine g_iconst (v := nI 0) (n := 2) dX9_carts_1 (by decide) rfl ?_
  refine g_bipush (v := nI 99) (n := 4) dX9_carts_2 (by decide) rfl ?_
  refine g_callSi (n := 7) cs_X9_52 (t_X9_in l _ _ _) dX9_carts_4 rfl rfl ⟨by decide, by decide, rfl, rfl, Nat.zero_le _, Nat.zero_le _⟩ rfl (Nat.le_of_ble_eq_true rfl) rfl ?_
  refine g_if_ne (tgt := 12) (n := 10) dX9_carts_7 (by decide) rfl (fun c7 => ?_) (fun c7 => absurd c7 (bI_n0.mpr h))
  refine g_aload_n (n := 13) dX9_carts_12 rfl rfl ?_
  refine g_aload_n (n := 14) dX9_carts_13 rfl rfl ?_
  refine g_get (n := 17) fl_X9_22 dX9_carts_14 rfl rfl rfl ?_
  refine g_iconst (v := nI 0) (n := 18) dX9_carts_17 (by decide) rfl ?_
  refine g_ialdN (n := 19) dX9_carts_18 rfl rfl (by decide) (by omega) ?_
  refine g_top (sk_0 _) ?_
  refine g_iload_n (n := 20) dX9_carts_19 rfl rfl ?_
  refine g_iadd (n := 21) dX9_carts_20 rfl ?_
  refine g_callWi (n := 24) cv_X9_122 (t_X9_areCarts l _ _ _ hV _) dX9_carts_21 rfl ⟨by decide, by decide, rfl, rfl, Nat.zero_le _, Nat.zero_le _⟩ rfl rfl rfl (Nat.le_of_ble_eq_true rfl) rfl rfl ?_
  refine g_if_eq (tgt := 31) (n := 27) dX9_carts_24 (by decide) rfl (fun c24 => ?_) (fun c24 => ?_)
  ·
    have hF := bI_0.mp c24
    refine g_iconst (v := nI 0) (n := 32) dX9_carts_31 (by decide) rfl ?_
    exact g_iret (ty := .int) dX9_carts_32 rfl rfl ⟨Nat.zero_le _, Nat.zero_le _⟩ ⟨by first | exact okT hT | exact okF hF, rfl⟩
  ·
    have hT := bI_n0.mp c24
    refine g_iconst (v := nI 1) (n := 28) dX9_carts_27 (by decide) rfl ?_
    refine g_goto (tgt := 32) dX9_carts_28 (by decide) ?_
    exact g_iret (ty := .int) dX9_carts_32 rfl rfl ⟨Nat.zero_le _, Nat.zero_le _⟩ ⟨by first | exact okT hT | exact okF hF, rfl⟩
set_option maxRecDepth 20000 in
theorem lp_X9_pass (l : Launch) (z : Nat × Nat × Nat) (hz : z.2.1 ≤ 0 ∧ z.2.2 ≤ 0) (Q : Option Value → List va_E → Prop) (e : MR) (V : WT) (hV : okV V) (m : Nat) (hm : m ≤ 100) : ∀ (n k : Nat) (S : ST), k + n = m → Q (some (.int (sho (itP V n S)))) (mw e (tk V) (pk (itP V n S))) → G l M_X9_pass z Q 18 [some (.ref 0), some (.int (nI m)), some (.int (nI k))] [] (mw e (tk V) (pk S)) := by
  intro n
  induction n with
  | zero =>
    intro k S hk hQ
    have hk2 : k = m := by omega
    subst hk2
    refine g_iload_n (n := 19) dX9_pass_18 rfl rfl ?_
    refine g_iload_n (n := 20) dX9_pass_19 rfl rfl ?_
    refine g_icmp_ge (tgt := 33) (n := 23) dX9_pass_20 (by decide) rfl (fun c20 => ?_) (fun c20 => absurd (nI_le (Nat.le_refl _) (by omega)) c20)
    refine g_aload_n (n := 34) dX9_pass_33 rfl rfl ?_
    refine g_get (n := 37) fl_X9_22 dX9_pass_34 rfl rfl rfl ?_
    refine g_iconst (v := nI 0) (n := 38) dX9_pass_37 (by decide) rfl ?_
    refine g_ialdN (n := 39) dX9_pass_38 rfl rfl (by decide) (by omega) ?_
    refine g_top (sk_0 _) ?_
    exact g_iret (ty := .int) dX9_pass_39 rfl rfl hz hQ
  | succ n ih =>
    intro k S hk hQ
    refine g_iload_n (n := 19) dX9_pass_18 rfl rfl ?_
    refine g_iload_n (n := 20) dX9_pass_19 rfl rfl ?_
    refine g_icmp_ge (tgt := 33) (n := 23) dX9_pass_20 (by decide) rfl (fun c20 => absurd c20 (nI_ge (show k < m by omega) (by omega))) (fun c20 => ?_)
    refine g_aload_n (n := 24) dX9_pass_23 rfl rfl ?_
    refine g_callWv (n := 27) cv_X9_134 (t_X9_passes l _ _ _ hV) dX9_pass_24 rfl ⟨by decide, by decide, rfl, rfl, hz.1, hz.2⟩ rfl rfl rfl (Nat.le_of_ble_eq_true rfl) rfl rfl ?_
    refine g_iincN (k := 1) (n := 30) dX9_pass_27 rfl (by decide) rfl rfl ?_
    refine g_lsN (ls' := [_, _, _]) rfl ?_
    refine g_goto (tgt := 18) dX9_pass_30 (by decide) ?_
    exact ih (k + 1) (psF V S) (by omega) hQ
set_option maxRecDepth 20000 in
theorem t_X9_pass_bad (l : Launch) (e : MR) (V : WT) (S : ST) (hV : okV V) (x : Int32) (h : inB x (nI 1) (nI 24) = false) : Fn l M_X9_pass [.ref 0, .int x] (mw e (tk V) (pk S)) (some (.int (-1))) (mw e (tk V) (pk S)) := by
  have hV1 := hV.1
  have hV2 := hV.2.1
  have hV3 := hV.2.2
  refine con_of rfl rfl (Nat.le_of_ble_eq_true rfl) ?_
  refine g_lsN (ls' := [_, _, _]) rfl ?_
  refine g_iload_n (n := 1) dX9_pass_0 rfl rfl ?_
  refine g_iconst (v := nI 1) (n := 2) dX9_pass_1 (by decide) rfl ?_
  refine g_bipush (v := nI 24) (n := 4) dX9_pass_2 (by decide) rfl ?_
  refine g_callSi (n := 7) cs_X9_52 (t_X9_in l _ _ _) dX9_pass_4 rfl rfl ⟨by decide, by decide, rfl, rfl, Nat.zero_le _, Nat.zero_le _⟩ rfl (Nat.le_of_ble_eq_true rfl) rfl ?_
  refine g_if_ne (tgt := 12) (n := 10) dX9_pass_7 (by decide) rfl (fun c7 => absurd (bI_0.mpr h) c7) (fun c7 => ?_)
  refine g_iconst (v := (-1)) (n := 11) dX9_pass_10 (by decide) rfl ?_
  exact g_iret (ty := .int) dX9_pass_11 rfl rfl ⟨Nat.zero_le _, Nat.zero_le _⟩ ⟨rfl, rfl⟩
set_option maxRecDepth 20000 in
theorem t_X9_pass_ok (l : Launch) (e : MR) (V : WT) (S : ST) (hV : okV V) (m : Nat) (kn : Nat) (hk8 : kn ≤ 8) (hk : eKn e = nI kn) (hm : m ≤ 24) (h : inB (nI m) (nI 1) (nI 24) = true) : Fn l M_X9_pass [.ref 0, .int (nI m)] (mw e (tk V) (pk S)) (some (.int (sho (itP V m S)))) (mw (sPK e (kpP (ePa e) kn (pk S)) (nI (kpK kn))) (tk V) (pk (itP V m S))) := by
  have hV1 := hV.1
  have hV2 := hV.2.1
  have hV3 := hV.2.2
  refine con_of rfl rfl (Nat.le_of_ble_eq_true rfl) ?_
  refine g_lsN (ls' := [_, _, _]) rfl ?_
  refine g_iload_n (n := 1) dX9_pass_0 rfl rfl ?_
  refine g_iconst (v := nI 1) (n := 2) dX9_pass_1 (by decide) rfl ?_
  refine g_bipush (v := nI 24) (n := 4) dX9_pass_2 (by decide) rfl ?_
  refine g_callSi (n := 7) cs_X9_52 (t_X9_in l _ _ _) dX9_pass_4 rfl rfl ⟨by decide, by decide, rfl, rfl, Nat.zero_le _, Nat.zero_le _⟩ rfl (Nat.le_of_ble_eq_true rfl) rfl ?_
  refine g_if_ne (tgt := 12) (n := 10) dX9_pass_7 (by decide) rfl (fun c7 => ?_) (fun c7 => absurd c7 (bI_n0.mpr h))
  refine g_aload_n (n := 13) dX9_pass_12 rfl rfl ?_
  refine g_callWv (n := 16) cv_X9_131 (t_X9_keeps l _ _ _ kn hk8 hk) dX9_pass_13 rfl ⟨by decide, by decide, rfl, rfl, Nat.zero_le _, Nat.zero_le _⟩ rfl rfl rfl (Nat.le_of_ble_eq_true rfl) rfl rfl ?_
  refine g_iconst (v := nI 0) (n := 17) dX9_pass_16 (by decide) rfl ?_
  refine g_istore_n (n := 18) dX9_pass_17 (by decide) rfl rfl ?_
  refine g_lsN (ls' := [_, _, _]) rfl ?_
  exact lp_X9_pass l _ ⟨Nat.zero_le _, Nat.zero_le _⟩ _ (sPK e (kpP (ePa e) kn (pk S)) (nI (kpK kn))) V hV m (by omega) m 0 S (by omega) ⟨rfl, rfl⟩
set_option maxRecDepth 20000 in
theorem t_X9_down_bad (l : Launch) (e : MR) (V : WT) (S : ST) (hV : okV V) (x : Int32) (h : isB (vnf V) x = false) : Fn l M_X9_down [.ref 0, .int x] (mw e (tk V) (pk S)) (some (.int (-1))) (mw e (tk V) (pk S)) := by
  have hV1 := hV.1
  have hV2 := hV.2.1
  have hV3 := hV.2.2
  refine con_of rfl rfl (Nat.le_of_ble_eq_true rfl) ?_
  refine g_lsN (ls' := [_, _]) rfl ?_
  refine g_aload_n (n := 1) dX9_down_0 rfl rfl ?_
  refine g_iload_n (n := 2) dX9_down_1 rfl rfl ?_
  refine g_callWi (n := 5) cv_X9_119 (t_X9_isButtress l _ _ _ _) dX9_down_2 rfl ⟨by decide, by decide, rfl, rfl, Nat.zero_le _, Nat.zero_le _⟩ rfl rfl rfl (Nat.le_of_ble_eq_true rfl) rfl rfl ?_
  refine g_if_ne (tgt := 10) (n := 8) dX9_down_5 (by decide) rfl (fun c5 => absurd (bI_0.mpr h) c5) (fun c5 => ?_)
  refine g_iconst (v := (-1)) (n := 9) dX9_down_8 (by decide) rfl ?_
  exact g_iret (ty := .int) dX9_down_9 rfl rfl ⟨Nat.zero_le _, Nat.zero_le _⟩ ⟨rfl, rfl⟩
set_option maxRecDepth 20000 in
theorem t_X9_down_no (l : Launch) (e : MR) (V : WT) (S : ST) (hV : okV V) (f : Nat) (hf : f < vnf V) (h : mdF V S f = false) : Fn l M_X9_down [.ref 0, .int (nI f)] (mw e (tk V) (pk S)) (some (.int (-2))) (mw e (tk V) (pk S)) := by
  have hV1 := hV.1
  have hV2 := hV.2.1
  have hV3 := hV.2.2
  refine con_of rfl rfl (Nat.le_of_ble_eq_true rfl) ?_
  refine g_lsN (ls' := [_, _]) rfl ?_
  refine g_aload_n (n := 1) dX9_down_0 rfl rfl ?_
  refine g_iload_n (n := 2) dX9_down_1 rfl rfl ?_
  refine g_callWi (n := 5) cv_X9_119 (t_X9_isButtress l _ _ _ _) dX9_down_2 rfl ⟨by decide, by decide, rfl, rfl, Nat.zero_le _, Nat.zero_le _⟩ rfl rfl rfl (Nat.le_of_ble_eq_true rfl) rfl rfl ?_
  refine g_if_ne (tgt := 10) (n := 8) dX9_down_5 (by decide) rfl (fun c5 => ?_) (fun c5 => absurd c5 (bI_n0.mpr (show isB (vnf V) (nI f) = true by rw [isB_nI (by omega) (by omega)]; exact decide_eq_true hf)))
  refine g_aload_n (n := 11) dX9_down_10 rfl rfl ?_
  refine g_iload_n (n := 12) dX9_down_11 rfl rfl ?_
  refine g_callWi (n := 15) cv_X9_140 (t_X9_mayDown l _ _ _ hV f hf) dX9_down_12 rfl ⟨by decide, by decide, rfl, rfl, Nat.zero_le _, Nat.zero_le _⟩ rfl rfl rfl (Nat.le_of_ble_eq_true rfl) rfl rfl ?_
  refine g_if_ne (tgt := 21) (n := 18) dX9_down_15 (by decide) rfl (fun c15 => absurd (bI_0.mpr h) c15) (fun c15 => ?_)
  refine g_bipush (v := (-2)) (n := 20) dX9_down_18 (by decide) rfl ?_
  exact g_iret (ty := .int) dX9_down_20 rfl rfl ⟨Nat.zero_le _, Nat.zero_le _⟩ ⟨rfl, rfl⟩
set_option maxRecDepth 20000 in
theorem t_X9_down_ok (l : Launch) (e : MR) (V : WT) (S : ST) (hV : okV V) (f : Nat) (hf : f < vnf V) (kn : Nat) (hk8 : kn ≤ 8) (hk : eKn e = nI kn) (h : mdF V S f = true) : Fn l M_X9_down [.ref 0, .int (nI f)] (mw e (tk V) (pk S)) (some (.int (sti S f))) (mw (sPK e (kpP (ePa e) kn (pk S)) (nI (kpK kn))) (tk V) (pk (sUp S (sup S ^^^ shb f)))) := by
  have hV1 := hV.1
  have hV2 := hV.2.1
  have hV3 := hV.2.2
  refine con_of rfl rfl (Nat.le_of_ble_eq_true rfl) ?_
  refine g_lsN (ls' := [_, _]) rfl ?_
  refine g_aload_n (n := 1) dX9_down_0 rfl rfl ?_
  refine g_iload_n (n := 2) dX9_down_1 rfl rfl ?_
  refine g_callWi (n := 5) cv_X9_119 (t_X9_isButtress l _ _ _ _) dX9_down_2 rfl ⟨by decide, by decide, rfl, rfl, Nat.zero_le _, Nat.zero_le _⟩ rfl rfl rfl (Nat.le_of_ble_eq_true rfl) rfl rfl ?_
  refine g_if_ne (tgt := 10) (n := 8) dX9_down_5 (by decide) rfl (fun c5 => ?_) (fun c5 => absurd c5 (bI_n0.mpr (show isB (vnf V) (nI f) = true by rw [isB_nI (by omega) (by omega)]; exact decide_eq_true hf)))
  refine g_aload_n (n := 11) dX9_down_10 rfl rfl ?_
  refine g_iload_n (n := 12) dX9_down_11 rfl rfl ?_
  refine g_callWi (n := 15) cv_X9_140 (t_X9_mayDown l _ _ _ hV f hf) dX9_down_12 rfl ⟨by decide, by decide, rfl, rfl, Nat.zero_le _, Nat.zero_le _⟩ rfl rfl rfl (Nat.le_of_ble_eq_true rfl) rfl rfl ?_
  refine g_if_ne (tgt := 21) (n := 18) dX9_down_15 (by decide) rfl (fun c15 => ?_) (fun c15 => absurd c15 (bI_n0.mpr h))
  refine g_aload_n (n := 22) dX9_down_21 rfl rfl ?_
  refine g_callWv (n := 25) cv_X9_131 (t_X9_keeps l _ _ _ kn hk8 hk) dX9_down_22 rfl ⟨by decide, by decide, rfl, rfl, Nat.zero_le _, Nat.zero_le _⟩ rfl rfl rfl (Nat.le_of_ble_eq_true rfl) rfl rfl ?_
  refine g_aload_n (n := 26) dX9_down_25 rfl rfl ?_
  refine g_get (n := 29) fl_X9_22 dX9_down_26 rfl rfl rfl ?_
  refine g_iconst (v := nI 1) (n := 30) dX9_down_29 (by decide) rfl ?_
  refine g_dup2 (n := 31) dX9_down_30 rfl rfl rfl ?_
  refine g_ialdN (n := 32) dX9_down_31 rfl rfl (by decide) (by omega) ?_
  refine g_top (sk_1 _) ?_
  refine g_iconst (v := nI 1) (n := 33) dX9_down_32 (by decide) rfl ?_
  refine g_iload_n (n := 34) dX9_down_33 rfl rfl ?_
  refine g_ishl (n := 35) dX9_down_34 rfl ?_
  refine g_ixor (n := 36) dX9_down_35 rfl ?_
  refine g_iastN (n := 37) dX9_down_36 rfl rfl (by decide) (by omega) ?_
  refine g_wN (w' := [_, _, _, _, _, _, _, _, _]) rfl ?_
  rw [sk_up]
  refine g_aload_n (n := 38) dX9_down_37 rfl rfl ?_
  refine g_get (n := 41) fl_X9_22 dX9_down_38 rfl rfl rfl ?_
  refine g_iconst (v := nI 3) (n := 42) dX9_down_41 (by decide) rfl ?_
  refine g_iload_n (n := 43) dX9_down_42 rfl rfl ?_
  refine g_iaddN (n := 44) dX9_down_43 rfl ?_
  refine g_ialdN (n := 45) dX9_down_44 rfl rfl (by decide) (by omega) ?_
  refine g_top (sk_ti _ (by omega)) ?_
  exact g_iret (ty := .int) dX9_down_45 rfl rfl ⟨Nat.zero_le _, Nat.zero_le _⟩ ⟨rfl, rfl⟩
set_option maxRecDepth 20000 in
theorem lp_X9_up (l : Launch) (z : Nat × Nat × Nat) (hz : z.2.1 ≤ 0 ∧ z.2.2 ≤ 0) (Q : Option Value → List va_E → Prop) (e : MR) (V : WT) (S : ST) (hV : okV V) (f : Nat) (hf : f < vnf V) (hQ : Q (some (.int (uaN V S f (vnf V)))) (mw e (tk V) (pk S))) : ∀ g, g ≤ vnf V → G l M_X9_up z Q 41 [some (.ref 0), some (.int (nI f)), some (.int (uaN V S f g)), some (.int (nI g))] [] (mw e (tk V) (pk S)) := by
  have hV1 := hV.1
  have hV2 := hV.2.1
  have hV3 := hV.2.2
  refine loopN (vnf V) ?_ (fun g hg ih => ?_)
  ·
    refine g_iload_n (n := 42) dX9_up_41 rfl rfl ?_
    refine g_aload_n (n := 43) dX9_up_42 rfl rfl ?_
    refine g_get (n := 46) fl_X9_13 dX9_up_43 rfl rfl rfl ?_
    refine g_iconst (v := nI 1) (n := 47) dX9_up_46 (by decide) rfl ?_
    refine g_ialdN (n := 48) dX9_up_47 rfl rfl (by decide) (by omega) ?_
    refine g_top (tk_1 _) ?_
    refine g_icmp_ge (tgt := 99) (n := 51) dX9_up_48 (by decide) rfl (fun c48 => ?_) (fun c48 => absurd (nI_le (Nat.le_refl _) (by omega)) c48)
    refine g_iload_n (n := 100) dX9_up_99 rfl rfl ?_
    exact g_iret (ty := .int) dX9_up_100 rfl rfl hz hQ
  ·
    refine g_iload_n (n := 42) dX9_up_41 rfl rfl ?_
    refine g_aload_n (n := 43) dX9_up_42 rfl rfl ?_
    refine g_get (n := 46) fl_X9_13 dX9_up_43 rfl rfl rfl ?_
    refine g_iconst (v := nI 1) (n := 47) dX9_up_46 (by decide) rfl ?_
    refine g_ialdN (n := 48) dX9_up_47 rfl rfl (by decide) (by omega) ?_
    refine g_top (tk_1 _) ?_
    refine g_icmp_ge (tgt := 99) (n := 51) dX9_up_48 (by decide) rfl (fun c48 => absurd c48 (nI_ge hg (by omega))) (fun c48 => ?_)
    refine g_iload_n (n := 52) dX9_up_51 rfl rfl ?_
    refine g_aload_n (n := 53) dX9_up_52 rfl rfl ?_
    refine g_get (n := 56) fl_X9_22 dX9_up_53 rfl rfl rfl ?_
    refine g_iconst (v := nI 1) (n := 57) dX9_up_56 (by decide) rfl ?_
    refine g_ialdN (n := 58) dX9_up_57 rfl rfl (by decide) (by omega) ?_
    refine g_top (sk_1 _) ?_
    refine g_iload_n (n := 59) dX9_up_58 rfl rfl ?_
    refine g_callSi (n := 62) cs_X9_94 (t_X9_has l _ _) dX9_up_59 rfl rfl ⟨by decide, by decide, rfl, rfl, hz.1, hz.2⟩ rfl (Nat.le_of_ble_eq_true rfl) rfl ?_
    refine g_if_eq (tgt := 90) (n := 65) dX9_up_62 (by decide) rfl (fun c62 => ?_) (fun c62 => ?_)
    ·
      have e1 : uaN V S f (g + 1) = uaN V S f g + nI 0 := by rw [uaN, bI_0.mp c62]; rfl
      rw [e1] at ih
      refine g_iconst (v := nI 0) (n := 91) dX9_up_90 (by decide) rfl ?_
      refine g_iadd (n := 92) dX9_up_91 rfl ?_
      refine g_istore_n (n := 93) dX9_up_92 (by decide) rfl rfl ?_
      refine g_lsN (ls' := [_, _, _, _]) rfl ?_
      refine g_iincN (k := 1) (n := 96) dX9_up_93 rfl (by decide) rfl rfl ?_
      refine g_lsN (ls' := [_, _, _, _]) rfl ?_
      refine g_goto (tgt := 41) dX9_up_96 (by decide) ?_
      exact ih
    ·
      have a1 := bI_n0.mp c62
      refine g_aload_n (n := 66) dX9_up_65 rfl rfl ?_
      refine g_get (n := 69) fl_X9_22 dX9_up_66 rfl rfl rfl ?_
      refine g_bipush (v := nI 9) (n := 71) dX9_up_69 (by decide) rfl ?_
      refine g_iload_n (n := 72) dX9_up_71 rfl rfl ?_
      refine g_iaddN (n := 73) dX9_up_72 rfl ?_
      refine g_ialdN (n := 74) dX9_up_73 rfl rfl (by decide) (by omega) ?_
      refine g_top (sk_bo _ (by omega)) ?_
      refine g_aload_n (n := 75) dX9_up_74 rfl rfl ?_
      refine g_get (n := 78) fl_X9_22 dX9_up_75 rfl rfl rfl ?_
      refine g_bipush (v := nI 9) (n := 80) dX9_up_78 (by decide) rfl ?_
      refine g_iload_n (n := 81) dX9_up_80 rfl rfl ?_
      refine g_iaddN (n := 82) dX9_up_81 rfl ?_
      refine g_ialdN (n := 83) dX9_up_82 rfl rfl (by decide) (by omega) ?_
      refine g_top (sk_bo _ (by omega)) ?_
      refine g_icmp_ne (tgt := 90) (n := 86) dX9_up_83 (by decide) rfl (fun c83 => ?_) (fun c83 => ?_)
      ·
        have e1 : uaN V S f (g + 1) = uaN V S f g + nI 0 := by rw [uaN, a1, decide_eq_false c83]; rfl
        rw [e1] at ih
        refine g_iconst (v := nI 0) (n := 91) dX9_up_90 (by decide) rfl ?_
        refine g_iadd (n := 92) dX9_up_91 rfl ?_
        refine g_istore_n (n := 93) dX9_up_92 (by decide) rfl rfl ?_
        refine g_lsN (ls' := [_, _, _, _]) rfl ?_
        refine g_iincN (k := 1) (n := 96) dX9_up_93 rfl (by decide) rfl rfl ?_
        refine g_lsN (ls' := [_, _, _, _]) rfl ?_
        refine g_goto (tgt := 41) dX9_up_96 (by decide) ?_
        exact ih
      ·
        have e1 : uaN V S f (g + 1) = uaN V S f g + nI 1 := by rw [uaN, a1, decide_eq_true c83]; rfl
        rw [e1] at ih
        refine g_iconst (v := nI 1) (n := 87) dX9_up_86 (by decide) rfl ?_
        refine g_goto (tgt := 91) dX9_up_87 (by decide) ?_
        refine g_iadd (n := 92) dX9_up_91 rfl ?_
        refine g_istore_n (n := 93) dX9_up_92 (by decide) rfl rfl ?_
        refine g_lsN (ls' := [_, _, _, _]) rfl ?_
        refine g_iincN (k := 1) (n := 96) dX9_up_93 rfl (by decide) rfl rfl ?_
        refine g_lsN (ls' := [_, _, _, _]) rfl ?_
        refine g_goto (tgt := 41) dX9_up_96 (by decide) ?_
        exact ih
set_option maxRecDepth 20000 in
theorem t_X9_up_bad (l : Launch) (e : MR) (V : WT) (S : ST) (hV : okV V) (x : Int32) (h : isB (vnf V) x = false) : Fn l M_X9_up [.ref 0, .int x] (mw e (tk V) (pk S)) (some (.int (-1))) (mw e (tk V) (pk S)) := by
  have hV1 := hV.1
  have hV2 := hV.2.1
  have hV3 := hV.2.2
  refine con_of rfl rfl (Nat.le_of_ble_eq_true rfl) ?_
  refine g_lsN (ls' := [_, _, _, _]) rfl ?_
  refine g_aload_n (n := 1) dX9_up_0 rfl rfl ?_
  refine g_iload_n (n := 2) dX9_up_1 rfl rfl ?_
  refine g_callWi (n := 5) cv_X9_119 (t_X9_isButtress l _ _ _ _) dX9_up_2 rfl ⟨by decide, by decide, rfl, rfl, Nat.zero_le _, Nat.zero_le _⟩ rfl rfl rfl (Nat.le_of_ble_eq_true rfl) rfl rfl ?_
  refine g_if_ne (tgt := 10) (n := 8) dX9_up_5 (by decide) rfl (fun c5 => absurd (bI_0.mpr h) c5) (fun c5 => ?_)
  refine g_iconst (v := (-1)) (n := 9) dX9_up_8 (by decide) rfl ?_
  exact g_iret (ty := .int) dX9_up_9 rfl rfl ⟨Nat.zero_le _, Nat.zero_le _⟩ ⟨rfl, rfl⟩
set_option maxRecDepth 20000 in
theorem t_X9_up_no (l : Launch) (e : MR) (V : WT) (S : ST) (hV : okV V) (f : Nat) (hf : f < vnf V) (h : muF V S f = false) : Fn l M_X9_up [.ref 0, .int (nI f)] (mw e (tk V) (pk S)) (some (.int (-2))) (mw e (tk V) (pk S)) := by
  have hV1 := hV.1
  have hV2 := hV.2.1
  have hV3 := hV.2.2
  refine con_of rfl rfl (Nat.le_of_ble_eq_true rfl) ?_
  refine g_lsN (ls' := [_, _, _, _]) rfl ?_
  refine g_aload_n (n := 1) dX9_up_0 rfl rfl ?_
  refine g_iload_n (n := 2) dX9_up_1 rfl rfl ?_
  refine g_callWi (n := 5) cv_X9_119 (t_X9_isButtress l _ _ _ _) dX9_up_2 rfl ⟨by decide, by decide, rfl, rfl, Nat.zero_le _, Nat.zero_le _⟩ rfl rfl rfl (Nat.le_of_ble_eq_true rfl) rfl rfl ?_
  refine g_if_ne (tgt := 10) (n := 8) dX9_up_5 (by decide) rfl (fun c5 => ?_) (fun c5 => absurd c5 (bI_n0.mpr (show isB (vnf V) (nI f) = true by rw [isB_nI (by omega) (by omega)]; exact decide_eq_true hf)))
  refine g_aload_n (n := 11) dX9_up_10 rfl rfl ?_
  refine g_iload_n (n := 12) dX9_up_11 rfl rfl ?_
  refine g_callWi (n := 15) cv_X9_143 (t_X9_mayUp l _ _ _ hV f hf) dX9_up_12 rfl ⟨by decide, by decide, rfl, rfl, Nat.zero_le _, Nat.zero_le _⟩ rfl rfl rfl (Nat.le_of_ble_eq_true rfl) rfl rfl ?_
  refine g_if_ne (tgt := 21) (n := 18) dX9_up_15 (by decide) rfl (fun c15 => absurd (bI_0.mpr h) c15) (fun c15 => ?_)
  refine g_bipush (v := (-2)) (n := 20) dX9_up_18 (by decide) rfl ?_
  exact g_iret (ty := .int) dX9_up_20 rfl rfl ⟨Nat.zero_le _, Nat.zero_le _⟩ ⟨rfl, rfl⟩
set_option maxRecDepth 20000 in
theorem t_X9_up_ok (l : Launch) (e : MR) (V : WT) (S : ST) (hV : okV V) (f : Nat) (hf : f < vnf V) (kn : Nat) (hk8 : kn ≤ 8) (hk : eKn e = nI kn) (h : muF V S f = true) : Fn l M_X9_up [.ref 0, .int (nI f)] (mw e (tk V) (pk S)) (some (.int (uaN V (sUp S (sup S ||| shb f)) f (vnf V)))) (mw (sPK e (kpP (ePa e) kn (pk S)) (nI (kpK kn))) (tk V) (pk (sUp S (sup S ||| shb f)))) := by
  have hV1 := hV.1
  have hV2 := hV.2.1
  have hV3 := hV.2.2
  refine con_of rfl rfl (Nat.le_of_ble_eq_true rfl) ?_
  refine g_lsN (ls' := [_, _, _, _]) rfl ?_
  refine g_aload_n (n := 1) dX9_up_0 rfl rfl ?_
  refine g_iload_n (n := 2) dX9_up_1 rfl rfl ?_
  refine g_callWi (n := 5) cv_X9_119 (t_X9_isButtress l _ _ _ _) dX9_up_2 rfl ⟨by decide, by decide, rfl, rfl, Nat.zero_le _, Nat.zero_le _⟩ rfl rfl rfl (Nat.le_of_ble_eq_true rfl) rfl rfl ?_
  refine g_if_ne (tgt := 10) (n := 8) dX9_up_5 (by decide) rfl (fun c5 => ?_) (fun c5 => absurd c5 (bI_n0.mpr (show isB (vnf V) (nI f) = true by rw [isB_nI (by omega) (by omega)]; exact decide_eq_true hf)))
  refine g_aload_n (n := 11) dX9_up_10 rfl rfl ?_
  refine g_iload_n (n := 12) dX9_up_11 rfl rfl ?_
  refine g_callWi (n := 15) cv_X9_143 (t_X9_mayUp l _ _ _ hV f hf) dX9_up_12 rfl ⟨by decide, by decide, rfl, rfl, Nat.zero_le _, Nat.zero_le _⟩ rfl rfl rfl (Nat.le_of_ble_eq_true rfl) rfl rfl ?_
  refine g_if_ne (tgt := 21) (n := 18) dX9_up_15 (by decide) rfl (fun c15 => ?_) (fun c15 => absurd c15 (bI_n0.mpr h))
  refine g_aload_n (n := 22) dX9_up_21 rfl rfl ?_
  refine g_callWv (n := 25) cv_X9_131 (t_X9_keeps l _ _ _ kn hk8 hk) dX9_up_22 rfl ⟨by decide, by decide, rfl, rfl, Nat.zero_le _, Nat.zero_le _⟩ rfl rfl rfl (Nat.le_of_ble_eq_true rfl) rfl rfl ?_
  refine g_aload_n (n := 26) dX9_up_25 rfl rfl ?_
  refine g_get (n := 29) fl_X9_22 dX9_up_26 rfl rfl rfl ?_
  refine g_iconst (v := nI 1) (n := 30) dX9_up_29 (by decide) rfl ?_
  refine g_dup2 (n := 31) dX9_up_30 rfl rfl rfl ?_
  refine g_ialdN (n := 32) dX9_up_31 rfl rfl (by decide) (by omega) ?_
  refine g_top (sk_1 _) ?_
  refine g_iconst (v := nI 1) (n := 33) dX9_up_32 (by decide) rfl ?_
  refine g_iload_n (n := 34) dX9_up_33 rfl rfl ?_
  refine g_ishl (n := 35) dX9_up_34 rfl ?_
  refine g_ior (n := 36) dX9_up_35 rfl ?_
  refine g_iastN (n := 37) dX9_up_36 rfl rfl (by decide) (by omega) ?_
  refine g_wN (w' := [_, _, _, _, _, _, _, _, _]) rfl ?_
  rw [sk_up]
  refine g_iconst (v := nI 0) (n := 38) dX9_up_37 (by decide) rfl ?_
  refine g_istore_n (n := 39) dX9_up_38 (by decide) rfl rfl ?_
  refine g_lsN (ls' := [_, _, _, _]) rfl ?_
  refine g_iconst (v := nI 0) (n := 40) dX9_up_39 (by decide) rfl ?_
  refine g_istore_n (n := 41) dX9_up_40 (by decide) rfl rfl ?_
  refine g_lsN (ls' := [_, _, _, _]) rfl ?_
  exact lp_X9_up l _ ⟨Nat.zero_le _, Nat.zero_le _⟩ _ (sPK e (kpP (ePa e) kn (pk S)) (nI (kpK kn))) V (sUp S (sup S ||| shb f)) hV f hf ⟨rfl, rfl⟩ 0 (Nat.zero_le _)
set_option maxRecDepth 20000 in
theorem t_X9_send_bad1 (l : Launch) (e : MR) (V : WT) (S : ST) (hV : okV V) (x y : Int32) (h : isB (vnf V) x = false) : Fn l M_X9_send [.ref 0, .int x, .int y] (mw e (tk V) (pk S)) (some (.int (-1))) (mw e (tk V) (pk S)) := by
  have hV1 := hV.1
  have hV2 := hV.2.1
  have hV3 := hV.2.2
  refine con_of rfl rfl (Nat.le_of_ble_eq_true rfl) ?_
  refine g_lsN (ls' := [_, _, _, _]) rfl ?_
  refine g_aload_n (n := 1) dX9_send_0 rfl rfl ?_
  refine g_iload_n (n := 2) dX9_send_1 rfl rfl ?_
  refine g_callWi (n := 5) cv_X9_119 (t_X9_isButtress l _ _ _ _) dX9_send_2 rfl ⟨by decide, by decide, rfl, rfl, Nat.zero_le _, Nat.zero_le _⟩ rfl rfl rfl (Nat.le_of_ble_eq_true rfl) rfl rfl ?_
  refine g_if_eq (tgt := 16) (n := 8) dX9_send_5 (by decide) rfl (fun c5 => ?_) (fun c5 => absurd (bI_0.mpr h) c5)
  refine g_iconst (v := (-1)) (n := 17) dX9_send_16 (by decide) rfl ?_
  exact g_iret (ty := .int) dX9_send_17 rfl rfl ⟨Nat.zero_le _, Nat.zero_le _⟩ ⟨rfl, rfl⟩
set_option maxRecDepth 20000 in
theorem t_X9_send_bad2 (l : Launch) (e : MR) (V : WT) (S : ST) (hV : okV V) (x y : Int32) (h : isB (vnf V) x = true) (h2 : isB (vnb V) y = false) : Fn l M_X9_send [.ref 0, .int x, .int y] (mw e (tk V) (pk S)) (some (.int (-1))) (mw e (tk V) (pk S)) := by
  have hV1 := hV.1
  have hV2 := hV.2.1
  have hV3 := hV.2.2
  refine con_of rfl rfl (Nat.le_of_ble_eq_true rfl) ?_
  refine g_lsN (ls' := [_, _, _, _]) rfl ?_
  refine g_aload_n (n := 1) dX9_send_0 rfl rfl ?_
  refine g_iload_n (n := 2) dX9_send_1 rfl rfl ?_
  refine g_callWi (n := 5) cv_X9_119 (t_X9_isButtress l _ _ _ _) dX9_send_2 rfl ⟨by decide, by decide, rfl, rfl, Nat.zero_le _, Nat.zero_le _⟩ rfl rfl rfl (Nat.le_of_ble_eq_true rfl) rfl rfl ?_
  refine g_if_eq (tgt := 16) (n := 8) dX9_send_5 (by decide) rfl (fun c5 => absurd c5 (bI_n0.mpr h)) (fun c5 => ?_)
  refine g_aload_n (n := 9) dX9_send_8 rfl rfl ?_
  refine g_iload_n (n := 10) dX9_send_9 rfl rfl ?_
  refine g_callWi (n := 13) cv_X9_101 (t_X9_isBay l _ _ _ _) dX9_send_10 rfl ⟨by decide, by decide, rfl, rfl, Nat.zero_le _, Nat.zero_le _⟩ rfl rfl rfl (Nat.le_of_ble_eq_true rfl) rfl rfl ?_
  refine g_if_ne (tgt := 18) (n := 16) dX9_send_13 (by decide) rfl (fun c13 => absurd (bI_0.mpr h2) c13) (fun c13 => ?_)
  refine g_iconst (v := (-1)) (n := 17) dX9_send_16 (by decide) rfl ?_
  exact g_iret (ty := .int) dX9_send_17 rfl rfl ⟨Nat.zero_le _, Nat.zero_le _⟩ ⟨rfl, rfl⟩
set_option maxRecDepth 20000 in
theorem t_X9_send_no (l : Launch) (e : MR) (V : WT) (S : ST) (hV : okV V) (f : Nat) (hf : f < vnf V) (b : Nat) (hb_ : b < vnb V) (h : hb (sup S) (nI f) = true) : Fn l M_X9_send [.ref 0, .int (nI f), .int (nI b)] (mw e (tk V) (pk S)) (some (.int (-2))) (mw e (tk V) (pk S)) := by
  have hV1 := hV.1
  have hV2 := hV.2.1
  have hV3 := hV.2.2
  refine con_of rfl rfl (Nat.le_of_ble_eq_true rfl) ?_
  refine g_lsN (ls' := [_, _, _, _]) rfl ?_
  refine g_aload_n (n := 1) dX9_send_0 rfl rfl ?_
  refine g_iload_n (n := 2) dX9_send_1 rfl rfl ?_
  refine g_callWi (n := 5) cv_X9_119 (t_X9_isButtress l _ _ _ _) dX9_send_2 rfl ⟨by decide, by decide, rfl, rfl, Nat.zero_le _, Nat.zero_le _⟩ rfl rfl rfl (Nat.le_of_ble_eq_true rfl) rfl rfl ?_
  refine g_if_eq (tgt := 16) (n := 8) dX9_send_5 (by decide) rfl (fun c5 => absurd c5 (bI_n0.mpr (show isB (vnf V) (nI f) = true by rw [isB_nI (by omega) (by omega)]; exact decide_eq_true hf))) (fun c5 => ?_)
  refine g_aload_n (n := 9) dX9_send_8 rfl rfl ?_
  refine g_iload_n (n := 10) dX9_send_9 rfl rfl ?_
  refine g_callWi (n := 13) cv_X9_101 (t_X9_isBay l _ _ _ _) dX9_send_10 rfl ⟨by decide, by decide, rfl, rfl, Nat.zero_le _, Nat.zero_le _⟩ rfl rfl rfl (Nat.le_of_ble_eq_true rfl) rfl rfl ?_
  refine g_if_ne (tgt := 18) (n := 16) dX9_send_13 (by decide) rfl (fun c13 => ?_) (fun c13 => absurd c13 (bI_n0.mpr (show isB (vnb V) (nI b) = true by rw [isB_nI (by omega) (by omega)]; exact decide_eq_true hb_)))
  refine g_aload_n (n := 19) dX9_send_18 rfl rfl ?_
  refine g_get (n := 22) fl_X9_22 dX9_send_19 rfl rfl rfl ?_
  refine g_iconst (v := nI 1) (n := 23) dX9_send_22 (by decide) rfl ?_
  refine g_ialdN (n := 24) dX9_send_23 rfl rfl (by decide) (by omega) ?_
  refine g_top (sk_1 _) ?_
  refine g_iload_n (n := 25) dX9_send_24 rfl rfl ?_
  refine g_callSi (n := 28) cs_X9_94 (t_X9_has l _ _) dX9_send_25 rfl rfl ⟨by decide, by decide, rfl, rfl, Nat.zero_le _, Nat.zero_le _⟩ rfl (Nat.le_of_ble_eq_true rfl) rfl ?_
  refine g_if_eq (tgt := 34) (n := 31) dX9_send_28 (by decide) rfl (fun c28 => absurd c28 (bI_n0.mpr h)) (fun c28 => ?_)
  refine g_bipush (v := (-2)) (n := 33) dX9_send_31 (by decide) rfl ?_
  exact g_iret (ty := .int) dX9_send_33 rfl rfl ⟨Nat.zero_le _, Nat.zero_le _⟩ ⟨rfl, rfl⟩
set_option maxRecDepth 20000 in
theorem t_X9_send_ok (l : Launch) (e : MR) (V : WT) (S : ST) (hV : okV V) (f : Nat) (hf : f < vnf V) (b : Nat) (hb_ : b < vnb V) (kn : Nat) (hk8 : kn ≤ 8) (hk : eKn e = nI kn) (h : hb (sup S) (nI f) = false) : Fn l M_X9_send [.ref 0, .int (nI f), .int (nI b)] (mw e (tk V) (pk S)) (some (.int (sbo S f))) (mw (sPK e (kpP (ePa e) kn (pk S)) (nI (kpK kn))) (tk V) (pk (sBo S (upd (sbo S) f (nI b))))) := by
  have hV1 := hV.1
  have hV2 := hV.2.1
  have hV3 := hV.2.2
  refine con_of rfl rfl (Nat.le_of_ble_eq_true rfl) ?_
  refine g_lsN (ls' := [_, _, _, _]) rfl ?_
  refine g_aload_n (n := 1) dX9_send_0 rfl rfl ?_
  refine g_iload_n (n := 2) dX9_send_1 rfl rfl ?_
  refine g_callWi (n := 5) cv_X9_119 (t_X9_isButtress l _ _ _ _) dX9_send_2 rfl ⟨by decide, by decide, rfl, rfl, Nat.zero_le _, Nat.zero_le _⟩ rfl rfl rfl (Nat.le_of_ble_eq_true rfl) rfl rfl ?_
  refine g_if_eq (tgt := 16) (n := 8) dX9_send_5 (by decide) rfl (fun c5 => absurd c5 (bI_n0.mpr (show isB (vnf V) (nI f) = true by rw [isB_nI (by omega) (by omega)]; exact decide_eq_true hf))) (fun c5 => ?_)
  refine g_aload_n (n := 9) dX9_send_8 rfl rfl ?_
  refine g_iload_n (n := 10) dX9_send_9 rfl rfl ?_
  refine g_callWi (n := 13) cv_X9_101 (t_X9_isBay l _ _ _ _) dX9_send_10 rfl ⟨by decide, by decide, rfl, rfl, Nat.zero_le _, Nat.zero_le _⟩ rfl rfl rfl (Nat.le_of_ble_eq_true rfl) rfl rfl ?_
  refine g_if_ne (tgt := 18) (n := 16) dX9_send_13 (by decide) rfl (fun c13 => ?_) (fun c13 => absurd c13 (bI_n0.mpr (show isB (vnb V) (nI b) = true by rw [isB_nI (by omega) (by omega)]; exact decide_eq_true hb_)))
  refine g_aload_n (n := 19) dX9_send_18 rfl rfl ?_
  refine g_get (n := 22) fl_X9_22 dX9_send_19 rfl rfl rfl ?_
  refine g_iconst (v := nI 1) (n := 23) dX9_send_22 (by decide) rfl ?_
  refine g_ialdN (n := 24) dX9_send_23 rfl rfl (by decide) (by omega) ?_
  refine g_top (sk_1 _) ?_
  refine g_iload_n (n := 25) dX9_send_24 rfl rfl ?_
  refine g_callSi (n := 28) cs_X9_94 (t_X9_has l _ _) dX9_send_25 rfl rfl ⟨by decide, by decide, rfl, rfl, Nat.zero_le _, Nat.zero_le _⟩ rfl (Nat.le_of_ble_eq_true rfl) rfl ?_
  refine g_if_eq (tgt := 34) (n := 31) dX9_send_28 (by decide) rfl (fun c28 => ?_) (fun c28 => absurd (bI_0.mpr h) c28)
  refine g_aload_n (n := 35) dX9_send_34 rfl rfl ?_
  refine g_callWv (n := 38) cv_X9_131 (t_X9_keeps l _ _ _ kn hk8 hk) dX9_send_35 rfl ⟨by decide, by decide, rfl, rfl, Nat.zero_le _, Nat.zero_le _⟩ rfl rfl rfl (Nat.le_of_ble_eq_true rfl) rfl rfl ?_
  refine g_aload_n (n := 39) dX9_send_38 rfl rfl ?_
  refine g_get (n := 42) fl_X9_22 dX9_send_39 rfl rfl rfl ?_
  refine g_bipush (v := nI 9) (n := 44) dX9_send_42 (by decide) rfl ?_
  refine g_iload_n (n := 45) dX9_send_44 rfl rfl ?_
  refine g_iaddN (n := 46) dX9_send_45 rfl ?_
  refine g_ialdN (n := 47) dX9_send_46 rfl rfl (by decide) (by omega) ?_
  refine g_top (sk_bo _ (by omega)) ?_
  refine g_istore_n (n := 48) dX9_send_47 (by decide) rfl rfl ?_
  refine g_lsN (ls' := [_, _, _, _]) rfl ?_
  refine g_aload_n (n := 49) dX9_send_48 rfl rfl ?_
  refine g_get (n := 52) fl_X9_22 dX9_send_49 rfl rfl rfl ?_
  refine g_bipush (v := nI 9) (n := 54) dX9_send_52 (by decide) rfl ?_
  refine g_iload_n (n := 55) dX9_send_54 rfl rfl ?_
  refine g_iaddN (n := 56) dX9_send_55 rfl ?_
  refine g_iload_n (n := 57) dX9_send_56 rfl rfl ?_
  refine g_iastN (n := 58) dX9_send_57 rfl rfl (by decide) (by omega) ?_
  refine g_wN (w' := [_, _, _, _, _, _, _, _, _]) rfl ?_
  rw [sk_ubo _ _ _ _ _ _ _ (by omega)]
  refine g_iload_n (n := 59) dX9_send_58 rfl rfl ?_
  exact g_iret (ty := .int) dX9_send_59 rfl rfl ⟨Nat.zero_le _, Nat.zero_le _⟩ ⟨rfl, rfl⟩
set_option maxRecDepth 20000 in
theorem lp_X9_useful (l : Launch) (z : Nat × Nat × Nat) (hz : z.2.1 ≤ 0 ∧ z.2.2 ≤ 0) (Q : Option Value → List va_E → Prop) (e : MR) (V : WT) (S : ST) (hV : okV V) (hQ : Q (some (.int (usN V S (vnf V)))) (mw e (tk V) (pk S))) : ∀ f, f ≤ vnf V → G l M_X9_useful z Q 4 [some (.ref 0), some (.int (usN V S f)), some (.int (nI f))] [] (mw e (tk V) (pk S)) := by
  have hV1 := hV.1
  have hV2 := hV.2.1
  have hV3 := hV.2.2
  refine loopN (vnf V) ?_ (fun f hf ih => ?_)
  ·
    refine g_iload_n (n := 5) dX9_useful_4 rfl rfl ?_
    refine g_aload_n (n := 6) dX9_useful_5 rfl rfl ?_
    refine g_get (n := 9) fl_X9_13 dX9_useful_6 rfl rfl rfl ?_
    refine g_iconst (v := nI 1) (n := 10) dX9_useful_9 (by decide) rfl ?_
    refine g_ialdN (n := 11) dX9_useful_10 rfl rfl (by decide) (by omega) ?_
    refine g_top (tk_1 _) ?_
    refine g_icmp_ge (tgt := 46) (n := 14) dX9_useful_11 (by decide) rfl (fun c11 => ?_) (fun c11 => absurd (nI_le (Nat.le_refl _) (by omega)) c11)
    refine g_iload_n (n := 47) dX9_useful_46 rfl rfl ?_
    exact g_iret (ty := .int) dX9_useful_47 rfl rfl hz hQ
  ·
    refine g_iload_n (n := 5) dX9_useful_4 rfl rfl ?_
    refine g_aload_n (n := 6) dX9_useful_5 rfl rfl ?_
    refine g_get (n := 9) fl_X9_13 dX9_useful_6 rfl rfl rfl ?_
    refine g_iconst (v := nI 1) (n := 10) dX9_useful_9 (by decide) rfl ?_
    refine g_ialdN (n := 11) dX9_useful_10 rfl rfl (by decide) (by omega) ?_
    refine g_top (tk_1 _) ?_
    refine g_icmp_ge (tgt := 46) (n := 14) dX9_useful_11 (by decide) rfl (fun c11 => absurd c11 (nI_ge hf (by omega))) (fun c11 => ?_)
    refine g_iload_n (n := 15) dX9_useful_14 rfl rfl ?_
    refine g_aload_n (n := 16) dX9_useful_15 rfl rfl ?_
    refine g_aload_n (n := 17) dX9_useful_16 rfl rfl ?_
    refine g_get (n := 20) fl_X9_22 dX9_useful_17 rfl rfl rfl ?_
    refine g_bipush (v := nI 9) (n := 22) dX9_useful_20 (by decide) rfl ?_
    refine g_iload_n (n := 23) dX9_useful_22 rfl rfl ?_
    refine g_iaddN (n := 24) dX9_useful_23 rfl ?_
    refine g_ialdN (n := 25) dX9_useful_24 rfl rfl (by decide) (by omega) ?_
    refine g_top (sk_bo _ (by omega)) ?_
    refine g_callWi (n := 28) cv_X9_98 (t_X9_hasFallen l _ _ _ _) dX9_useful_25 rfl ⟨by decide, by decide, rfl, rfl, hz.1, hz.2⟩ rfl rfl rfl (Nat.le_of_ble_eq_true rfl) rfl rfl ?_
    refine g_if_eq (tgt := 35) (n := 31) dX9_useful_28 (by decide) rfl (fun c28 => ?_) (fun c28 => ?_)
    ·
      have e1 : usN V S (f + 1) = usN V S f ||| nI 1 <<< (nI f &&& 31) := by rw [usN, bI_0.mp c28]; rfl
      rw [e1] at ih
      refine g_iconst (v := nI 1) (n := 36) dX9_useful_35 (by decide) rfl ?_
      refine g_iload_n (n := 37) dX9_useful_36 rfl rfl ?_
      refine g_ishl (n := 38) dX9_useful_37 rfl ?_
      refine g_ior (n := 39) dX9_useful_38 rfl ?_
      refine g_istore_n (n := 40) dX9_useful_39 (by decide) rfl rfl ?_
      refine g_lsN (ls' := [_, _, _]) rfl ?_
      refine g_iincN (k := 1) (n := 43) dX9_useful_40 rfl (by decide) rfl rfl ?_
      refine g_lsN (ls' := [_, _, _]) rfl ?_
      refine g_goto (tgt := 4) dX9_useful_43 (by decide) ?_
      exact ih
    ·
      have e1 : usN V S (f + 1) = usN V S f ||| nI 0 := by rw [usN, bI_n0.mp c28]; rfl
      rw [e1] at ih
      refine g_iconst (v := nI 0) (n := 32) dX9_useful_31 (by decide) rfl ?_
      refine g_goto (tgt := 38) dX9_useful_32 (by decide) ?_
      refine g_ior (n := 39) dX9_useful_38 rfl ?_
      refine g_istore_n (n := 40) dX9_useful_39 (by decide) rfl rfl ?_
      refine g_lsN (ls' := [_, _, _]) rfl ?_
      refine g_iincN (k := 1) (n := 43) dX9_useful_40 rfl (by decide) rfl rfl ?_
      refine g_lsN (ls' := [_, _, _]) rfl ?_
      refine g_goto (tgt := 4) dX9_useful_43 (by decide) ?_
      exact ih
set_option maxRecDepth 20000 in
theorem t_X9_useful (l : Launch) (e : MR) (V : WT) (S : ST) (hV : okV V) : Fn l M_X9_useful [.ref 0] (mw e (tk V) (pk S)) (some (.int (usN V S (vnf V)))) (mw e (tk V) (pk S)) := by
  refine con_of rfl rfl (Nat.le_of_ble_eq_true rfl) ?_
  refine g_lsN (ls' := [_, _, _]) rfl ?_
  refine g_iconst (v := nI 0) (n := 1) dX9_useful_0 (by decide) rfl ?_
  refine g_istore_n (n := 2) dX9_useful_1 (by decide) rfl rfl ?_
  refine g_lsN (ls' := [_, _, _]) rfl ?_
  refine g_iconst (v := nI 0) (n := 3) dX9_useful_2 (by decide) rfl ?_
  refine g_istore_n (n := 4) dX9_useful_3 (by decide) rfl rfl ?_
  refine g_lsN (ls' := [_, _, _]) rfl ?_
  exact lp_X9_useful l _ ⟨Nat.zero_le _, Nat.zero_le _⟩ _ e V S hV ⟨rfl, rfl⟩ 0 (Nat.zero_le _)
set_option maxRecDepth 20000 in
theorem t_X9_buttress_bad (l : Launch) (e : MR) (V : WT) (S : ST) (hV : okV V) (y : Int32) (x : Int32) (h : isB (vnf V) x = false) : Fn l M_X9_buttress [.ref 0, .int x, .int y] (mw e (tk V) (pk S)) (some (.int (-1))) (mw e (tk V) (pk S)) := by
  have hV1 := hV.1
  have hV2 := hV.2.1
  have hV3 := hV.2.2
  refine con_of rfl rfl (Nat.le_of_ble_eq_true rfl) ?_
  refine g_lsN (ls' := [_, _, _]) rfl ?_
  refine g_aload_n (n := 1) dX9_buttress_0 rfl rfl ?_
  refine g_iload_n (n := 2) dX9_buttress_1 rfl rfl ?_
  refine g_callWi (n := 5) cv_X9_119 (t_X9_isButtress l _ _ _ _) dX9_buttress_2 rfl ⟨by decide, by decide, rfl, rfl, Nat.zero_le _, Nat.zero_le _⟩ rfl rfl rfl (Nat.le_of_ble_eq_true rfl) rfl rfl ?_
  refine g_if_ne (tgt := 10) (n := 8) dX9_buttress_5 (by decide) rfl (fun c5 => absurd (bI_0.mpr h) c5) (fun c5 => ?_)
  refine g_iconst (v := (-1)) (n := 9) dX9_buttress_8 (by decide) rfl ?_
  exact g_iret (ty := .int) dX9_buttress_9 rfl rfl ⟨Nat.zero_le _, Nat.zero_le _⟩ ⟨rfl, rfl⟩
def buA (V : WT) (S : ST) (f : Nat) (y : Int32) : Int32 := if y = nI 0 then vki V f else if y = nI 1 then vsg V f else if y = nI 2 then sbo S f else if y = nI 3 then vkn V f else if y = nI 4 then sti S f else if y = nI 5 then sup S >>> (nI f &&& 31) &&& nI 1 else (-1)
theorem sw_ne {x : Int32} {lo hi k : Nat} (h : x.toInt < (lo : Int) ∨ (hi : Int) < x.toInt) (h1 : lo ≤ k ∧ k ≤ hi) (h2 : hi < 1000) : ¬ x = nI k := by
  intro q
  subst q
  rw [nI_toInt (by omega)] at h
  omega
set_option maxRecDepth 20000 in
theorem t_X9_buttress_ok (l : Launch) (e : MR) (V : WT) (S : ST) (hV : okV V) (f : Nat) (hf : f < vnf V) (y : Int32)  : Fn l M_X9_buttress [.ref 0, .int (nI f), .int y] (mw e (tk V) (pk S)) (some (.int (buA V S f y))) (mw e (tk V) (pk S)) := by
  have hV1 := hV.1
  have hV2 := hV.2.1
  have hV3 := hV.2.2
  refine con_of rfl rfl (Nat.le_of_ble_eq_true rfl) ?_
  refine g_lsN (ls' := [_, _, _]) rfl ?_
  refine g_aload_n (n := 1) dX9_buttress_0 rfl rfl ?_
  refine g_iload_n (n := 2) dX9_buttress_1 rfl rfl ?_
  refine g_callWi (n := 5) cv_X9_119 (t_X9_isButtress l _ _ _ _) dX9_buttress_2 rfl ⟨by decide, by decide, rfl, rfl, Nat.zero_le _, Nat.zero_le _⟩ rfl rfl rfl (Nat.le_of_ble_eq_true rfl) rfl rfl ?_
  refine g_if_ne (tgt := 10) (n := 8) dX9_buttress_5 (by decide) rfl (fun c5 => ?_) (fun c5 => absurd c5 (bI_n0.mpr (show isB (vnf V) (nI f) = true by rw [isB_nI (by omega) (by omega)]; exact decide_eq_true hf)))
  refine g_iload_n (n := 11) dX9_buttress_10 rfl rfl ?_
  rcases sw y 0 5 (by decide) with hsw | ⟨k11, hk11, hsw⟩
  ·
    refine g_tableOut (tgt := 108) dX9_buttress_11 hsw (by decide) ?_
    have n0 := sw_ne (k := 0) hsw (by decide) (by decide)
    have n1 := sw_ne (k := 1) hsw (by decide) (by decide)
    have n2 := sw_ne (k := 2) hsw (by decide) (by decide)
    have n3 := sw_ne (k := 3) hsw (by decide) (by decide)
    have n4 := sw_ne (k := 4) hsw (by decide) (by decide)
    have n5 := sw_ne (k := 5) hsw (by decide) (by decide)
    refine g_iconst (v := (-1)) (n := 109) dX9_buttress_108 (by decide) rfl ?_
    exact g_iret (ty := .int) dX9_buttress_109 rfl rfl ⟨Nat.zero_le _, Nat.zero_le _⟩ ⟨by first | rfl | (unfold buA; rw [if_neg n0, if_neg n1, if_neg n2, if_neg n3, if_neg n4, if_neg n5]), rfl⟩
  ·
    rcases (show k11 = 0 ∨ k11 = 1 ∨ k11 = 2 ∨ k11 = 3 ∨ k11 = 4 ∨ k11 = 5 by omega) with rfl | rfl | rfl | rfl | rfl | rfl
    ·
      subst hsw
      refine g_tableIn (tgt := 48) dX9_buttress_11 (by decide) (by decide) rfl (by decide) ?_
      refine g_aload_n (n := 49) dX9_buttress_48 rfl rfl ?_
      refine g_get (n := 52) fl_X9_13 dX9_buttress_49 rfl rfl rfl ?_
      refine g_bipush (v := nI 20) (n := 54) dX9_buttress_52 (by decide) rfl ?_
      refine g_iload_n (n := 55) dX9_buttress_54 rfl rfl ?_
      refine g_iaddN (n := 56) dX9_buttress_55 rfl ?_
      refine g_ialdN (n := 57) dX9_buttress_56 rfl rfl (by decide) (by omega) ?_
      refine g_top (tk_ki _ (by omega)) ?_
      exact g_iret (ty := .int) dX9_buttress_57 rfl rfl ⟨Nat.zero_le _, Nat.zero_le _⟩ ⟨by first | rfl | (unfold buA; rw [if_neg n0, if_neg n1, if_neg n2, if_neg n3, if_neg n4, if_neg n5]), rfl⟩
    ·
      subst hsw
      refine g_tableIn (tgt := 58) dX9_buttress_11 (by decide) (by decide) rfl (by decide) ?_
      refine g_aload_n (n := 59) dX9_buttress_58 rfl rfl ?_
      refine g_get (n := 62) fl_X9_13 dX9_buttress_59 rfl rfl rfl ?_
      refine g_bipush (v := nI 26) (n := 64) dX9_buttress_62 (by decide) rfl ?_
      refine g_iload_n (n := 65) dX9_buttress_64 rfl rfl ?_
      refine g_iaddN (n := 66) dX9_buttress_65 rfl ?_
      refine g_ialdN (n := 67) dX9_buttress_66 rfl rfl (by decide) (by omega) ?_
      refine g_top (tk_sg _ (by omega)) ?_
      exact g_iret (ty := .int) dX9_buttress_67 rfl rfl ⟨Nat.zero_le _, Nat.zero_le _⟩ ⟨by first | rfl | (unfold buA; rw [if_neg n0, if_neg n1, if_neg n2, if_neg n3, if_neg n4, if_neg n5]), rfl⟩
    ·
      subst hsw
      refine g_tableIn (tgt := 68) dX9_buttress_11 (by decide) (by decide) rfl (by decide) ?_
      refine g_aload_n (n := 69) dX9_buttress_68 rfl rfl ?_
      refine g_get (n := 72) fl_X9_22 dX9_buttress_69 rfl rfl rfl ?_
      refine g_bipush (v := nI 9) (n := 74) dX9_buttress_72 (by decide) rfl ?_
      refine g_iload_n (n := 75) dX9_buttress_74 rfl rfl ?_
      refine g_iaddN (n := 76) dX9_buttress_75 rfl ?_
      refine g_ialdN (n := 77) dX9_buttress_76 rfl rfl (by decide) (by omega) ?_
      refine g_top (sk_bo _ (by omega)) ?_
      exact g_iret (ty := .int) dX9_buttress_77 rfl rfl ⟨Nat.zero_le _, Nat.zero_le _⟩ ⟨by first | rfl | (unfold buA; rw [if_neg n0, if_neg n1, if_neg n2, if_neg n3, if_neg n4, if_neg n5]), rfl⟩
    ·
      subst hsw
      refine g_tableIn (tgt := 78) dX9_buttress_11 (by decide) (by decide) rfl (by decide) ?_
      refine g_aload_n (n := 79) dX9_buttress_78 rfl rfl ?_
      refine g_get (n := 82) fl_X9_13 dX9_buttress_79 rfl rfl rfl ?_
      refine g_bipush (v := nI 32) (n := 84) dX9_buttress_82 (by decide) rfl ?_
      refine g_iload_n (n := 85) dX9_buttress_84 rfl rfl ?_
      refine g_iaddN (n := 86) dX9_buttress_85 rfl ?_
      refine g_ialdN (n := 87) dX9_buttress_86 rfl rfl (by decide) (by omega) ?_
      refine g_top (tk_kn _ (by omega)) ?_
      exact g_iret (ty := .int) dX9_buttress_87 rfl rfl ⟨Nat.zero_le _, Nat.zero_le _⟩ ⟨by first | rfl | (unfold buA; rw [if_neg n0, if_neg n1, if_neg n2, if_neg n3, if_neg n4, if_neg n5]), rfl⟩
    ·
      subst hsw
      refine g_tableIn (tgt := 88) dX9_buttress_11 (by decide) (by decide) rfl (by decide) ?_
      refine g_aload_n (n := 89) dX9_buttress_88 rfl rfl ?_
      refine g_get (n := 92) fl_X9_22 dX9_buttress_89 rfl rfl rfl ?_
      refine g_iconst (v := nI 3) (n := 93) dX9_buttress_92 (by decide) rfl ?_
      refine g_iload_n (n := 94) dX9_buttress_93 rfl rfl ?_
      refine g_iaddN (n := 95) dX9_buttress_94 rfl ?_
      refine g_ialdN (n := 96) dX9_buttress_95 rfl rfl (by decide) (by omega) ?_
      refine g_top (sk_ti _ (by omega)) ?_
      exact g_iret (ty := .int) dX9_buttress_96 rfl rfl ⟨Nat.zero_le _, Nat.zero_le _⟩ ⟨by first | rfl | (unfold buA; rw [if_neg n0, if_neg n1, if_neg n2, if_neg n3, if_neg n4, if_neg n5]), rfl⟩
    ·
      subst hsw
      refine g_tableIn (tgt := 97) dX9_buttress_11 (by decide) (by decide) rfl (by decide) ?_
      refine g_aload_n (n := 98) dX9_buttress_97 rfl rfl ?_
      refine g_get (n := 101) fl_X9_22 dX9_buttress_98 rfl rfl rfl ?_
      refine g_iconst (v := nI 1) (n := 102) dX9_buttress_101 (by decide) rfl ?_
      refine g_ialdN (n := 103) dX9_buttress_102 rfl rfl (by decide) (by omega) ?_
      refine g_top (sk_1 _) ?_
      refine g_iload_n (n := 104) dX9_buttress_103 rfl rfl ?_
      refine g_ishr (n := 105) dX9_buttress_104 rfl ?_
      refine g_iconst (v := nI 1) (n := 106) dX9_buttress_105 (by decide) rfl ?_
      refine g_iand (n := 107) dX9_buttress_106 rfl ?_
      exact g_iret (ty := .int) dX9_buttress_107 rfl rfl ⟨Nat.zero_le _, Nat.zero_le _⟩ ⟨by first | rfl | (unfold buA; rw [if_neg n0, if_neg n1, if_neg n2, if_neg n3, if_neg n4, if_neg n5]), rfl⟩
set_option maxRecDepth 20000 in
theorem t_X9_bay_bad1 (l : Launch) (e : MR) (V : WT) (S : ST) (hV : okV V) (x y : Int32) (h : isB (vnb V) x = false) : Fn l M_X9_bay [.ref 0, .int x, .int y] (mw e (tk V) (pk S)) (some (.int (-1))) (mw e (tk V) (pk S)) := by
  have hV1 := hV.1
  have hV2 := hV.2.1
  have hV3 := hV.2.2
  refine con_of rfl rfl (Nat.le_of_ble_eq_true rfl) ?_
  refine g_lsN (ls' := [_, _, _]) rfl ?_
  refine g_aload_n (n := 1) dX9_bay_0 rfl rfl ?_
  refine g_iload_n (n := 2) dX9_bay_1 rfl rfl ?_
  refine g_callWi (n := 5) cv_X9_101 (t_X9_isBay l _ _ _ _) dX9_bay_2 rfl ⟨by decide, by decide, rfl, rfl, Nat.zero_le _, Nat.zero_le _⟩ rfl rfl rfl (Nat.le_of_ble_eq_true rfl) rfl rfl ?_
  refine g_if_eq (tgt := 18) (n := 8) dX9_bay_5 (by decide) rfl (fun c5 => ?_) (fun c5 => absurd (bI_0.mpr h) c5)
  refine g_iconst (v := (-1)) (n := 19) dX9_bay_18 (by decide) rfl ?_
  exact g_iret (ty := .int) dX9_bay_19 rfl rfl ⟨Nat.zero_le _, Nat.zero_le _⟩ ⟨rfl, rfl⟩
set_option maxRecDepth 20000 in
theorem t_X9_bay_bad2 (l : Launch) (e : MR) (V : WT) (S : ST) (hV : okV V) (x y : Int32) (h : isB (vnb V) x = true) (h2 : inB y (nI 0) (nI 6) = false) : Fn l M_X9_bay [.ref 0, .int x, .int y] (mw e (tk V) (pk S)) (some (.int (-1))) (mw e (tk V) (pk S)) := by
  have hV1 := hV.1
  have hV2 := hV.2.1
  have hV3 := hV.2.2
  refine con_of rfl rfl (Nat.le_of_ble_eq_true rfl) ?_
  refine g_lsN (ls' := [_, _, _]) rfl ?_
  refine g_aload_n (n := 1) dX9_bay_0 rfl rfl ?_
  refine g_iload_n (n := 2) dX9_bay_1 rfl rfl ?_
  refine g_callWi (n := 5) cv_X9_101 (t_X9_isBay l _ _ _ _) dX9_bay_2 rfl ⟨by decide, by decide, rfl, rfl, Nat.zero_le _, Nat.zero_le _⟩ rfl rfl rfl (Nat.le_of_ble_eq_true rfl) rfl rfl ?_
  refine g_if_eq (tgt := 18) (n := 8) dX9_bay_5 (by decide) rfl (fun c5 => absurd c5 (bI_n0.mpr h)) (fun c5 => ?_)
  refine g_iload_n (n := 9) dX9_bay_8 rfl rfl ?_
  refine g_iconst (v := nI 0) (n := 10) dX9_bay_9 (by decide) rfl ?_
  refine g_bipush (v := nI 6) (n := 12) dX9_bay_10 (by decide) rfl ?_
  refine g_callSi (n := 15) cs_X9_52 (t_X9_in l _ _ _) dX9_bay_12 rfl rfl ⟨by decide, by decide, rfl, rfl, Nat.zero_le _, Nat.zero_le _⟩ rfl (Nat.le_of_ble_eq_true rfl) rfl ?_
  refine g_if_ne (tgt := 20) (n := 18) dX9_bay_15 (by decide) rfl (fun c15 => absurd (bI_0.mpr h2) c15) (fun c15 => ?_)
  refine g_iconst (v := (-1)) (n := 19) dX9_bay_18 (by decide) rfl ?_
  exact g_iret (ty := .int) dX9_bay_19 rfl rfl ⟨Nat.zero_le _, Nat.zero_le _⟩ ⟨rfl, rfl⟩
def byA (V : WT) (S : ST) (b : Nat) (y : Int32) : Int32 := if hb (sfa S) (nI b) && inB y (nI 2) (nI 5) then nI 0 else if y = nI 0 then vth V b else if y = nI 1 then vpa V b else if y = nI 2 then ldF V S b else if y = nI 3 then prF V S b else if y = nI 4 then bI (isH V S b) else if y = nI 5 then sun S b else bI (hb (sfa S) (nI b))
theorem byA_f {V : WT} {S : ST} {b : Nat} {y : Int32} (h : (hb (sfa S) (nI b) && inB y (nI 2) (nI 5)) = false) : byA V S b y = if y = nI 0 then vth V b else if y = nI 1 then vpa V b else if y = nI 2 then ldF V S b else if y = nI 3 then prF V S b else if y = nI 4 then bI (isH V S b) else if y = nI 5 then sun S b else bI (hb (sfa S) (nI b)) := by unfold byA; rw [h, if_neg Bool.false_ne_true]
set_option maxRecDepth 20000 in
theorem t_X9_bay_sw (l : Launch) (z : Nat × Nat × Nat) (hz : z.2.1 ≤ 0 ∧ z.2.2 ≤ 0) (Q : Option Value → List va_E → Prop) (e : MR) (V : WT) (S : ST) (hV : okV V) (b : Nat) (hb_ : b < vnb V) (y : Int32) (hn : (hb (sfa S) (nI b) && inB y (nI 2) (nI 5)) = false) (hQ : Q (some (.int (byA V S b y))) (mw e (tk V) (pk S))) : G l M_X9_bay z Q 39 [some (.ref 0), some (.int (nI b)), some (.int y)] [] (mw e (tk V) (pk S)) := by
  have hV1 := hV.1
  have hV2 := hV.2.1
  have hV3 := hV.2.2
  rw [byA_f hn] at hQ
  refine g_iload_n (n := 40) dX9_bay_39 rfl rfl ?_
  rcases sw y 0 5 (by decide) with hsw | ⟨k40, hk40, hsw⟩
  ·
    refine g_tableOut (tgt := 135) dX9_bay_40 hsw (by decide) ?_
    have n0 := sw_ne (k := 0) hsw (by decide) (by decide)
    have n1 := sw_ne (k := 1) hsw (by decide) (by decide)
    have n2 := sw_ne (k := 2) hsw (by decide) (by decide)
    have n3 := sw_ne (k := 3) hsw (by decide) (by decide)
    have n4 := sw_ne (k := 4) hsw (by decide) (by decide)
    have n5 := sw_ne (k := 5) hsw (by decide) (by decide)
    rw [if_neg n0, if_neg n1, if_neg n2, if_neg n3, if_neg n4, if_neg n5] at hQ
    refine g_aload_n (n := 136) dX9_bay_135 rfl rfl ?_
    refine g_iload_n (n := 137) dX9_bay_136 rfl rfl ?_
    refine g_callWi (n := 140) cv_X9_98 (t_X9_hasFallen l _ _ _ _) dX9_bay_137 rfl ⟨by decide, by decide, rfl, rfl, hz.1, hz.2⟩ rfl rfl rfl (Nat.le_of_ble_eq_true rfl) rfl rfl ?_
    refine g_if_eq (tgt := 147) (n := 143) dX9_bay_140 (by decide) rfl (fun c140 => ?_) (fun c140 => ?_)
    ·
      have hX := bI_f (bI_0.mp c140)
      refine g_iconst (v := nI 0) (n := 148) dX9_bay_147 (by decide) rfl ?_
      exact g_iret (ty := .int) dX9_bay_148 rfl rfl hz (hX ▸ hQ)
    ·
      have hX := bI_t (bI_n0.mp c140)
      refine g_iconst (v := nI 1) (n := 144) dX9_bay_143 (by decide) rfl ?_
      refine g_goto (tgt := 148) dX9_bay_144 (by decide) ?_
      exact g_iret (ty := .int) dX9_bay_148 rfl rfl hz (hX ▸ hQ)
  ·
    rcases (show k40 = 0 ∨ k40 = 1 ∨ k40 = 2 ∨ k40 = 3 ∨ k40 = 4 ∨ k40 = 5 by omega) with rfl | rfl | rfl | rfl | rfl | rfl
    ·
      subst hsw
      refine g_tableIn (tgt := 80) dX9_bay_40 (by decide) (by decide) rfl (by decide) ?_
      refine g_aload_n (n := 81) dX9_bay_80 rfl rfl ?_
      refine g_get (n := 84) fl_X9_13 dX9_bay_81 rfl rfl rfl ?_
      refine g_iconst (v := nI 4) (n := 85) dX9_bay_84 (by decide) rfl ?_
      refine g_iload_n (n := 86) dX9_bay_85 rfl rfl ?_
      refine g_iaddN (n := 87) dX9_bay_86 rfl ?_
      refine g_ialdN (n := 88) dX9_bay_87 rfl rfl (by decide) (by omega) ?_
      refine g_top (tk_th _ (by omega)) ?_
      exact g_iret (ty := .int) dX9_bay_88 rfl rfl hz hQ
    ·
      subst hsw
      refine g_tableIn (tgt := 89) dX9_bay_40 (by decide) (by decide) rfl (by decide) ?_
      refine g_aload_n (n := 90) dX9_bay_89 rfl rfl ?_
      refine g_get (n := 93) fl_X9_13 dX9_bay_90 rfl rfl rfl ?_
      refine g_bipush (v := nI 12) (n := 95) dX9_bay_93 (by decide) rfl ?_
      refine g_iload_n (n := 96) dX9_bay_95 rfl rfl ?_
      refine g_iaddN (n := 97) dX9_bay_96 rfl ?_
      refine g_ialdN (n := 98) dX9_bay_97 rfl rfl (by decide) (by omega) ?_
      refine g_top (tk_pa _ (by omega)) ?_
      exact g_iret (ty := .int) dX9_bay_98 rfl rfl hz hQ
    ·
      subst hsw
      refine g_tableIn (tgt := 99) dX9_bay_40 (by decide) (by decide) rfl (by decide) ?_
      refine g_aload_n (n := 100) dX9_bay_99 rfl rfl ?_
      refine g_iload_n (n := 101) dX9_bay_100 rfl rfl ?_
      refine g_callWi (n := 104) cv_X9_107 (t_X9_load l _ _ _ hV b hb_) dX9_bay_101 rfl ⟨by decide, by decide, rfl, rfl, hz.1, hz.2⟩ rfl rfl rfl (Nat.le_of_ble_eq_true rfl) rfl rfl ?_
      exact g_iret (ty := .int) dX9_bay_104 rfl rfl hz hQ
    ·
      subst hsw
      refine g_tableIn (tgt := 105) dX9_bay_40 (by decide) (by decide) rfl (by decide) ?_
      refine g_aload_n (n := 106) dX9_bay_105 rfl rfl ?_
      refine g_iload_n (n := 107) dX9_bay_106 rfl rfl ?_
      refine g_callWi (n := 110) cv_X9_113 (t_X9_props l _ _ _ hV b hb_) dX9_bay_107 rfl ⟨by decide, by decide, rfl, rfl, hz.1, hz.2⟩ rfl rfl rfl (Nat.le_of_ble_eq_true rfl) rfl rfl ?_
      exact g_iret (ty := .int) dX9_bay_110 rfl rfl hz hQ
    ·
      subst hsw
      refine g_tableIn (tgt := 111) dX9_bay_40 (by decide) (by decide) rfl (by decide) ?_
      refine g_aload_n (n := 112) dX9_bay_111 rfl rfl ?_
      refine g_iload_n (n := 113) dX9_bay_112 rfl rfl ?_
      refine g_callWi (n := 116) cv_X9_116 (t_X9_isHeld l _ _ _ hV b hb_) dX9_bay_113 rfl ⟨by decide, by decide, rfl, rfl, hz.1, hz.2⟩ rfl rfl rfl (Nat.le_of_ble_eq_true rfl) rfl rfl ?_
      refine g_if_eq (tgt := 123) (n := 119) dX9_bay_116 (by decide) rfl (fun c116 => ?_) (fun c116 => ?_)
      ·
        have hX := bI_f (bI_0.mp c116)
        refine g_iconst (v := nI 0) (n := 124) dX9_bay_123 (by decide) rfl ?_
        exact g_iret (ty := .int) dX9_bay_124 rfl rfl hz (hX ▸ hQ)
      ·
        have hX := bI_t (bI_n0.mp c116)
        refine g_iconst (v := nI 1) (n := 120) dX9_bay_119 (by decide) rfl ?_
        refine g_goto (tgt := 124) dX9_bay_120 (by decide) ?_
        exact g_iret (ty := .int) dX9_bay_124 rfl rfl hz (hX ▸ hQ)
    ·
      subst hsw
      refine g_tableIn (tgt := 125) dX9_bay_40 (by decide) (by decide) rfl (by decide) ?_
      refine g_aload_n (n := 126) dX9_bay_125 rfl rfl ?_
      refine g_get (n := 129) fl_X9_22 dX9_bay_126 rfl rfl rfl ?_
      refine g_bipush (v := nI 15) (n := 131) dX9_bay_129 (by decide) rfl ?_
      refine g_iload_n (n := 132) dX9_bay_131 rfl rfl ?_
      refine g_iaddN (n := 133) dX9_bay_132 rfl ?_
      refine g_ialdN (n := 134) dX9_bay_133 rfl rfl (by decide) (by omega) ?_
      refine g_top (sk_un _ (by omega)) ?_
      exact g_iret (ty := .int) dX9_bay_134 rfl rfl hz hQ
set_option maxRecDepth 20000 in
theorem t_X9_bay_ok (l : Launch) (e : MR) (V : WT) (S : ST) (hV : okV V) (b : Nat) (hb_ : b < vnb V) (y : Int32) (h2 : inB y (nI 0) (nI 6) = true) : Fn l M_X9_bay [.ref 0, .int (nI b), .int y] (mw e (tk V) (pk S)) (some (.int (byA V S b y))) (mw e (tk V) (pk S)) := by
  have hV1 := hV.1
  have hV2 := hV.2.1
  have hV3 := hV.2.2
  refine con_of rfl rfl (Nat.le_of_ble_eq_true rfl) ?_
  refine g_lsN (ls' := [_, _, _]) rfl ?_
  refine g_aload_n (n := 1) dX9_bay_0 rfl rfl ?_
  refine g_iload_n (n := 2) dX9_bay_1 rfl rfl ?_
  refine g_callWi (n := 5) cv_X9_101 (t_X9_isBay l _ _ _ _) dX9_bay_2 rfl ⟨by decide, by decide, rfl, rfl, Nat.zero_le _, Nat.zero_le _⟩ rfl rfl rfl (Nat.le_of_ble_eq_true rfl) rfl rfl ?_
  refine g_if_eq (tgt := 18) (n := 8) dX9_bay_5 (by decide) rfl (fun c5 => absurd c5 (bI_n0.mpr (show isB (vnb V) (nI b) = true by rw [isB_nI (by omega) (by omega)]; exact decide_eq_true hb_))) (fun c5 => ?_)
  refine g_iload_n (n := 9) dX9_bay_8 rfl rfl ?_
  refine g_iconst (v := nI 0) (n := 10) dX9_bay_9 (by decide) rfl ?_
  refine g_bipush (v := nI 6) (n := 12) dX9_bay_10 (by decide) rfl ?_
  refine g_callSi (n := 15) cs_X9_52 (t_X9_in l _ _ _) dX9_bay_12 rfl rfl ⟨by decide, by decide, rfl, rfl, Nat.zero_le _, Nat.zero_le _⟩ rfl (Nat.le_of_ble_eq_true rfl) rfl ?_
  refine g_if_ne (tgt := 20) (n := 18) dX9_bay_15 (by decide) rfl (fun c15 => ?_) (fun c15 => absurd c15 (bI_n0.mpr h2))
  refine g_aload_n (n := 21) dX9_bay_20 rfl rfl ?_
  refine g_iload_n (n := 22) dX9_bay_21 rfl rfl ?_
  refine g_callWi (n := 25) cv_X9_98 (t_X9_hasFallen l _ _ _ _) dX9_bay_22 rfl ⟨by decide, by decide, rfl, rfl, Nat.zero_le _, Nat.zero_le _⟩ rfl rfl rfl (Nat.le_of_ble_eq_true rfl) rfl rfl ?_
  refine g_if_eq (tgt := 39) (n := 28) dX9_bay_25 (by decide) rfl (fun c25 => ?_) (fun c25 => ?_)
  ·
    have hn : (hb (sfa S) (nI b) && inB y (nI 2) (nI 5)) = false := by rw [bI_0.mp c25]; rfl
    exact t_X9_bay_sw l _ ⟨Nat.zero_le _, Nat.zero_le _⟩ _ e V S hV b hb_ y hn ⟨rfl, rfl⟩
  ·
    refine g_iload_n (n := 29) dX9_bay_28 rfl rfl ?_
    refine g_iconst (v := nI 2) (n := 30) dX9_bay_29 (by decide) rfl ?_
    refine g_iconst (v := nI 5) (n := 31) dX9_bay_30 (by decide) rfl ?_
    refine g_callSi (n := 34) cs_X9_52 (t_X9_in l _ _ _) dX9_bay_31 rfl rfl ⟨by decide, by decide, rfl, rfl, Nat.zero_le _, Nat.zero_le _⟩ rfl (Nat.le_of_ble_eq_true rfl) rfl ?_
    refine g_if_eq (tgt := 39) (n := 37) dX9_bay_34 (by decide) rfl (fun c34 => ?_) (fun c34 => ?_)
    ·
      have hn : (hb (sfa S) (nI b) && inB y (nI 2) (nI 5)) = false := by rw [bI_0.mp c34, Bool.and_false]
      exact t_X9_bay_sw l _ ⟨Nat.zero_le _, Nat.zero_le _⟩ _ e V S hV b hb_ y hn ⟨rfl, rfl⟩
    ·
      have e1 : byA V S b y = nI 0 := by unfold byA; rw [bI_n0.mp c25, bI_n0.mp c34]; rfl
      refine g_iconst (v := nI 0) (n := 38) dX9_bay_37 (by decide) rfl ?_
      exact g_iret (ty := .int) dX9_bay_38 rfl rfl ⟨Nat.zero_le _, Nat.zero_le _⟩ ⟨by rw [e1], rfl⟩
def ctA (V : WT) (S : ST) (kn ke ty : Int32) (y : Int32) : Int32 := if y = nI 0 then nI (vnb V) else if y = nI 1 then nI (vnf V) else if y = nI 2 then sho S else if y = nI 3 then on (sup S) 8 else if y = nI 4 then on (hdN V S (vnb V)) 8 else if y = nI 5 then on (sfa S) 8 else if y = nI 6 then kn else if y = nI 7 then ke else if y = nI 8 then ty else (-1)
set_option maxRecDepth 20000 in
theorem t_X9_count_ok (l : Launch) (e : MR) (V : WT) (S : ST) (hV : okV V) (y : Int32)  : Fn l M_X9_count [.ref 0, .int y] (mw e (tk V) (pk S)) (some (.int (ctA V S (eKn e) (eKe e) e.2.1 y))) (mw e (tk V) (pk S)) := by
  have hV1 := hV.1
  have hV2 := hV.2.1
  have hV3 := hV.2.2
  refine con_of rfl rfl (Nat.le_of_ble_eq_true rfl) ?_
  refine g_lsN (ls' := [_, _]) rfl ?_
  refine g_iload_n (n := 1) dX9_count_0 rfl rfl ?_
  rcases sw y 0 8 (by decide) with hsw | ⟨k1, hk1, hsw⟩
  ·
    refine g_tableOut (tgt := 116) dX9_count_1 hsw (by decide) ?_
    have n0 := sw_ne (k := 0) hsw (by decide) (by decide)
    have n1 := sw_ne (k := 1) hsw (by decide) (by decide)
    have n2 := sw_ne (k := 2) hsw (by decide) (by decide)
    have n3 := sw_ne (k := 3) hsw (by decide) (by decide)
    have n4 := sw_ne (k := 4) hsw (by decide) (by decide)
    have n5 := sw_ne (k := 5) hsw (by decide) (by decide)
    have n6 := sw_ne (k := 6) hsw (by decide) (by decide)
    have n7 := sw_ne (k := 7) hsw (by decide) (by decide)
    have n8 := sw_ne (k := 8) hsw (by decide) (by decide)
    refine g_iconst (v := (-1)) (n := 117) dX9_count_116 (by decide) rfl ?_
    exact g_iret (ty := .int) dX9_count_117 rfl rfl ⟨Nat.zero_le _, Nat.zero_le _⟩ ⟨by first | rfl | (unfold ctA; rw [if_neg n0, if_neg n1, if_neg n2, if_neg n3, if_neg n4, if_neg n5, if_neg n6, if_neg n7, if_neg n8]), rfl⟩
  ·
    rcases (show k1 = 0 ∨ k1 = 1 ∨ k1 = 2 ∨ k1 = 3 ∨ k1 = 4 ∨ k1 = 5 ∨ k1 = 6 ∨ k1 = 7 ∨ k1 = 8 by omega) with rfl | rfl | rfl | rfl | rfl | rfl | rfl | rfl | rfl
    ·
      subst hsw
      refine g_tableIn (tgt := 52) dX9_count_1 (by decide) (by decide) rfl (by decide) ?_
      refine g_aload_n (n := 53) dX9_count_52 rfl rfl ?_
      refine g_get (n := 56) fl_X9_13 dX9_count_53 rfl rfl rfl ?_
      refine g_iconst (v := nI 0) (n := 57) dX9_count_56 (by decide) rfl ?_
      refine g_ialdN (n := 58) dX9_count_57 rfl rfl (by decide) (by omega) ?_
      refine g_top (tk_0 _) ?_
      exact g_iret (ty := .int) dX9_count_58 rfl rfl ⟨Nat.zero_le _, Nat.zero_le _⟩ ⟨by first | rfl | (unfold ctA; rw [if_neg n0, if_neg n1, if_neg n2, if_neg n3, if_neg n4, if_neg n5, if_neg n6, if_neg n7, if_neg n8]), rfl⟩
    ·
      subst hsw
      refine g_tableIn (tgt := 59) dX9_count_1 (by decide) (by decide) rfl (by decide) ?_
      refine g_aload_n (n := 60) dX9_count_59 rfl rfl ?_
      refine g_get (n := 63) fl_X9_13 dX9_count_60 rfl rfl rfl ?_
      refine g_iconst (v := nI 1) (n := 64) dX9_count_63 (by decide) rfl ?_
      refine g_ialdN (n := 65) dX9_count_64 rfl rfl (by decide) (by omega) ?_
      refine g_top (tk_1 _) ?_
      exact g_iret (ty := .int) dX9_count_65 rfl rfl ⟨Nat.zero_le _, Nat.zero_le _⟩ ⟨by first | rfl | (unfold ctA; rw [if_neg n0, if_neg n1, if_neg n2, if_neg n3, if_neg n4, if_neg n5, if_neg n6, if_neg n7, if_neg n8]), rfl⟩
    ·
      subst hsw
      refine g_tableIn (tgt := 66) dX9_count_1 (by decide) (by decide) rfl (by decide) ?_
      refine g_aload_n (n := 67) dX9_count_66 rfl rfl ?_
      refine g_get (n := 70) fl_X9_22 dX9_count_67 rfl rfl rfl ?_
      refine g_iconst (v := nI 0) (n := 71) dX9_count_70 (by decide) rfl ?_
      refine g_ialdN (n := 72) dX9_count_71 rfl rfl (by decide) (by omega) ?_
      refine g_top (sk_0 _) ?_
      exact g_iret (ty := .int) dX9_count_72 rfl rfl ⟨Nat.zero_le _, Nat.zero_le _⟩ ⟨by first | rfl | (unfold ctA; rw [if_neg n0, if_neg n1, if_neg n2, if_neg n3, if_neg n4, if_neg n5, if_neg n6, if_neg n7, if_neg n8]), rfl⟩
    ·
      subst hsw
      refine g_tableIn (tgt := 73) dX9_count_1 (by decide) (by decide) rfl (by decide) ?_
      refine g_aload_n (n := 74) dX9_count_73 rfl rfl ?_
      refine g_get (n := 77) fl_X9_22 dX9_count_74 rfl rfl rfl ?_
      refine g_iconst (v := nI 1) (n := 78) dX9_count_77 (by decide) rfl ?_
      refine g_ialdN (n := 79) dX9_count_78 rfl rfl (by decide) (by omega) ?_
      refine g_top (sk_1 _) ?_
      refine g_callSi (n := 82) cs_X9_161 (t_X9_ones l _) dX9_count_79 rfl rfl ⟨by decide, by decide, rfl, rfl, Nat.zero_le _, Nat.zero_le _⟩ rfl (Nat.le_of_ble_eq_true rfl) rfl ?_
      exact g_iret (ty := .int) dX9_count_82 rfl rfl ⟨Nat.zero_le _, Nat.zero_le _⟩ ⟨by first | rfl | (unfold ctA; rw [if_neg n0, if_neg n1, if_neg n2, if_neg n3, if_neg n4, if_neg n5, if_neg n6, if_neg n7, if_neg n8]), rfl⟩
    ·
      subst hsw
      refine g_tableIn (tgt := 83) dX9_count_1 (by decide) (by decide) rfl (by decide) ?_
      refine g_aload_n (n := 84) dX9_count_83 rfl rfl ?_
      refine g_callWi (n := 87) cv_X9_125 (t_X9_heldNow l _ _ _ hV) dX9_count_84 rfl ⟨by decide, by decide, rfl, rfl, Nat.zero_le _, Nat.zero_le _⟩ rfl rfl rfl (Nat.le_of_ble_eq_true rfl) rfl rfl ?_
      refine g_callSi (n := 90) cs_X9_161 (t_X9_ones l _) dX9_count_87 rfl rfl ⟨by decide, by decide, rfl, rfl, Nat.zero_le _, Nat.zero_le _⟩ rfl (Nat.le_of_ble_eq_true rfl) rfl ?_
      exact g_iret (ty := .int) dX9_count_90 rfl rfl ⟨Nat.zero_le _, Nat.zero_le _⟩ ⟨by first | rfl | (unfold ctA; rw [if_neg n0, if_neg n1, if_neg n2, if_neg n3, if_neg n4, if_neg n5, if_neg n6, if_neg n7, if_neg n8]), rfl⟩
    ·
      subst hsw
      refine g_tableIn (tgt := 91) dX9_count_1 (by decide) (by decide) rfl (by decide) ?_
      refine g_aload_n (n := 92) dX9_count_91 rfl rfl ?_
      refine g_get (n := 95) fl_X9_22 dX9_count_92 rfl rfl rfl ?_
      refine g_iconst (v := nI 2) (n := 96) dX9_count_95 (by decide) rfl ?_
      refine g_ialdN (n := 97) dX9_count_96 rfl rfl (by decide) (by omega) ?_
      refine g_top (sk_2 _) ?_
      refine g_callSi (n := 100) cs_X9_161 (t_X9_ones l _) dX9_count_97 rfl rfl ⟨by decide, by decide, rfl, rfl, Nat.zero_le _, Nat.zero_le _⟩ rfl (Nat.le_of_ble_eq_true rfl) rfl ?_
      exact g_iret (ty := .int) dX9_count_100 rfl rfl ⟨Nat.zero_le _, Nat.zero_le _⟩ ⟨by first | rfl | (unfold ctA; rw [if_neg n0, if_neg n1, if_neg n2, if_neg n3, if_neg n4, if_neg n5, if_neg n6, if_neg n7, if_neg n8]), rfl⟩
    ·
      subst hsw
      refine g_tableIn (tgt := 101) dX9_count_1 (by decide) (by decide) rfl (by decide) ?_
      refine g_aload_n (n := 102) dX9_count_101 rfl rfl ?_
      refine g_get (n := 105) fl_X9_88 dX9_count_102 rfl rfl rfl ?_
      exact g_iret (ty := .int) dX9_count_105 rfl rfl ⟨Nat.zero_le _, Nat.zero_le _⟩ ⟨by first | rfl | (unfold ctA; rw [if_neg n0, if_neg n1, if_neg n2, if_neg n3, if_neg n4, if_neg n5, if_neg n6, if_neg n7, if_neg n8]), rfl⟩
    ·
      subst hsw
      refine g_tableIn (tgt := 106) dX9_count_1 (by decide) (by decide) rfl (by decide) ?_
      refine g_aload_n (n := 107) dX9_count_106 rfl rfl ?_
      refine g_get (n := 110) fl_X9_91 dX9_count_107 rfl rfl rfl ?_
      exact g_iret (ty := .int) dX9_count_110 rfl rfl ⟨Nat.zero_le _, Nat.zero_le _⟩ ⟨by first | rfl | (unfold ctA; rw [if_neg n0, if_neg n1, if_neg n2, if_neg n3, if_neg n4, if_neg n5, if_neg n6, if_neg n7, if_neg n8]), rfl⟩
    ·
      subst hsw
      refine g_tableIn (tgt := 111) dX9_count_1 (by decide) (by decide) rfl (by decide) ?_
      refine g_aload_n (n := 112) dX9_count_111 rfl rfl ?_
      refine g_get (n := 115) fl_X9_56 dX9_count_112 rfl rfl rfl ?_
      exact g_iret (ty := .int) dX9_count_115 rfl rfl ⟨Nat.zero_le _, Nat.zero_le _⟩ ⟨by first | rfl | (unfold ctA; rw [if_neg n0, if_neg n1, if_neg n2, if_neg n3, if_neg n4, if_neg n5, if_neg n6, if_neg n7, if_neg n8]), rfl⟩

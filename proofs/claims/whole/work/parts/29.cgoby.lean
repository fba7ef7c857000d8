/-! 29.cgoby: the class: an hour goes by, as the reference's -/
def unH (S : ST) (held : Int32) (b : Nat) : Int32 := if hb (sfa S) (nI b) then sun S b else if hb held (nI b) then nI 0 else sun S b + nI 1
def flH (V : WT) (S : ST) (held : Int32) : Nat → Int32
  | 0 => nI 0
  | b + 1 => if hb (sfa S) (nI b) then flH V S held b else flH V S held b ||| (if unH S held b ≤ vpa V b then nI 0 else nI 1 <<< (nI b &&& 31))
abbrev sUn (S : ST) (un : Nat → Int32) : ST := (S.1, S.2.1, S.2.2.1, S.2.2.2.1, S.2.2.2.2.1, un)
abbrev sTi (S : ST) (ti : Nat → Int32) : ST := (S.1, S.2.1, S.2.2.1, ti, S.2.2.2.2.1, S.2.2.2.2.2)

set_option maxRecDepth 20000 in
theorem lp_X0_ageBays (l : Launch) (z : Nat × Nat × Nat) (hz : z.2.1 ≤ 0 ∧ z.2.2 ≤ 0) (Q : Option Value → List va_E → Prop) (V : WT) (hV : okV V) (dn : Int32) (fb : Nat → Int32) (S : ST) (held : Int32) (hQ : Q (some (.int (flH V S held (vnb V)))) (ws V dn fb (sUn S (mix (unH S held) (sun S) (vnb V))))) : ∀ b, b ≤ vnb V → G l M_X0_ageBays z Q 5 [some (.ref 0), some (.ref 7), some (.int held), some (.int (flH V S held b)), some (.int (nI b))] [] (ws V dn fb (sUn S (mix (unH S held) (sun S) b))) := by
  have hV1 := hV.1
  have hV2 := hV.2.1
  have hV3 := hV.2.2
  refine loopN (vnb V) ?_ (fun b hb_ ih => ?_)
  ·
    refine g_iload (n := 7) dX0_ageBays_5 rfl rfl ?_
    refine g_aload_n (n := 8) dX0_ageBays_7 rfl rfl ?_
    refine g_get (n := 11) fl_X0_25 dX0_ageBays_8 rfl rfl rfl ?_
    refine g_icmp_ge (tgt := 92) (n := 14) dX0_ageBays_11 (by decide) rfl (fun c11 => ?_) (fun c11 => absurd (nI_le (Nat.le_refl _) (by omega)) c11)
    refine g_iload_n (n := 93) dX0_ageBays_92 rfl rfl ?_
    exact g_iret (ty := .int) dX0_ageBays_93 rfl rfl hz hQ
  ·
    have J61 : ∀ (x : Int32), hb (sfa S) (nI b) = false → x = unH S held b → G l M_X0_ageBays z Q 61 [some (.ref 0), some (.ref 7), some (.int held), some (.int (flH V S held b)), some (.int (nI b))] [.int x, .int (nI b), .ref 10] (ws V dn fb (sUn S (mix (unH S held) (sun S) b))) := by
      intro x hn hx
      refine g_iastN (n := 62) dX0_ageBays_61 rfl rfl (by decide) (by omega) ?_
      refine g_wN (w' := [_, _, _, _, _, _, _, _, _, _, _]) rfl ?_
      rw [hx, mix_s]
      refine g_aload_n (n := 63) dX0_ageBays_62 rfl rfl ?_
      refine g_get (n := 66) fl_X0_112 dX0_ageBays_63 rfl rfl rfl ?_
      refine g_iload (n := 68) dX0_ageBays_66 rfl rfl ?_
      refine g_ialdN (n := 69) dX0_ageBays_68 rfl rfl (by decide) (by omega) ?_
      refine g_top (y := unH S held b) (by show mix _ _ _ _ = _; unfold mix; rw [if_pos (by omega)]) ?_
      refine g_aload_n (n := 70) dX0_ageBays_69 rfl rfl ?_
      refine g_get (n := 73) fl_X0_119 dX0_ageBays_70 rfl rfl rfl ?_
      refine g_iload (n := 75) dX0_ageBays_73 rfl rfl ?_
      refine g_ialdN (n := 76) dX0_ageBays_75 rfl rfl (by decide) (by omega) ?_
      refine g_icmp_le (tgt := 86) (n := 79) dX0_ageBays_76 (by decide) rfl (fun c76 => ?_) (fun c76 => ?_)
      ·
        have e1 : flH V S held (b + 1) = flH V S held b := by rw [flH, hn, if_neg Bool.false_ne_true, if_pos c76, or_0]
        rw [e1] at ih
        refine g_iincN (k := 1) (n := 89) dX0_ageBays_86 rfl (by decide) rfl rfl ?_
        refine g_lsN (ls' := [_, _, _, _, _]) rfl ?_
        refine g_goto (tgt := 5) dX0_ageBays_89 (by decide) ?_
        exact ih
      ·
        have e1 : flH V S held (b + 1) = flH V S held b ||| nI 1 <<< (nI b &&& 31) := by rw [flH, hn, if_neg Bool.false_ne_true, if_neg c76]
        rw [e1] at ih
        refine g_iload_n (n := 80) dX0_ageBays_79 rfl rfl ?_
        refine g_iconst (v := nI 1) (n := 81) dX0_ageBays_80 (by decide) rfl ?_
        refine g_iload (n := 83) dX0_ageBays_81 rfl rfl ?_
        refine g_ishl (n := 84) dX0_ageBays_83 rfl ?_
        refine g_ior (n := 85) dX0_ageBays_84 rfl ?_
        refine g_istore_n (n := 86) dX0_ageBays_85 (by decide) rfl rfl ?_
        refine g_lsN (ls' := [_, _, _, _, _]) rfl ?_
        refine g_iincN (k := 1) (n := 89) dX0_ageBays_86 rfl (by decide) rfl rfl ?_
        refine g_lsN (ls' := [_, _, _, _, _]) rfl ?_
        refine g_goto (tgt := 5) dX0_ageBays_89 (by decide) ?_
        exact ih
    refine g_iload (n := 7) dX0_ageBays_5 rfl rfl ?_
    refine g_aload_n (n := 8) dX0_ageBays_7 rfl rfl ?_
    refine g_get (n := 11) fl_X0_25 dX0_ageBays_8 rfl rfl rfl ?_
    refine g_icmp_ge (tgt := 92) (n := 14) dX0_ageBays_11 (by decide) rfl (fun c11 => absurd c11 (nI_ge hb_ (by omega))) (fun c11 => ?_)
    refine g_iload (n := 16) dX0_ageBays_14 rfl rfl ?_
    refine g_bipush (v := nI 8) (n := 18) dX0_ageBays_16 (by decide) rfl ?_
    refine g_icmp_ge (tgt := 92) (n := 21) dX0_ageBays_18 (by decide) rfl (fun c18 => absurd c18 (nI_ge (show b < 8 by omega) (by decide))) (fun c18 => ?_)
    refine g_aload_n (n := 22) dX0_ageBays_21 rfl rfl ?_
    refine g_iload (n := 24) dX0_ageBays_22 rfl rfl ?_
    refine g_cutVi (ps := [7, 8, 9, 10]) (w' := [_, _, _, _, _, _, _, _, _, _, _]) (n := 27) cv_X0_62 (t_X3_hasFallen l _ _) dX0_ageBays_24 rfl rfl rfl ⟨by decide, by decide, rfl, rfl, hz.1, hz.2⟩ rfl rfl rfl (Nat.le_of_ble_eq_true rfl) rfl rfl rfl ?_
    refine g_if_eq (tgt := 33) (n := 30) dX0_ageBays_27 (by decide) rfl (fun c27 => ?_) (fun c27 => ?_)
    ·
      have a1 := bI_0.mp c27
      refine g_aload_n (n := 34) dX0_ageBays_33 rfl rfl ?_
      refine g_get (n := 37) fl_X0_112 dX0_ageBays_34 rfl rfl rfl ?_
      refine g_iload (n := 39) dX0_ageBays_37 rfl rfl ?_
      refine g_iload_n (n := 40) dX0_ageBays_39 rfl rfl ?_
      refine g_iload (n := 42) dX0_ageBays_40 rfl rfl ?_
      refine g_callSNi (n := 45) cs_X0_115 (t_X8_hasBit l _ _) dX0_ageBays_42 rfl rfl ⟨by decide, by decide, rfl, rfl, hz.1, hz.2⟩ rfl (Nat.le_of_ble_eq_true rfl) rfl ?_
      refine g_if_eq (tgt := 52) (n := 48) dX0_ageBays_45 (by decide) rfl (fun c45 => ?_) (fun c45 => ?_)
      ·
        have a2 := bI_0.mp c45
        refine g_aload_n (n := 53) dX0_ageBays_52 rfl rfl ?_
        refine g_get (n := 56) fl_X0_112 dX0_ageBays_53 rfl rfl rfl ?_
        refine g_iload (n := 58) dX0_ageBays_56 rfl rfl ?_
        refine g_ialdN (n := 59) dX0_ageBays_58 rfl rfl (by decide) (by omega) ?_
        refine g_top (mix_at _ _ _) ?_
        refine g_iconst (v := nI 1) (n := 60) dX0_ageBays_59 (by decide) rfl ?_
        refine g_iadd (n := 61) dX0_ageBays_60 rfl ?_
        have e0 : sun S b + nI 1 = unH S held b := by unfold unH; rw [a1, if_neg Bool.false_ne_true, a2]; rfl
        exact J61 _ a1 e0
      ·
        have e0 : nI 0 = unH S held b := by unfold unH; rw [a1, if_neg Bool.false_ne_true, bI_n0.mp c45]; rfl
        refine g_iconst (v := nI 0) (n := 49) dX0_ageBays_48 (by decide) rfl ?_
        refine g_goto (tgt := 61) dX0_ageBays_49 (by decide) ?_
        exact J61 _ a1 e0
    ·
      have e1 : flH V S held (b + 1) = flH V S held b := by rw [flH, bI_n0.mp c27]; rfl
      have e2 : mix (unH S held) (sun S) (b + 1) = mix (unH S held) (sun S) b := mix_e (by unfold unH; rw [bI_n0.mp c27]; rfl)
      rw [e1, e2] at ih
      refine g_goto (tgt := 86) dX0_ageBays_30 (by decide) ?_
      refine g_iincN (k := 1) (n := 89) dX0_ageBays_86 rfl (by decide) rfl rfl ?_
      refine g_lsN (ls' := [_, _, _, _, _]) rfl ?_
      refine g_goto (tgt := 5) dX0_ageBays_89 (by decide) ?_
      exact ih
set_option maxRecDepth 20000 in
theorem t_X0_ageBays (l : Launch) (V : WT) (hV : okV V) (dn : Int32) (fb : Nat → Int32) (S : ST) (held : Int32) : Fn l M_X0_ageBays [.ref 0, .ref 7, .int held] (ws V dn fb S) (some (.int (flH V S held (vnb V)))) (ws V dn fb (sUn S (mix (unH S held) (sun S) (vnb V)))) := by
  refine con_of rfl rfl (Nat.le_of_ble_eq_true rfl) ?_
  refine g_lsN (ls' := [_, _, _, _, _]) rfl ?_
  refine g_iconst (v := nI 0) (n := 1) dX0_ageBays_0 (by decide) rfl ?_
  refine g_istore_n (n := 2) dX0_ageBays_1 (by decide) rfl rfl ?_
  refine g_lsN (ls' := [_, _, _, _, _]) rfl ?_
  refine g_iconst (v := nI 0) (n := 3) dX0_ageBays_2 (by decide) rfl ?_
  refine g_istore (n := 5) dX0_ageBays_3 (by decide) rfl rfl ?_
  refine g_lsN (ls' := [_, _, _, _, _]) rfl ?_
  refine g_wN (w' := ws V dn fb (sUn S (mix (unH S held) (sun S) 0))) (by rw [mix_0]) ?_
  exact lp_X0_ageBays l _ ⟨Nat.zero_le _, Nat.zero_le _⟩ _ V hV dn fb S held ⟨rfl, rfl⟩ 0 (Nat.zero_le _)
def woB (V : WT) (S : ST) (c : Bool) (f : Nat) : Bool := !decide (sti S f ≤ vkn V f) && !(c && decide (vki V f = nI 3))
def lvN (V : WT) (S : ST) (c : Bool) : Nat → Int32
  | 0 => sup S
  | f + 1 => if woB V S c f || hb (sfa S) (sbo S f) then lvN V S c f &&& ((nI 1 <<< (nI f &&& 31)) ^^^ (-1)) else lvN V S c f
set_option maxRecDepth 20000 in
theorem lp_X0_leaveTired (l : Launch) (z : Nat × Nat × Nat) (hz : z.2.1 ≤ 0 ∧ z.2.2 ≤ 0) (Q : Option Value → List va_E → Prop) (V : WT) (hV : okV V) (dn : Int32) (fb : Nat → Int32) (S : ST) (c : Bool) (hQ : Q none (ws V dn fb (sUp S (lvN V S c (vnf V))))) : ∀ f, f ≤ vnf V → ∀ (o4 : Option Value), G l M_X0_leaveTired z Q 2 [some (.ref 0), some (.ref 7), some (.int (bI c)), some (.int (nI f)), o4] [] (ws V dn fb (sUp S (lvN V S c f))) := by
  have hV1 := hV.1
  have hV2 := hV.2.1
  have hV3 := hV.2.2
  refine loopN (vnf V) ?_ (fun f hf ih => ?_)
  ·
    intro o4
    refine g_iload_n (n := 3) dX0_leaveTired_2 rfl rfl ?_
    refine g_aload_n (n := 4) dX0_leaveTired_3 rfl rfl ?_
    refine g_get (n := 7) fl_X0_46 dX0_leaveTired_4 rfl rfl rfl ?_
    refine g_icmp_ge (tgt := 81) (n := 10) dX0_leaveTired_7 (by decide) rfl (fun c7 => ?_) (fun c7 => absurd (nI_le (Nat.le_refl _) (by omega)) c7)
    exact g_vret dX0_leaveTired_81 rfl hz hQ
  ·
    intro o4
    have J50true : ∀ (o4 : Option Value), woB V S c f = true → G l M_X0_leaveTired z Q 50 [some (.ref 0), some (.ref 7), some (.int (bI c)), some (.int (nI f)), o4] [.int (nI 1)] (ws V dn fb (sUp S (lvN V S c f))) := by
      intro o4 hw
      refine g_istore (n := 52) dX0_leaveTired_50 (by decide) rfl rfl ?_
      refine g_lsN (ls' := [_, _, _, _, _]) rfl ?_
      refine g_iload (n := 54) dX0_leaveTired_52 rfl rfl ?_
      refine g_if_ne (tgt := 70) (n := 57) dX0_leaveTired_54 (by decide) rfl (fun c54 => ?_) (fun c54 => absurd c54 (by decide))
      have e1 : lvN V S c (f + 1) = lvN V S c f &&& ((nI 1 <<< (nI f &&& 31)) ^^^ (-1)) := by rw [lvN, hw]; rfl
      rw [e1] at ih
      refine g_aload_n (n := 71) dX0_leaveTired_70 rfl rfl ?_
      refine g_iload_n (n := 72) dX0_leaveTired_71 rfl rfl ?_
      refine g_cutVv (ps := [7, 8, 9, 10]) (w' := [_, _, _, _, _, _, _, _, _, _, _]) (n := 75) cv_X0_125 (t_X3_comeDown l _ _) dX0_leaveTired_72 rfl rfl rfl ⟨by decide, by decide, rfl, rfl, hz.1, hz.2⟩ rfl rfl rfl (Nat.le_of_ble_eq_true rfl) rfl rfl rfl ?_
      refine g_iincN (k := 1) (n := 78) dX0_leaveTired_75 rfl (by decide) rfl rfl ?_
      refine g_lsN (ls' := [_, _, _, _, _]) rfl ?_
      refine g_goto (tgt := 2) dX0_leaveTired_78 (by decide) ?_
      exact ih _
    have J50false : ∀ (o4 : Option Value), woB V S c f = false → G l M_X0_leaveTired z Q 50 [some (.ref 0), some (.ref 7), some (.int (bI c)), some (.int (nI f)), o4] [.int (nI 0)] (ws V dn fb (sUp S (lvN V S c f))) := by
      intro o4 hw
      refine g_istore (n := 52) dX0_leaveTired_50 (by decide) rfl rfl ?_
      refine g_lsN (ls' := [_, _, _, _, _]) rfl ?_
      refine g_iload (n := 54) dX0_leaveTired_52 rfl rfl ?_
      refine g_if_ne (tgt := 70) (n := 57) dX0_leaveTired_54 (by decide) rfl (fun c54 => absurd (by decide) c54) (fun c54 => ?_)
      refine g_aload_n (n := 58) dX0_leaveTired_57 rfl rfl ?_
      refine g_aload_n (n := 59) dX0_leaveTired_58 rfl rfl ?_
      refine g_get (n := 62) fl_X0_49 dX0_leaveTired_59 rfl rfl rfl ?_
      refine g_iload_n (n := 63) dX0_leaveTired_62 rfl rfl ?_
      refine g_ialdN (n := 64) dX0_leaveTired_63 rfl rfl (by decide) (by omega) ?_
      refine g_cutVi (ps := [7, 8, 9, 10]) (w' := [_, _, _, _, _, _, _, _, _, _, _]) (n := 67) cv_X0_62 (t_X3_hasFallen l _ _) dX0_leaveTired_64 rfl rfl rfl ⟨by decide, by decide, rfl, rfl, hz.1, hz.2⟩ rfl rfl rfl (Nat.le_of_ble_eq_true rfl) rfl rfl rfl ?_
      refine g_if_eq (tgt := 75) (n := 70) dX0_leaveTired_67 (by decide) rfl (fun c67 => ?_) (fun c67 => ?_)
      ·
        have e1 : lvN V S c (f + 1) = lvN V S c f := by rw [lvN, hw, bI_0.mp c67]; rfl
        rw [e1] at ih
        refine g_iincN (k := 1) (n := 78) dX0_leaveTired_75 rfl (by decide) rfl rfl ?_
        refine g_lsN (ls' := [_, _, _, _, _]) rfl ?_
        refine g_goto (tgt := 2) dX0_leaveTired_78 (by decide) ?_
        exact ih _
      ·
        have e1 : lvN V S c (f + 1) = lvN V S c f &&& ((nI 1 <<< (nI f &&& 31)) ^^^ (-1)) := by rw [lvN, hw, bI_n0.mp c67]; rfl
        rw [e1] at ih
        refine g_aload_n (n := 71) dX0_leaveTired_70 rfl rfl ?_
        refine g_iload_n (n := 72) dX0_leaveTired_71 rfl rfl ?_
        refine g_cutVv (ps := [7, 8, 9, 10]) (w' := [_, _, _, _, _, _, _, _, _, _, _]) (n := 75) cv_X0_125 (t_X3_comeDown l _ _) dX0_leaveTired_72 rfl rfl rfl ⟨by decide, by decide, rfl, rfl, hz.1, hz.2⟩ rfl rfl rfl (Nat.le_of_ble_eq_true rfl) rfl rfl rfl ?_
        refine g_iincN (k := 1) (n := 78) dX0_leaveTired_75 rfl (by decide) rfl rfl ?_
        refine g_lsN (ls' := [_, _, _, _, _]) rfl ?_
        refine g_goto (tgt := 2) dX0_leaveTired_78 (by decide) ?_
        exact ih _
    refine g_iload_n (n := 3) dX0_leaveTired_2 rfl rfl ?_
    refine g_aload_n (n := 4) dX0_leaveTired_3 rfl rfl ?_
    refine g_get (n := 7) fl_X0_46 dX0_leaveTired_4 rfl rfl rfl ?_
    refine g_icmp_ge (tgt := 81) (n := 10) dX0_leaveTired_7 (by decide) rfl (fun c7 => absurd c7 (nI_ge hf (by omega))) (fun c7 => ?_)
    refine g_iload_n (n := 11) dX0_leaveTired_10 rfl rfl ?_
    refine g_bipush (v := nI 6) (n := 13) dX0_leaveTired_11 (by decide) rfl ?_
    refine g_icmp_ge (tgt := 81) (n := 16) dX0_leaveTired_13 (by decide) rfl (fun c13 => absurd c13 (nI_ge (show f < 6 by omega) (by decide))) (fun c13 => ?_)
    refine g_aload_n (n := 17) dX0_leaveTired_16 rfl rfl ?_
    refine g_get (n := 20) fl_X0_88 dX0_leaveTired_17 rfl rfl rfl ?_
    refine g_iload_n (n := 21) dX0_leaveTired_20 rfl rfl ?_
    refine g_ialdN (n := 22) dX0_leaveTired_21 rfl rfl (by decide) (by omega) ?_
    refine g_aload_n (n := 23) dX0_leaveTired_22 rfl rfl ?_
    refine g_get (n := 26) fl_X0_122 dX0_leaveTired_23 rfl rfl rfl ?_
    refine g_iload_n (n := 27) dX0_leaveTired_26 rfl rfl ?_
    refine g_ialdN (n := 28) dX0_leaveTired_27 rfl rfl (by decide) (by omega) ?_
    refine g_icmp_le (tgt := 49) (n := 31) dX0_leaveTired_28 (by decide) rfl (fun c28 => ?_) (fun c28 => ?_)
    ·
      have e0 : woB V S c f = false := by unfold woB; rw [decide_eq_true c28]; rfl
      refine g_iconst (v := nI 0) (n := 50) dX0_leaveTired_49 (by decide) rfl ?_
      first | exact J50true _ e0 | exact J50false _ e0
    ·
      have a1 := decide_eq_false c28
      refine g_iload_n (n := 32) dX0_leaveTired_31 rfl rfl ?_
      refine g_if_eq (tgt := 45) (n := 35) dX0_leaveTired_32 (by decide) rfl (fun c32 => ?_) (fun c32 => ?_)
      ·
        have e0 : woB V S c f = true := by unfold woB; rw [a1, bI_0.mp c32]; rfl
        refine g_iconst (v := nI 1) (n := 46) dX0_leaveTired_45 (by decide) rfl ?_
        refine g_goto (tgt := 50) dX0_leaveTired_46 (by decide) ?_
        first | exact J50true _ e0 | exact J50false _ e0
      ·
        have a2 := bI_n0.mp c32
        refine g_aload_n (n := 36) dX0_leaveTired_35 rfl rfl ?_
        refine g_get (n := 39) fl_X0_101 dX0_leaveTired_36 rfl rfl rfl ?_
        refine g_iload_n (n := 40) dX0_leaveTired_39 rfl rfl ?_
        refine g_ialdN (n := 41) dX0_leaveTired_40 rfl rfl (by decide) (by omega) ?_
        refine g_iconst (v := nI 3) (n := 42) dX0_leaveTired_41 (by decide) rfl ?_
        refine g_icmp_eq (tgt := 49) (n := 45) dX0_leaveTired_42 (by decide) rfl (fun c42 => ?_) (fun c42 => ?_)
        ·
          have e0 : woB V S c f = false := by unfold woB; rw [a1, a2, decide_eq_true c42]; rfl
          refine g_iconst (v := nI 0) (n := 50) dX0_leaveTired_49 (by decide) rfl ?_
          first | exact J50true _ e0 | exact J50false _ e0
        ·
          have e0 : woB V S c f = true := by unfold woB; rw [a1, a2, decide_eq_false c42]; rfl
          refine g_iconst (v := nI 1) (n := 46) dX0_leaveTired_45 (by decide) rfl ?_
          refine g_goto (tgt := 50) dX0_leaveTired_46 (by decide) ?_
          first | exact J50true _ e0 | exact J50false _ e0
set_option maxRecDepth 20000 in
theorem t_X0_leaveTired (l : Launch) (V : WT) (hV : okV V) (dn : Int32) (fb : Nat → Int32) (S : ST) (c : Bool) : Fn l M_X0_leaveTired [.ref 0, .ref 7, .int (bI c)] (ws V dn fb S) none (ws V dn fb (sUp S (lvN V S c (vnf V)))) := by
  refine con_of rfl rfl (Nat.le_of_ble_eq_true rfl) ?_
  refine g_lsN (ls' := [_, _, _, _, _]) rfl ?_
  refine g_iconst (v := nI 0) (n := 1) dX0_leaveTired_0 (by decide) rfl ?_
  refine g_istore_n (n := 2) dX0_leaveTired_1 (by decide) rfl rfl ?_
  refine g_lsN (ls' := [_, _, _, _, _]) rfl ?_
  exact lp_X0_leaveTired l _ ⟨Nat.zero_le _, Nat.zero_le _⟩ _ V hV dn fb S c ⟨rfl, rfl⟩ 0 (Nat.zero_le _) _
theorem tw_bit {V : WT} {S : ST} : ∀ k, k ≤ 6 → ∀ j, j < 32 → hb (twN V S k) (nI j) = (decide (j < k) && hrd V S j)
  | 0, _, j, hj => by rw [twN, hb_0 hj]; rfl
  | k + 1, hk, j, hj => by
    rw [twN, hb_or _ _ hj, tw_bit k (by omega) j hj]
    by_cases hkj : k = j
    · subst hkj
      rw [decide_eq_false (Nat.lt_irrefl k), Bool.false_and, Bool.false_or, decide_eq_true (Nat.lt_succ_self k), Bool.true_and]
      cases hh : hrd V S k with
      | true => rw [if_pos rfl, hb_shb hj hj, decide_eq_true rfl]
      | false => rw [if_neg Bool.false_ne_true, hb_0 hj]
    · have e1 : hb (if hrd V S k then nI 1 <<< (nI k &&& 31) else nI 0) (nI j) = false := by
        split
        · rw [hb_shb (by omega) hj, decide_eq_false hkj]
        · rw [hb_0 hj]
      rw [e1, Bool.or_false, show decide (j < k + 1) = decide (j < k) from decide_eq_decide.mpr (by omega)]
/-- nobody is tired beyond measure -/
def okTi (V : WT) (S : ST) : Prop := ∀ f, f < vnf V → ∃ t : Nat, t ≤ 99 ∧ sti S f = nI t
def clamp (x : Int32) : Int32 := if nI 0 < (if x < nI 99 then x else nI 99) then (if x < nI 99 then x else nI 99) else nI 0
theorem cl_up {t : Nat} (ht : t ≤ 99) (b : Bool) : clamp (nI t + (if b then nI 2 else nI 1)) = if nI t + (if b then nI 2 else nI 1) ≤ nI 99 then nI t + (if b then nI 2 else nI 1) else nI 99 :=
  (by decide +kernel : ∀ t, t ≤ 99 → ∀ b : Bool, clamp (nI t + (if b then nI 2 else nI 1)) = if nI t + (if b then nI 2 else nI 1) ≤ nI 99 then nI t + (if b then nI 2 else nI 1) else nI 99) t ht b
theorem cl_dn {t : Nat} (ht : t ≤ 99) (x : Int32) (hx : x = nI 1 ∨ x = nI 2) : clamp (nI t + (-x)) = if 0 ≤ nI t - x then nI t - x else nI 0 := by
  rcases hx with rfl | rfl
  · exact (by decide +kernel : ∀ t, t ≤ 99 → clamp (nI t + (-nI 1)) = if 0 ≤ nI t - nI 1 then nI t - nI 1 else nI 0) t ht
  · exact (by decide +kernel : ∀ t, t ≤ 99 → clamp (nI t + (-nI 2)) = if 0 ≤ nI t - nI 2 then nI t - nI 2 else nI 0) t ht
theorem tiF_up {V : WT} {S : ST} (hV : okV V) (hT : okTi V S) {f : Nat} (hf : f < vnf V) (hu : hb (sup S) (nI f) = true) : clamp (sti S f + (if hrd V S f then nI 2 else nI 1)) = tiF V S f := by
  obtain ⟨t, ht, et⟩ := hT f hf
  have h6 := hV.2.1
  unfold tiF moF
  rw [hu, if_pos rfl, tw_bit (vnf V) h6 f (by omega), decide_eq_true hf, Bool.true_and, et]
  exact cl_up ht _
theorem tiF_dn {V : WT} {S : ST} (hT : okTi V S) {f : Nat} (hf : f < vnf V) (hu : hb (sup S) (nI f) = false) : clamp (sti S f + (-(if vki V f = nI 2 then nI 1 else nI 2))) = tiF V S f := by
  obtain ⟨t, ht, et⟩ := hT f hf
  unfold tiF rsF
  rw [hu, if_neg Bool.false_ne_true, et]
  exact cl_dn ht _ (by split <;> simp)
theorem alN_ti (V : WT) (S : ST) (g : Nat → Int32) (f : Nat) : ∀ k, alN V (sTi S g) f k = alN V S f k
  | 0 => rfl
  | k + 1 => by rw [alN, alN, alN_ti V S g f k]
theorem hrd_ti (V : WT) (S : ST) (g : Nat → Int32) (f : Nat) : hrd V (sTi S g) f = hrd V S f := by
  unfold hrd alF
  rw [alN_ti]
theorem up_lv {V : WT} {S S2 : ST} (e1 : ∀ f, f < vnf V → sti S2 f = tiF V S f) (e2 : sfa S2 = fa2 V S) (e3 : sbo S2 = sbo S) (e4 : sup S2 = sup S) : ∀ f, f ≤ vnf V → lvN V S2 (caF V (sho S)) f = upN V S f
  | 0, _ => e4
  | f + 1, h => by
    have ih := up_lv e1 e2 e3 e4 f (by omega)
    have ew : woB V S2 (caF V (sho S)) f = trd V S f := by
      unfold woB trd
      rw [e1 f (by omega)]
      cases decide (vki V f = nI 3) <;> cases caF V (sho S) <;> rfl
    rw [lvN, upN, ih, ew, e2, e3]
    split
    · rfl
    · rw [upN_m1]
set_option maxRecDepth 20000 in
set_option maxHeartbeats 1000000 in
theorem lp_X0_goBy (l : Launch) (z : Nat × Nat × Nat) (hz : z.2.1 ≤ 0 ∧ z.2.2 ≤ 0) (Q : Option Value → List va_E → Prop) (ra lo pr : Nat → Int32) (V : WT) (hV : okV V) (dn : Int32) (fb : Nat → Int32) (S : ST) (hB : okB V S) (hT : okTi V S) (a : Nat) (ha : a < 2 ^ 31) (hH : sho S = nI a) (hQ : Q (some (.int (flN V S (vnb V)))) (cws (mix (srF V S) ra 8) (mix (ldF V S) lo (vnb V)) (mix (prF V S) pr (vnb V)) V dn fb (psF V S))) : ∀ f, f ≤ vnf V → ∀ (o6 : Option Value), G l M_X0_goBy z Q 20 [some (.ref 0), some (.ref 4), some (.ref 11), some (.int (hdN V S (vnb V))), some (.int (bI (caF V (sho S)))), some (.int (nI f)), o6] [] (cws (mix (srF V S) ra 8) (mix (ldF V S) lo (vnb V)) (mix (prF V S) pr (vnb V)) V dn fb (sTi S (mix (tiF V S) (sti S) f))) := by
  have hV1 := hV.1
  have hV2 := hV.2.1
  have hV3 := hV.2.2
  refine loopN (vnf V) ?_ (fun f hf ih => ?_)
  ·
    intro o6
    have e7 : ∀ b, flH V (sTi S (mix (tiF V S) (sti S) (vnf V))) (hdN V S (vnb V)) b = flN V S b := by
      intro b
      induction b with
      | zero => rfl
      | succ b ih => rw [flH, flN, ih]; rfl
    have e8 := up_lv (V := V) (S := S) (S2 := (sho S, sup S, fa2 V S, ti2 V S, sbo S, un2 V S)) (fun f hf => by show mix _ _ _ _ = _; unfold mix; rw [if_pos hf]) rfl rfl rfl (vnf V) (Nat.le_refl _)
    refine g_iload (n := 22) dX0_goBy_20 rfl rfl ?_
    refine g_aload_n (n := 23) dX0_goBy_22 rfl rfl ?_
    refine g_get (n := 26) fl_X0_46 dX0_goBy_23 rfl rfl rfl ?_
    refine g_icmp_ge (tgt := 96) (n := 29) dX0_goBy_26 (by decide) rfl (fun c26 => ?_) (fun c26 => absurd (nI_le (Nat.le_refl _) (by omega)) c26)
    refine g_aload_n (n := 97) dX0_goBy_96 rfl rfl ?_
    refine g_aload_n (n := 98) dX0_goBy_97 rfl rfl ?_
    refine g_iload_n (n := 99) dX0_goBy_98 rfl rfl ?_
    refine g_cutPi (ps := [4, 5, 6, 7, 8, 9, 10, 11, 12, 13, 14]) (w' := [_, _, _, _, _, _, _, _, _, _, _, _, _, _, _]) (n := 102) cs_X0_94 (t_X0_ageBays l V hV dn fb (sTi S (mix (tiF V S) (sti S) (vnf V))) (hdN V S (vnb V))) dX0_goBy_99 rfl rfl rfl ⟨by decide, by decide, rfl, rfl, hz.1, hz.2⟩ rfl (Nat.le_of_ble_eq_true rfl) rfl rfl rfl ?_
    rw [e7]
    refine g_istore (n := 104) dX0_goBy_102 (by decide) rfl rfl ?_
    refine g_lsN (ls' := [_, _, _, _, _, _, _]) rfl ?_
    refine g_aload_n (n := 105) dX0_goBy_104 rfl rfl ?_
    refine g_dup (n := 106) dX0_goBy_105 rfl rfl ?_
    refine g_get (n := 109) fl_X0_41 dX0_goBy_106 rfl rfl rfl ?_
    refine g_iload (n := 111) dX0_goBy_109 rfl rfl ?_
    refine g_ior (n := 112) dX0_goBy_111 rfl ?_
    refine g_put (n := 115) pf_X0_41 dX0_goBy_112 rfl (Nat.le_of_ble_eq_true rfl) (fun _ => rfl) (fun _ => rfl) rfl ?_
    refine g_wN (w' := [_, _, _, _, _, _, _, _, _, _, _, _, _, _, _]) rfl ?_
    refine g_aload_n (n := 116) dX0_goBy_115 rfl rfl ?_
    refine g_aload_n (n := 117) dX0_goBy_116 rfl rfl ?_
    refine g_iload (n := 119) dX0_goBy_117 rfl rfl ?_
    refine g_cutPv (ps := [4, 5, 6, 7, 8, 9, 10, 11, 12, 13, 14]) (w' := [_, _, _, _, _, _, _, _, _, _, _, _, _, _, _]) (n := 122) cs_X0_97 (t_X0_leaveTired l V hV dn fb (sho S, sup S, fa2 V S, ti2 V S, sbo S, un2 V S) (caF V (sho S))) dX0_goBy_119 rfl rfl rfl ⟨by decide, by decide, rfl, rfl, hz.1, hz.2⟩ rfl (Nat.le_of_ble_eq_true rfl) rfl rfl rfl ?_
    rw [e8]
    refine g_aload_n (n := 123) dX0_goBy_122 rfl rfl ?_
    refine g_dup (n := 124) dX0_goBy_123 rfl rfl ?_
    refine g_get (n := 127) fl_X0_75 dX0_goBy_124 rfl rfl rfl ?_
    refine g_iconst (v := nI 1) (n := 128) dX0_goBy_127 (by decide) rfl ?_
    refine g_iadd (n := 129) dX0_goBy_128 rfl ?_
    refine g_put (n := 132) pf_X0_75 dX0_goBy_129 rfl (Nat.le_of_ble_eq_true rfl) (fun _ => rfl) (fun _ => rfl) rfl ?_
    refine g_wN (w' := [_, _, _, _, _, _, _, _, _, _, _, _, _, _, _]) rfl ?_
    refine g_iload (n := 134) dX0_goBy_132 rfl rfl ?_
    exact g_iret (ty := .int) dX0_goBy_134 rfl rfl hz hQ
  ·
    intro o6
    have hB2 : okB V (sTi S (mix (tiF V S) (sti S) f)) := hB
    have J62 : ∀ (x : Int32) (o6 : Option Value), clamp (sti S f + x) = tiF V S f → G l M_X0_goBy z Q 62 [some (.ref 0), some (.ref 4), some (.ref 11), some (.int (hdN V S (vnb V))), some (.int (bI (caF V (sho S)))), some (.int (nI f)), o6] [.int x] (cws (mix (srF V S) ra 8) (mix (ldF V S) lo (vnb V)) (mix (prF V S) pr (vnb V)) V dn fb (sTi S (mix (tiF V S) (sti S) f))) := by
      intro x o6 hx
      rw [← mix_s (tiF V S) (sti S) f, ← hx] at ih
      refine g_istore (n := 64) dX0_goBy_62 (by decide) rfl rfl ?_
      refine g_lsN (ls' := [_, _, _, _, _, _, _]) rfl ?_
      refine g_aload_n (n := 65) dX0_goBy_64 rfl rfl ?_
      refine g_get (n := 68) fl_X0_88 dX0_goBy_65 rfl rfl rfl ?_
      refine g_iload (n := 70) dX0_goBy_68 rfl rfl ?_
      refine g_iconst (v := nI 0) (n := 71) dX0_goBy_70 (by decide) rfl ?_
      refine g_bipush (v := nI 99) (n := 73) dX0_goBy_71 (by decide) rfl ?_
      refine g_aload_n (n := 74) dX0_goBy_73 rfl rfl ?_
      refine g_get (n := 77) fl_X0_88 dX0_goBy_74 rfl rfl rfl ?_
      refine g_iload (n := 79) dX0_goBy_77 rfl rfl ?_
      refine g_ialdN (n := 80) dX0_goBy_79 rfl rfl (by decide) (by omega) ?_
      refine g_top (mix_at _ _ _) ?_
      refine g_iload (n := 82) dX0_goBy_80 rfl rfl ?_
      refine g_iadd (n := 83) dX0_goBy_82 rfl ?_
      refine g_mmin (n := 86) dX0_goBy_83 lk_X0_91 lw_min lw_math lc_min (by decide) (Nat.le_of_ble_eq_true rfl) hz rfl ?_
      refine g_mmax (n := 89) dX0_goBy_86 lk_X0_65 lw_max lw_math lc_max (by decide) (Nat.le_of_ble_eq_true rfl) hz rfl ?_
      refine g_iastN (n := 90) dX0_goBy_89 rfl rfl (by decide) (by omega) ?_
      refine g_wN (w' := [_, _, _, _, _, _, _, _, _, _, _, _, _, _, _]) rfl ?_
      refine g_iincN (k := 1) (n := 93) dX0_goBy_90 rfl (by decide) rfl rfl ?_
      refine g_lsN (ls' := [_, _, _, _, _, _, _]) rfl ?_
      refine g_goto (tgt := 20) dX0_goBy_93 (by decide) ?_
      exact ih _
    refine g_iload (n := 22) dX0_goBy_20 rfl rfl ?_
    refine g_aload_n (n := 23) dX0_goBy_22 rfl rfl ?_
    refine g_get (n := 26) fl_X0_46 dX0_goBy_23 rfl rfl rfl ?_
    refine g_icmp_ge (tgt := 96) (n := 29) dX0_goBy_26 (by decide) rfl (fun c26 => absurd c26 (nI_ge hf (by omega))) (fun c26 => ?_)
    refine g_iload (n := 31) dX0_goBy_29 rfl rfl ?_
    refine g_bipush (v := nI 6) (n := 33) dX0_goBy_31 (by decide) rfl ?_
    refine g_icmp_ge (tgt := 96) (n := 36) dX0_goBy_33 (by decide) rfl (fun c33 => absurd c33 (nI_ge (show f < 6 by omega) (by decide))) (fun c33 => ?_)
    refine g_aload_n (n := 37) dX0_goBy_36 rfl rfl ?_
    refine g_iload (n := 39) dX0_goBy_37 rfl rfl ?_
    refine g_cutVi (ps := [11, 12, 13, 14]) (w' := [_, _, _, _, _, _, _, _, _, _, _, _, _, _, _]) (n := 42) cv_X0_52 (t_X3_isUp l _ _) dX0_goBy_39 rfl rfl rfl ⟨by decide, by decide, rfl, rfl, hz.1, hz.2⟩ rfl rfl rfl (Nat.le_of_ble_eq_true rfl) rfl rfl rfl ?_
    refine g_if_eq (tgt := 55) (n := 45) dX0_goBy_42 (by decide) rfl (fun c42 => ?_) (fun c42 => ?_)
    ·
      have a1 := bI_0.mp c42
      refine g_aload_n (n := 56) dX0_goBy_55 rfl rfl ?_
      refine g_iload (n := 58) dX0_goBy_56 rfl rfl ?_
      refine g_cutPi (ps := [4, 5, 6, 7, 8, 9, 10]) (w' := [_, _, _, _, _, _, _, _, _, _, _, _, _, _, _]) (n := 61) cs_X0_84 (t_X0_resting l V hV dn fb f hf) dX0_goBy_58 rfl rfl rfl ⟨by decide, by decide, rfl, rfl, hz.1, hz.2⟩ rfl (Nat.le_of_ble_eq_true rfl) rfl rfl rfl ?_
      refine g_ineg (n := 62) dX0_goBy_61 rfl ?_
      have e0 := tiF_dn hT hf a1
      exact J62 _ _ e0
    ·
      have a1 := bI_n0.mp c42
      refine g_aload_n (n := 46) dX0_goBy_45 rfl rfl ?_
      refine g_aload_n (n := 47) dX0_goBy_46 rfl rfl ?_
      refine g_iload (n := 49) dX0_goBy_47 rfl rfl ?_
      refine g_cutPi (ps := [4, 5, 6, 7, 8, 9, 10, 11, 12, 13, 14]) (w' := [_, _, _, _, _, _, _, _, _, _, _, _, _, _, _]) (n := 52) cs_X0_81 (t_X0_tiring l V hV dn fb (sTi S (mix (tiF V S) (sti S) f)) hB2 f hf) dX0_goBy_49 rfl rfl rfl ⟨by decide, by decide, rfl, rfl, hz.1, hz.2⟩ rfl (Nat.le_of_ble_eq_true rfl) rfl rfl rfl ?_
      rw [hrd_ti]
      have e0 := tiF_up hV hT hf a1
      refine g_goto (tgt := 62) dX0_goBy_52 (by decide) ?_
      exact J62 _ _ e0
set_option maxRecDepth 20000 in
theorem t_X0_goBy (l : Launch) (ra lo pr : Nat → Int32) (V : WT) (hV : okV V) (dn : Int32) (fb : Nat → Int32) (S : ST) (hB : okB V S) (hT : okTi V S) (a : Nat) (ha : a < 2 ^ 31) (hH : sho S = nI a) : Fn l M_X0_goBy [.ref 0, .ref 4, .ref 11] (cws ra lo pr V dn fb S) (some (.int (flN V S (vnb V)))) (cws (mix (srF V S) ra 8) (mix (ldF V S) lo (vnb V)) (mix (prF V S) pr (vnb V)) V dn fb (psF V S)) := by
  have hV1 := hV.1
  have hV2 := hV.2.1
  have hV3 := hV.2.2
  refine con_of rfl rfl (Nat.le_of_ble_eq_true rfl) ?_
  refine g_lsN (ls' := [_, _, _, _, _, _, _]) rfl ?_
  refine g_aload_n (n := 1) dX0_goBy_0 rfl rfl ?_
  refine g_aload_n (n := 2) dX0_goBy_1 rfl rfl ?_
  refine g_aload_n (n := 3) dX0_goBy_2 rfl rfl ?_
  refine g_cutVi (ps := [0, 1, 2, 3, 4, 5, 6, 7, 8, 9, 10, 11, 12, 13, 14]) (w' := [_, _, _, _, _, _, _, _, _, _, _, _, _, _, _]) (n := 6) cv_X0_71 (t_X0_heldBays l ra lo pr V hV dn fb S hB) dX0_goBy_3 rfl rfl rfl ⟨by decide, by decide, rfl, rfl, Nat.zero_le _, Nat.zero_le _⟩ rfl rfl rfl (Nat.le_of_ble_eq_true rfl) rfl rfl rfl ?_
  refine g_istore_n (n := 7) dX0_goBy_6 (by decide) rfl rfl ?_
  refine g_lsN (ls' := [_, _, _, _, _, _, _]) rfl ?_
  refine g_aload_n (n := 8) dX0_goBy_7 rfl rfl ?_
  refine g_aload_n (n := 9) dX0_goBy_8 rfl rfl ?_
  refine g_get (n := 12) fl_X0_75 dX0_goBy_9 rfl rfl rfl ?_
  refine g_top hH ?_
  refine g_cutVi (ps := [4, 5, 6, 7, 8, 9, 10]) (w' := [_, _, _, _, _, _, _, _, _, _, _, _, _, _, _]) (n := 15) cv_X0_78 (t_X7_hasCarts l V hV dn a ha) dX0_goBy_12 rfl rfl rfl ⟨by decide, by decide, rfl, rfl, Nat.zero_le _, Nat.zero_le _⟩ rfl rfl rfl (Nat.le_of_ble_eq_true rfl) rfl rfl rfl ?_
  rw [← hH]
  refine g_istore (n := 17) dX0_goBy_15 (by decide) rfl rfl ?_
  refine g_lsN (ls' := [_, _, _, _, _, _, _]) rfl ?_
  refine g_iconst (v := nI 0) (n := 18) dX0_goBy_17 (by decide) rfl ?_
  refine g_istore (n := 20) dX0_goBy_18 (by decide) rfl rfl ?_
  refine g_lsN (ls' := [_, _, _, _, _, _, _]) rfl ?_
  refine g_wN (w' := cws (mix (srF V S) ra 8) (mix (ldF V S) lo (vnb V)) (mix (prF V S) pr (vnb V)) V dn fb (sTi S (mix (tiF V S) (sti S) 0))) (by rw [mix_0]; rfl) ?_
  exact lp_X0_goBy l _ ⟨Nat.zero_le _, Nat.zero_le _⟩ _ ra lo pr V hV dn fb S hB hT a ha hH ⟨rfl, rfl⟩ 0 (Nat.zero_le _) _

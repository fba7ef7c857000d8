/-! 13.mpass: an hour of the reference -/
def caF (V : WT) (h : Int32) : Bool := decide (0 < vnc V) && hb (vca V) (h - h / nI (vnc V) * nI (vnc V))
def alN (V : WT) (S : ST) (f : Nat) : Nat → Bool
  | 0 => true
  | g + 1 => alN V S f g && (decide (g = f) || !hb (sup S) (nI g) || !inB (sbo S g - sbo S f) (-1) (nI 1))
def alF (V : WT) (S : ST) (f : Nat) : Bool := alN V S f (vnf V)
def hrd (V : WT) (S : ST) (f : Nat) : Bool := decide (vki V f = nI 2) || (decide (vki V f = nI 1) && alF V S f)
def twN (V : WT) (S : ST) : Nat → Int32
  | 0 => nI 0
  | f + 1 => twN V S f ||| (if hrd V S f then nI 1 <<< (nI f &&& 31) else nI 0)
def rsF (V : WT) (S : ST) (f : Nat) : Int32 := sti S f - (if vki V f = nI 2 then nI 1 else nI 2)
def moF (V : WT) (S : ST) (f : Nat) : Int32 := sti S f + (if hb (twN V S (vnf V)) (nI f) then nI 2 else nI 1)
def tiF (V : WT) (S : ST) (f : Nat) : Int32 := if hb (sup S) (nI f) then (if moF V S f ≤ nI 99 then moF V S f else nI 99) else (if 0 ≤ rsF V S f then rsF V S f else nI 0)
def mix (a b : Nat → Int32) (k : Nat) : Nat → Int32 := fun f => if f < k then a f else b f
theorem mix_0 (a b : Nat → Int32) : mix a b 0 = b := by funext f; simp [mix]
theorem mix_at (a b : Nat → Int32) (k : Nat) : mix a b k k = b k := by simp [mix]
theorem mix_s (a b : Nat → Int32) (k : Nat) : upd (mix a b k) k (a k) = mix a b (k + 1) := by
  funext f
  unfold upd mix
  by_cases h : f = k
  · subst h; simp
  · by_cases h2 : f < k
    · simp [h, h2, Nat.lt_succ_of_lt h2]
    · have h3 : ¬ f < k + 1 := by omega
      simp [h, h2, h3]
theorem mix_e {a b : Nat → Int32} {k : Nat} (h : a k = b k) : mix a b (k + 1) = mix a b k := by
  funext f
  unfold mix
  by_cases h1 : f = k
  · subst h1; simp [h]
  · by_cases h2 : f < k
    · simp [h2, Nat.lt_succ_of_lt h2]
    · have h3 : ¬ f < k + 1 := by omega
      simp [h2, h3]
def unF (V : WT) (S : ST) (b : Nat) : Int32 := if hb (sfa S) (nI b) then sun S b else if hb (hdN V S (vnb V)) (nI b) then nI 0 else sun S b + nI 1
def flN (V : WT) (S : ST) : Nat → Int32
  | 0 => nI 0
  | b + 1 => if hb (sfa S) (nI b) then flN V S b else flN V S b ||| (if unF V S b ≤ vpa V b then nI 0 else nI 1 <<< (nI b &&& 31))
def fa2 (V : WT) (S : ST) : Int32 := sfa S ||| flN V S (vnb V)
def ti2 (V : WT) (S : ST) : Nat → Int32 := mix (tiF V S) (sti S) (vnf V)
def un2 (V : WT) (S : ST) : Nat → Int32 := mix (unF V S) (sun S) (vnb V)
def trd (V : WT) (S : ST) (f : Nat) : Bool := !decide (tiF V S f ≤ vkn V f) && (!decide (vki V f = nI 3) || !caF V (sho S))
def upN (V : WT) (S : ST) : Nat → Int32
  | 0 => sup S
  | f + 1 => upN V S f &&& (if trd V S f || hb (fa2 V S) (sbo S f) then (nI 1 <<< (nI f &&& 31)) ^^^ (-1) else (-1))
/-- an hour goes by -/
def psF (V : WT) (S : ST) : ST := (sho S + nI 1, upN V S (vnf V), fa2 V S, ti2 V S, sbo S, un2 V S)

set_option maxRecDepth 20000 in
theorem lp_X9_heldNow (l : Launch) (z : Nat × Nat × Nat) (hz : z.2.1 ≤ 0 ∧ z.2.2 ≤ 0) (Q : Option Value → List va_E → Prop) (e : MR) (V : WT) (S : ST) (hV : okV V) (hQ : Q (some (.int (hdN V S (vnb V)))) (mw e (tk V) (pk S))) : ∀ b, b ≤ vnb V → G l M_X9_heldNow z Q 4 [some (.ref 0), some (.int (hdN V S b)), some (.int (nI b))] [] (mw e (tk V) (pk S)) := by
  have hV1 := hV.1
  have hV2 := hV.2.1
  have hV3 := hV.2.2
  refine loopN (vnb V) ?_ (fun b hb ih => ?_)
  ·
    refine g_iload_n (n := 5) dX9_heldNow_4 rfl rfl ?_
    refine g_aload_n (n := 6) dX9_heldNow_5 rfl rfl ?_
    refine g_get (n := 9) fl_X9_13 dX9_heldNow_6 rfl rfl rfl ?_
    refine g_iconst (v := nI 0) (n := 10) dX9_heldNow_9 (by decide) rfl ?_
    refine g_ialdN (n := 11) dX9_heldNow_10 rfl rfl (by decide) (by omega) ?_
    refine g_top (tk_0 _) ?_
    refine g_icmp_ge (tgt := 38) (n := 14) dX9_heldNow_11 (by decide) rfl (fun c11 => ?_) (fun c11 => absurd (nI_le (Nat.le_refl _) (by omega)) c11)
    refine g_iload_n (n := 39) dX9_heldNow_38 rfl rfl ?_
    exact g_iret (ty := .int) dX9_heldNow_39 rfl rfl hz hQ
  ·
    refine g_iload_n (n := 5) dX9_heldNow_4 rfl rfl ?_
    refine g_aload_n (n := 6) dX9_heldNow_5 rfl rfl ?_
    refine g_get (n := 9) fl_X9_13 dX9_heldNow_6 rfl rfl rfl ?_
    refine g_iconst (v := nI 0) (n := 10) dX9_heldNow_9 (by decide) rfl ?_
    refine g_ialdN (n := 11) dX9_heldNow_10 rfl rfl (by decide) (by omega) ?_
    refine g_top (tk_0 _) ?_
    refine g_icmp_ge (tgt := 38) (n := 14) dX9_heldNow_11 (by decide) rfl (fun c11 => absurd c11 (nI_ge hb (by omega))) (fun c11 => ?_)
    refine g_iload_n (n := 15) dX9_heldNow_14 rfl rfl ?_
    refine g_aload_n (n := 16) dX9_heldNow_15 rfl rfl ?_
    refine g_iload_n (n := 17) dX9_heldNow_16 rfl rfl ?_
    refine g_callWi (n := 20) cv_X9_116 (t_X9_isHeld l _ _ _ hV b hb) dX9_heldNow_17 rfl ⟨by decide, by decide, rfl, rfl, hz.1, hz.2⟩ rfl rfl rfl (Nat.le_of_ble_eq_true rfl) rfl rfl ?_
    refine g_if_eq (tgt := 29) (n := 23) dX9_heldNow_20 (by decide) rfl (fun c20 => ?_) (fun c20 => ?_)
    ·
      have e1 : hdN V S (b + 1) = hdN V S b ||| nI 0 := by rw [hdN, bI_0.mp c20]; rfl
      rw [e1] at ih
      refine g_iconst (v := nI 0) (n := 30) dX9_heldNow_29 (by decide) rfl ?_
      refine g_ior (n := 31) dX9_heldNow_30 rfl ?_
      refine g_istore_n (n := 32) dX9_heldNow_31 (by decide) rfl rfl ?_
      refine g_lsN (ls' := [_, _, _]) rfl ?_
      refine g_iincN (k := 1) (n := 35) dX9_heldNow_32 rfl (by decide) rfl rfl ?_
      refine g_lsN (ls' := [_, _, _]) rfl ?_
      refine g_goto (tgt := 4) dX9_heldNow_35 (by decide) ?_
      exact ih
    ·
      have e1 : hdN V S (b + 1) = hdN V S b ||| nI 1 <<< (nI b &&& 31) := by rw [hdN, bI_n0.mp c20]; rfl
      rw [e1] at ih
      refine g_iconst (v := nI 1) (n := 24) dX9_heldNow_23 (by decide) rfl ?_
      refine g_iload_n (n := 25) dX9_heldNow_24 rfl rfl ?_
      refine g_ishl (n := 26) dX9_heldNow_25 rfl ?_
      refine g_goto (tgt := 30) dX9_heldNow_26 (by decide) ?_
      refine g_ior (n := 31) dX9_heldNow_30 rfl ?_
      refine g_istore_n (n := 32) dX9_heldNow_31 (by decide) rfl rfl ?_
      refine g_lsN (ls' := [_, _, _]) rfl ?_
      refine g_iincN (k := 1) (n := 35) dX9_heldNow_32 rfl (by decide) rfl rfl ?_
      refine g_lsN (ls' := [_, _, _]) rfl ?_
      refine g_goto (tgt := 4) dX9_heldNow_35 (by decide) ?_
      exact ih
set_option maxRecDepth 20000 in
theorem t_X9_heldNow (l : Launch) (e : MR) (V : WT) (S : ST) (hV : okV V) : Fn l M_X9_heldNow [.ref 0] (mw e (tk V) (pk S)) (some (.int (hdN V S (vnb V)))) (mw e (tk V) (pk S)) := by
  refine con_of rfl rfl (Nat.le_of_ble_eq_true rfl) ?_
  refine g_lsN (ls' := [_, _, _]) rfl ?_
  refine g_iconst (v := nI 0) (n := 1) dX9_heldNow_0 (by decide) rfl ?_
  refine g_istore_n (n := 2) dX9_heldNow_1 (by decide) rfl rfl ?_
  refine g_lsN (ls' := [_, _, _]) rfl ?_
  refine g_iconst (v := nI 0) (n := 3) dX9_heldNow_2 (by decide) rfl ?_
  refine g_istore_n (n := 4) dX9_heldNow_3 (by decide) rfl rfl ?_
  refine g_lsN (ls' := [_, _, _]) rfl ?_
  exact lp_X9_heldNow l _ ⟨Nat.zero_le _, Nat.zero_le _⟩ _ e V S hV ⟨rfl, rfl⟩ 0 (Nat.zero_le _)
set_option maxRecDepth 20000 in
theorem t_X9_areCarts (l : Launch) (e : MR) (V : WT) (s : Nat → Int32) (hV : okV V) (h : Int32) : Fn l M_X9_areCarts [.ref 0, .int h] (mw e (tk V) s) (some (.int (bI (caF V h)))) (mw e (tk V) s) := by
  have hV3 := hV.2.2
  refine con_of rfl rfl (Nat.le_of_ble_eq_true rfl) ?_
  refine g_lsN (ls' := [_, _]) rfl ?_
  refine g_aload_n (n := 1) dX9_areCarts_0 rfl rfl ?_
  refine g_get (n := 4) fl_X9_13 dX9_areCarts_1 rfl rfl rfl ?_
  refine g_iconst (v := nI 2) (n := 5) dX9_areCarts_4 (by decide) rfl ?_
  refine g_ialdN (n := 6) dX9_areCarts_5 rfl rfl (by decide) (by omega) ?_
  refine g_top (tk_2 _) ?_
  refine g_if_le (tgt := 33) (n := 9) dX9_areCarts_6 (by decide) rfl (fun c6 => ?_) (fun c6 => ?_)
  ·
    have hF : caF V h = false := by unfold caF; rw [decide_eq_false (fun q => nI_nle q (by omega) c6)]; rfl
    refine g_iconst (v := nI 0) (n := 34) dX9_areCarts_33 (by decide) rfl ?_
    exact g_iret (ty := .boolean) dX9_areCarts_34 rfl (by first | exact bI_nar _ | decide) ⟨Nat.zero_le _, Nat.zero_le _⟩ ⟨by first | exact okT hT | exact okF hF, rfl⟩
  ·
    have hc : 0 < vnc V := by
      rcases Nat.eq_zero_or_pos (vnc V) with q | q
      · exact absurd (by rw [q]; decide) c6
      · exact q
    refine g_aload_n (n := 10) dX9_areCarts_9 rfl rfl ?_
    refine g_get (n := 13) fl_X9_13 dX9_areCarts_10 rfl rfl rfl ?_
    refine g_iconst (v := nI 3) (n := 14) dX9_areCarts_13 (by decide) rfl ?_
    refine g_ialdN (n := 15) dX9_areCarts_14 rfl rfl (by decide) (by omega) ?_
    refine g_top (tk_3 _) ?_
    refine g_iload_n (n := 16) dX9_areCarts_15 rfl rfl ?_
    refine g_aload_n (n := 17) dX9_areCarts_16 rfl rfl ?_
    refine g_get (n := 20) fl_X9_13 dX9_areCarts_17 rfl rfl rfl ?_
    refine g_iconst (v := nI 2) (n := 21) dX9_areCarts_20 (by decide) rfl ?_
    refine g_ialdN (n := 22) dX9_areCarts_21 rfl rfl (by decide) (by omega) ?_
    refine g_top (tk_2 _) ?_
    refine g_irem (n := 23) dX9_areCarts_22 (nI_ne0 hc (by omega)) rfl ?_
    refine g_callSi (n := 26) cs_X9_94 (t_X9_has l _ _) dX9_areCarts_23 rfl rfl ⟨by decide, by decide, rfl, rfl, Nat.zero_le _, Nat.zero_le _⟩ rfl (Nat.le_of_ble_eq_true rfl) rfl ?_
    refine g_if_eq (tgt := 33) (n := 29) dX9_areCarts_26 (by decide) rfl (fun c26 => ?_) (fun c26 => ?_)
    ·
      have hF : caF V h = false := by unfold caF; rw [bI_0.mp c26, Bool.and_false]
      refine g_iconst (v := nI 0) (n := 34) dX9_areCarts_33 (by decide) rfl ?_
      exact g_iret (ty := .boolean) dX9_areCarts_34 rfl (by first | exact bI_nar _ | decide) ⟨Nat.zero_le _, Nat.zero_le _⟩ ⟨by first | exact okT hT | exact okF hF, rfl⟩
    ·
      have hT : caF V h = true := by unfold caF; rw [bI_n0.mp c26, decide_eq_true hc]; rfl
      refine g_iconst (v := nI 1) (n := 30) dX9_areCarts_29 (by decide) rfl ?_
      refine g_goto (tgt := 34) dX9_areCarts_30 (by decide) ?_
      exact g_iret (ty := .boolean) dX9_areCarts_34 rfl (by first | exact bI_nar _ | decide) ⟨Nat.zero_le _, Nat.zero_le _⟩ ⟨by first | exact okT hT | exact okF hF, rfl⟩
set_option maxRecDepth 20000 in
theorem lp_X9_isAlone (l : Launch) (z : Nat × Nat × Nat) (hz : z.2.1 ≤ 0 ∧ z.2.2 ≤ 0) (Q : Option Value → List va_E → Prop) (e : MR) (V : WT) (S : ST) (hV : okV V) (f : Nat) (hf : f < vnf V) (hQ : Q (some (.int (bI (alF V S f)))) (mw e (tk V) (pk S))) : ∀ g, g ≤ vnf V → G l M_X9_isAlone z Q 4 [some (.ref 0), some (.int (nI f)), some (.int (bI (alN V S f g))), some (.int (nI g))] [] (mw e (tk V) (pk S)) := by
  have hV1 := hV.1
  have hV2 := hV.2.1
  have hV3 := hV.2.2
  refine loopN (vnf V) ?_ (fun g hg ih => ?_)
  ·
    refine g_iload_n (n := 5) dX9_isAlone_4 rfl rfl ?_
    refine g_aload_n (n := 6) dX9_isAlone_5 rfl rfl ?_
    refine g_get (n := 9) fl_X9_13 dX9_isAlone_6 rfl rfl rfl ?_
    refine g_iconst (v := nI 1) (n := 10) dX9_isAlone_9 (by decide) rfl ?_
    refine g_ialdN (n := 11) dX9_isAlone_10 rfl rfl (by decide) (by omega) ?_
    refine g_top (tk_1 _) ?_
    refine g_icmp_ge (tgt := 75) (n := 14) dX9_isAlone_11 (by decide) rfl (fun c11 => ?_) (fun c11 => absurd (nI_le (Nat.le_refl _) (by omega)) c11)
    refine g_iload_n (n := 76) dX9_isAlone_75 rfl rfl ?_
    exact g_iret (ty := .boolean) dX9_isAlone_76 rfl (by first | exact bI_nar _ | decide) hz hQ
  ·
    refine g_iload_n (n := 5) dX9_isAlone_4 rfl rfl ?_
    refine g_aload_n (n := 6) dX9_isAlone_5 rfl rfl ?_
    refine g_get (n := 9) fl_X9_13 dX9_isAlone_6 rfl rfl rfl ?_
    refine g_iconst (v := nI 1) (n := 10) dX9_isAlone_9 (by decide) rfl ?_
    refine g_ialdN (n := 11) dX9_isAlone_10 rfl rfl (by decide) (by omega) ?_
    refine g_top (tk_1 _) ?_
    refine g_icmp_ge (tgt := 75) (n := 14) dX9_isAlone_11 (by decide) rfl (fun c11 => absurd c11 (nI_ge hg (by omega))) (fun c11 => ?_)
    refine g_iload_n (n := 15) dX9_isAlone_14 rfl rfl ?_
    refine g_if_eq (tgt := 67) (n := 18) dX9_isAlone_15 (by decide) rfl (fun c15 => ?_) (fun c15 => ?_)
    ·
      have e1 : bI (alN V S f (g + 1)) = nI 0 := by rw [alN, bI_0.mp c15]; rfl
      rw [e1] at ih
      refine g_iconst (v := nI 0) (n := 68) dX9_isAlone_67 (by decide) rfl ?_
      refine g_istore_n (n := 69) dX9_isAlone_68 (by decide) rfl rfl ?_
      refine g_lsN (ls' := [_, _, _, _]) rfl ?_
      refine g_iincN (k := 1) (n := 72) dX9_isAlone_69 rfl (by decide) rfl rfl ?_
      refine g_lsN (ls' := [_, _, _, _]) rfl ?_
      refine g_goto (tgt := 4) dX9_isAlone_72 (by decide) ?_
      exact ih
    ·
      have a1 := bI_n0.mp c15
      refine g_iload_n (n := 19) dX9_isAlone_18 rfl rfl ?_
      refine g_iload_n (n := 20) dX9_isAlone_19 rfl rfl ?_
      refine g_icmp_eq (tgt := 63) (n := 23) dX9_isAlone_20 (by decide) rfl (fun c20 => ?_) (fun c20 => ?_)
      ·
        have e1 : bI (alN V S f (g + 1)) = nI 1 := by rw [alN, a1, decide_eq_true ((nI_eq (by omega) (by omega)).mp c20)]; rfl
        rw [e1] at ih
        refine g_iconst (v := nI 1) (n := 64) dX9_isAlone_63 (by decide) rfl ?_
        refine g_goto (tgt := 68) dX9_isAlone_64 (by decide) ?_
        refine g_istore_n (n := 69) dX9_isAlone_68 (by decide) rfl rfl ?_
        refine g_lsN (ls' := [_, _, _, _]) rfl ?_
        refine g_iincN (k := 1) (n := 72) dX9_isAlone_69 rfl (by decide) rfl rfl ?_
        refine g_lsN (ls' := [_, _, _, _]) rfl ?_
        refine g_goto (tgt := 4) dX9_isAlone_72 (by decide) ?_
        exact ih
      ·
        have a2 : ¬ g = f := fun q => c20 (by rw [q])
        refine g_aload_n (n := 24) dX9_isAlone_23 rfl rfl ?_
        refine g_get (n := 27) fl_X9_22 dX9_isAlone_24 rfl rfl rfl ?_
        refine g_iconst (v := nI 1) (n := 28) dX9_isAlone_27 (by decide) rfl ?_
        refine g_ialdN (n := 29) dX9_isAlone_28 rfl rfl (by decide) (by omega) ?_
        refine g_top (sk_1 _) ?_
        refine g_iload_n (n := 30) dX9_isAlone_29 rfl rfl ?_
        refine g_callSi (n := 33) cs_X9_94 (t_X9_has l _ _) dX9_isAlone_30 rfl rfl ⟨by decide, by decide, rfl, rfl, hz.1, hz.2⟩ rfl (Nat.le_of_ble_eq_true rfl) rfl ?_
        refine g_if_eq (tgt := 63) (n := 36) dX9_isAlone_33 (by decide) rfl (fun c33 => ?_) (fun c33 => ?_)
        ·
          have e1 : bI (alN V S f (g + 1)) = nI 1 := by rw [alN, a1, decide_eq_false a2, bI_0.mp c33]; rfl
          rw [e1] at ih
          refine g_iconst (v := nI 1) (n := 64) dX9_isAlone_63 (by decide) rfl ?_
          refine g_goto (tgt := 68) dX9_isAlone_64 (by decide) ?_
          refine g_istore_n (n := 69) dX9_isAlone_68 (by decide) rfl rfl ?_
          refine g_lsN (ls' := [_, _, _, _]) rfl ?_
          refine g_iincN (k := 1) (n := 72) dX9_isAlone_69 rfl (by decide) rfl rfl ?_
          refine g_lsN (ls' := [_, _, _, _]) rfl ?_
          refine g_goto (tgt := 4) dX9_isAlone_72 (by decide) ?_
          exact ih
        ·
          have a3 := bI_n0.mp c33
          refine g_aload_n (n := 37) dX9_isAlone_36 rfl rfl ?_
          refine g_get (n := 40) fl_X9_22 dX9_isAlone_37 rfl rfl rfl ?_
          refine g_bipush (v := nI 9) (n := 42) dX9_isAlone_40 (by decide) rfl ?_
          refine g_iload_n (n := 43) dX9_isAlone_42 rfl rfl ?_
          refine g_iaddN (n := 44) dX9_isAlone_43 rfl ?_
          refine g_ialdN (n := 45) dX9_isAlone_44 rfl rfl (by decide) (by omega) ?_
          refine g_top (sk_bo _ (by omega)) ?_
          refine g_aload_n (n := 46) dX9_isAlone_45 rfl rfl ?_
          refine g_get (n := 49) fl_X9_22 dX9_isAlone_46 rfl rfl rfl ?_
          refine g_bipush (v := nI 9) (n := 51) dX9_isAlone_49 (by decide) rfl ?_
          refine g_iload_n (n := 52) dX9_isAlone_51 rfl rfl ?_
          refine g_iaddN (n := 53) dX9_isAlone_52 rfl ?_
          refine g_ialdN (n := 54) dX9_isAlone_53 rfl rfl (by decide) (by omega) ?_
          refine g_top (sk_bo _ (by omega)) ?_
          refine g_isub (n := 55) dX9_isAlone_54 rfl ?_
          refine g_iconst (v := (-1)) (n := 56) dX9_isAlone_55 (by decide) rfl ?_
          refine g_iconst (v := nI 1) (n := 57) dX9_isAlone_56 (by decide) rfl ?_
          refine g_callSi (n := 60) cs_X9_52 (t_X9_in l _ _ _) dX9_isAlone_57 rfl rfl ⟨by decide, by decide, rfl, rfl, hz.1, hz.2⟩ rfl (Nat.le_of_ble_eq_true rfl) rfl ?_
          refine g_if_ne (tgt := 67) (n := 63) dX9_isAlone_60 (by decide) rfl (fun c60 => ?_) (fun c60 => ?_)
          ·
            have e1 : bI (alN V S f (g + 1)) = nI 0 := by rw [alN, a1, decide_eq_false a2, a3, bI_n0.mp c60]; rfl
            rw [e1] at ih
            refine g_iconst (v := nI 0) (n := 68) dX9_isAlone_67 (by decide) rfl ?_
            refine g_istore_n (n := 69) dX9_isAlone_68 (by decide) rfl rfl ?_
            refine g_lsN (ls' := [_, _, _, _]) rfl ?_
            refine g_iincN (k := 1) (n := 72) dX9_isAlone_69 rfl (by decide) rfl rfl ?_
            refine g_lsN (ls' := [_, _, _, _]) rfl ?_
            refine g_goto (tgt := 4) dX9_isAlone_72 (by decide) ?_
            exact ih
          ·
            have e1 : bI (alN V S f (g + 1)) = nI 1 := by rw [alN, a1, decide_eq_false a2, a3, bI_0.mp c60]; rfl
            rw [e1] at ih
            refine g_iconst (v := nI 1) (n := 64) dX9_isAlone_63 (by decide) rfl ?_
            refine g_goto (tgt := 68) dX9_isAlone_64 (by decide) ?_
            refine g_istore_n (n := 69) dX9_isAlone_68 (by decide) rfl rfl ?_
            refine g_lsN (ls' := [_, _, _, _]) rfl ?_
            refine g_iincN (k := 1) (n := 72) dX9_isAlone_69 rfl (by decide) rfl rfl ?_
            refine g_lsN (ls' := [_, _, _, _]) rfl ?_
            refine g_goto (tgt := 4) dX9_isAlone_72 (by decide) ?_
            exact ih
set_option maxRecDepth 20000 in
theorem t_X9_isAlone (l : Launch) (e : MR) (V : WT) (S : ST) (hV : okV V) (f : Nat) (hf : f < vnf V) : Fn l M_X9_isAlone [.ref 0, .int (nI f)] (mw e (tk V) (pk S)) (some (.int (bI (alF V S f)))) (mw e (tk V) (pk S)) := by
  refine con_of rfl rfl (Nat.le_of_ble_eq_true rfl) ?_
  refine g_lsN (ls' := [_, _, _, _]) rfl ?_
  refine g_iconst (v := nI 1) (n := 1) dX9_isAlone_0 (by decide) rfl ?_
  refine g_istore_n (n := 2) dX9_isAlone_1 (by decide) rfl rfl ?_
  refine g_lsN (ls' := [_, _, _, _]) rfl ?_
  refine g_iconst (v := nI 0) (n := 3) dX9_isAlone_2 (by decide) rfl ?_
  refine g_istore_n (n := 4) dX9_isAlone_3 (by decide) rfl rfl ?_
  refine g_lsN (ls' := [_, _, _, _]) rfl ?_
  exact lp_X9_isAlone l _ ⟨Nat.zero_le _, Nat.zero_le _⟩ _ e V S hV f hf ⟨rfl, rfl⟩ 0 (Nat.zero_le _)
set_option maxRecDepth 20000 in
set_option maxHeartbeats 4000000 in
theorem lp4_X9_passes (l : Launch) (z : Nat × Nat × Nat) (hz : z.2.1 ≤ 0 ∧ z.2.2 ≤ 0) (Q : Option Value → List va_E → Prop) (e : MR) (V : WT) (S : ST) (hV : okV V) (hQ : Q none (mw e (tk V) (pk (psF V S)))) : ∀ f, f ≤ vnf V → ∀ (o5 : Option Value), G l M_X9_passes z Q 299 [some (.ref 0), some (.int (hdN V S (vnb V))), some (.int (twN V S (vnf V))), some (.int (flN V S (vnb V))), some (.int (nI f)), o5] [] (mw e (tk V) (pk (sho S, upN V S f, fa2 V S, ti2 V S, sbo S, un2 V S))) := by
  have hV1 := hV.1
  have hV2 := hV.2.1
  have hV3 := hV.2.2
  refine loopN (vnf V) ?_ (fun f hf ih => ?_)
  ·
    intro o5
    refine g_iload (n := 301) dX9_passes_299 rfl rfl ?_
    refine g_aload_n (n := 302) dX9_passes_301 rfl rfl ?_
    refine g_get (n := 305) fl_X9_13 dX9_passes_302 rfl rfl rfl ?_
    refine g_iconst (v := nI 1) (n := 306) dX9_passes_305 (by decide) rfl ?_
    refine g_ialdN (n := 307) dX9_passes_306 rfl rfl (by decide) (by omega) ?_
    refine g_top (tk_1 _) ?_
    refine g_icmp_ge (tgt := 413) (n := 310) dX9_passes_307 (by decide) rfl (fun c307 => ?_) (fun c307 => absurd (nI_le (Nat.le_refl _) (by omega)) c307)
    refine g_aload_n (n := 414) dX9_passes_413 rfl rfl ?_
    refine g_get (n := 417) fl_X9_22 dX9_passes_414 rfl rfl rfl ?_
    refine g_iconst (v := nI 0) (n := 418) dX9_passes_417 (by decide) rfl ?_
    refine g_dup2 (n := 419) dX9_passes_418 rfl rfl rfl ?_
    refine g_ialdN (n := 420) dX9_passes_419 rfl rfl (by decide) (by omega) ?_
    refine g_iconst (v := nI 1) (n := 421) dX9_passes_420 (by decide) rfl ?_
    refine g_iadd (n := 422) dX9_passes_421 rfl ?_
    refine g_iastN (n := 423) dX9_passes_422 rfl rfl (by decide) (by omega) ?_
    refine g_wN (w' := [_, _, _, _, _, _, _, _, _]) rfl ?_
    rw [sk_ho]
    exact g_vret dX9_passes_423 rfl hz hQ
  ·
    intro o5
    have J364 : ∀ (t : Bool), t = trd V S f → G l M_X9_passes z Q 364 [some (.ref 0), some (.int (hdN V S (vnb V))), some (.int (twN V S (vnf V))), some (.int (flN V S (vnb V))), some (.int (nI f)), o5] [.int (bI t)] (mw e (tk V) (pk (sho S, upN V S f, fa2 V S, ti2 V S, sbo S, un2 V S))) := by
      intro t ht
      refine g_istore (n := 366) dX9_passes_364 (by decide) rfl rfl ?_
      refine g_lsN (ls' := [_, _, _, _, _, _]) rfl ?_
      refine g_aload_n (n := 367) dX9_passes_366 rfl rfl ?_
      refine g_get (n := 370) fl_X9_22 dX9_passes_367 rfl rfl rfl ?_
      refine g_iconst (v := nI 1) (n := 371) dX9_passes_370 (by decide) rfl ?_
      refine g_dup2 (n := 372) dX9_passes_371 rfl rfl rfl ?_
      refine g_ialdN (n := 373) dX9_passes_372 rfl rfl (by decide) (by omega) ?_
      refine g_iload (n := 375) dX9_passes_373 rfl rfl ?_
      refine g_if_ne (tgt := 395) (n := 378) dX9_passes_375 (by decide) rfl (fun c375 => ?_) (fun c375 => ?_)
      ·
        have e1 : upN V S (f + 1) = upN V S f &&& ((nI 1 <<< (nI f &&& 31)) ^^^ (-1)) := by rw [upN, ← ht, bI_n0.mp c375]; rfl
        rw [e1] at ih
        refine g_iconst (v := nI 1) (n := 396) dX9_passes_395 (by decide) rfl ?_
        refine g_iload (n := 398) dX9_passes_396 rfl rfl ?_
        refine g_ishl (n := 399) dX9_passes_398 rfl ?_
        refine g_iconst (v := (-1)) (n := 400) dX9_passes_399 (by decide) rfl ?_
        refine g_ixor (n := 401) dX9_passes_400 rfl ?_
        refine g_goto (tgt := 405) dX9_passes_401 (by decide) ?_
        refine g_iand (n := 406) dX9_passes_405 rfl ?_
        refine g_iastN (n := 407) dX9_passes_406 rfl rfl (by decide) (by omega) ?_
        refine g_wN (w' := [_, _, _, _, _, _, _, _, _]) rfl ?_
        refine g_iincN (k := 1) (n := 410) dX9_passes_407 rfl (by decide) rfl rfl ?_
        refine g_lsN (ls' := [_, _, _, _, _, _]) rfl ?_
        refine g_goto (tgt := 299) dX9_passes_410 (by decide) ?_
        rw [← sk_up] at ih
        exact ih _
      ·
        have a1 := bI_0.mp c375
        refine g_aload_n (n := 379) dX9_passes_378 rfl rfl ?_
        refine g_aload_n (n := 380) dX9_passes_379 rfl rfl ?_
        refine g_get (n := 383) fl_X9_22 dX9_passes_380 rfl rfl rfl ?_
        refine g_bipush (v := nI 9) (n := 385) dX9_passes_383 (by decide) rfl ?_
        refine g_iload (n := 387) dX9_passes_385 rfl rfl ?_
        refine g_iaddN (n := 388) dX9_passes_387 rfl ?_
        refine g_ialdN (n := 389) dX9_passes_388 rfl rfl (by decide) (by omega) ?_
        refine g_top (sk_bo _ (by omega)) ?_
        refine g_callWi (n := 392) cv_X9_98 (t_X9_hasFallen l _ _ _ _) dX9_passes_389 rfl ⟨by decide, by decide, rfl, rfl, hz.1, hz.2⟩ rfl rfl rfl (Nat.le_of_ble_eq_true rfl) rfl rfl ?_
        refine g_if_eq (tgt := 404) (n := 395) dX9_passes_392 (by decide) rfl (fun c392 => ?_) (fun c392 => ?_)
        ·
          have e1 : upN V S (f + 1) = upN V S f &&& (-1) := by rw [upN, ← ht, a1, bI_0.mp c392]; rfl
          rw [e1] at ih
          refine g_iconst (v := (-1)) (n := 405) dX9_passes_404 (by decide) rfl ?_
          refine g_iand (n := 406) dX9_passes_405 rfl ?_
          refine g_iastN (n := 407) dX9_passes_406 rfl rfl (by decide) (by omega) ?_
          refine g_wN (w' := [_, _, _, _, _, _, _, _, _]) rfl ?_
          refine g_iincN (k := 1) (n := 410) dX9_passes_407 rfl (by decide) rfl rfl ?_
          refine g_lsN (ls' := [_, _, _, _, _, _]) rfl ?_
          refine g_goto (tgt := 299) dX9_passes_410 (by decide) ?_
          rw [← sk_up] at ih
          exact ih _
        ·
          have e1 : upN V S (f + 1) = upN V S f &&& ((nI 1 <<< (nI f &&& 31)) ^^^ (-1)) := by rw [upN, ← ht, a1, bI_n0.mp c392]; rfl
          rw [e1] at ih
          refine g_iconst (v := nI 1) (n := 396) dX9_passes_395 (by decide) rfl ?_
          refine g_iload (n := 398) dX9_passes_396 rfl rfl ?_
          refine g_ishl (n := 399) dX9_passes_398 rfl ?_
          refine g_iconst (v := (-1)) (n := 400) dX9_passes_399 (by decide) rfl ?_
          refine g_ixor (n := 401) dX9_passes_400 rfl ?_
          refine g_goto (tgt := 405) dX9_passes_401 (by decide) ?_
          refine g_iand (n := 406) dX9_passes_405 rfl ?_
          refine g_iastN (n := 407) dX9_passes_406 rfl rfl (by decide) (by omega) ?_
          refine g_wN (w' := [_, _, _, _, _, _, _, _, _]) rfl ?_
          refine g_iincN (k := 1) (n := 410) dX9_passes_407 rfl (by decide) rfl rfl ?_
          refine g_lsN (ls' := [_, _, _, _, _, _]) rfl ?_
          refine g_goto (tgt := 299) dX9_passes_410 (by decide) ?_
          rw [← sk_up] at ih
          exact ih _
    have t2 : ti2 V S f = tiF V S f := by show mix _ _ _ _ = _; unfold mix; rw [if_pos hf]
    refine g_iload (n := 301) dX9_passes_299 rfl rfl ?_
    refine g_aload_n (n := 302) dX9_passes_301 rfl rfl ?_
    refine g_get (n := 305) fl_X9_13 dX9_passes_302 rfl rfl rfl ?_
    refine g_iconst (v := nI 1) (n := 306) dX9_passes_305 (by decide) rfl ?_
    refine g_ialdN (n := 307) dX9_passes_306 rfl rfl (by decide) (by omega) ?_
    refine g_top (tk_1 _) ?_
    refine g_icmp_ge (tgt := 413) (n := 310) dX9_passes_307 (by decide) rfl (fun c307 => absurd c307 (nI_ge hf (by omega))) (fun c307 => ?_)
    refine g_aload_n (n := 311) dX9_passes_310 rfl rfl ?_
    refine g_get (n := 314) fl_X9_22 dX9_passes_311 rfl rfl rfl ?_
    refine g_iconst (v := nI 3) (n := 315) dX9_passes_314 (by decide) rfl ?_
    refine g_iload (n := 317) dX9_passes_315 rfl rfl ?_
    refine g_iaddN (n := 318) dX9_passes_317 rfl ?_
    refine g_ialdN (n := 319) dX9_passes_318 rfl rfl (by decide) (by omega) ?_
    refine g_top (sk_ti _ (by omega)) ?_
    refine g_top t2 ?_
    refine g_aload_n (n := 320) dX9_passes_319 rfl rfl ?_
    refine g_get (n := 323) fl_X9_13 dX9_passes_320 rfl rfl rfl ?_
    refine g_bipush (v := nI 32) (n := 325) dX9_passes_323 (by decide) rfl ?_
    refine g_iload (n := 327) dX9_passes_325 rfl rfl ?_
    refine g_iaddN (n := 328) dX9_passes_327 rfl ?_
    refine g_ialdN (n := 329) dX9_passes_328 rfl rfl (by decide) (by omega) ?_
    refine g_top (tk_kn _ (by omega)) ?_
    refine g_icmp_le (tgt := 363) (n := 332) dX9_passes_329 (by decide) rfl (fun c329 => ?_) (fun c329 => ?_)
    ·
      have e0 : false = trd V S f := by unfold trd; rw [decide_eq_true c329]; rfl
      refine g_iconst (v := nI 0) (n := 364) dX9_passes_363 (by decide) rfl ?_
      exact J364 _ e0
    ·
      have a1 := decide_eq_false c329
      refine g_aload_n (n := 333) dX9_passes_332 rfl rfl ?_
      refine g_get (n := 336) fl_X9_13 dX9_passes_333 rfl rfl rfl ?_
      refine g_bipush (v := nI 20) (n := 338) dX9_passes_336 (by decide) rfl ?_
      refine g_iload (n := 340) dX9_passes_338 rfl rfl ?_
      refine g_iaddN (n := 341) dX9_passes_340 rfl ?_
      refine g_ialdN (n := 342) dX9_passes_341 rfl rfl (by decide) (by omega) ?_
      refine g_top (tk_ki _ (by omega)) ?_
      refine g_iconst (v := nI 3) (n := 343) dX9_passes_342 (by decide) rfl ?_
      refine g_icmp_ne (tgt := 359) (n := 346) dX9_passes_343 (by decide) rfl (fun c343 => ?_) (fun c343 => ?_)
      ·
        have e0 : true = trd V S f := by unfold trd; rw [a1, decide_eq_false c343]; rfl
        refine g_iconst (v := nI 1) (n := 360) dX9_passes_359 (by decide) rfl ?_
        refine g_goto (tgt := 364) dX9_passes_360 (by decide) ?_
        exact J364 _ e0
      ·
        have a2 := decide_eq_true c343
        refine g_aload_n (n := 347) dX9_passes_346 rfl rfl ?_
        refine g_aload_n (n := 348) dX9_passes_347 rfl rfl ?_
        refine g_get (n := 351) fl_X9_22 dX9_passes_348 rfl rfl rfl ?_
        refine g_iconst (v := nI 0) (n := 352) dX9_passes_351 (by decide) rfl ?_
        refine g_ialdN (n := 353) dX9_passes_352 rfl rfl (by decide) (by omega) ?_
        refine g_top (sk_0 _) ?_
        refine g_callWi (n := 356) cv_X9_122 (t_X9_areCarts l _ _ _ hV _) dX9_passes_353 rfl ⟨by decide, by decide, rfl, rfl, hz.1, hz.2⟩ rfl rfl rfl (Nat.le_of_ble_eq_true rfl) rfl rfl ?_
        refine g_if_ne (tgt := 363) (n := 359) dX9_passes_356 (by decide) rfl (fun c356 => ?_) (fun c356 => ?_)
        ·
          have e0 : false = trd V S f := by unfold trd; rw [a1, a2, bI_n0.mp c356]; rfl
          refine g_iconst (v := nI 0) (n := 364) dX9_passes_363 (by decide) rfl ?_
          exact J364 _ e0
        ·
          have e0 : true = trd V S f := by unfold trd; rw [a1, a2, bI_0.mp c356]; rfl
          refine g_iconst (v := nI 1) (n := 360) dX9_passes_359 (by decide) rfl ?_
          refine g_goto (tgt := 364) dX9_passes_360 (by decide) ?_
          exact J364 _ e0
set_option maxRecDepth 20000 in
set_option maxHeartbeats 4000000 in
theorem lp3_X9_passes (l : Launch) (z : Nat × Nat × Nat) (hz : z.2.1 ≤ 0 ∧ z.2.2 ≤ 0) (Q : Option Value → List va_E → Prop) (e : MR) (V : WT) (S : ST) (hV : okV V) (hQ : Q none (mw e (tk V) (pk (psF V S)))) : ∀ b, b ≤ vnb V → ∀ (o5 : Option Value), G l M_X9_passes z Q 191 [some (.ref 0), some (.int (hdN V S (vnb V))), some (.int (twN V S (vnf V))), some (.int (flN V S b)), some (.int (nI b)), o5] [] (mw e (tk V) (pk (sho S, sup S, sfa S, ti2 V S, sbo S, mix (unF V S) (sun S) b))) := by
  have hV1 := hV.1
  have hV2 := hV.2.1
  have hV3 := hV.2.2
  refine loopN (vnb V) ?_ (fun b hb_ ih => ?_)
  ·
    intro o5
    refine g_iload (n := 193) dX9_passes_191 rfl rfl ?_
    refine g_aload_n (n := 194) dX9_passes_193 rfl rfl ?_
    refine g_get (n := 197) fl_X9_13 dX9_passes_194 rfl rfl rfl ?_
    refine g_iconst (v := nI 0) (n := 198) dX9_passes_197 (by decide) rfl ?_
    refine g_ialdN (n := 199) dX9_passes_198 rfl rfl (by decide) (by omega) ?_
    refine g_top (tk_0 _) ?_
    refine g_icmp_ge (tgt := 286) (n := 202) dX9_passes_199 (by decide) rfl (fun c199 => ?_) (fun c199 => absurd (nI_le (Nat.le_refl _) (by omega)) c199)
    refine g_aload_n (n := 287) dX9_passes_286 rfl rfl ?_
    refine g_get (n := 290) fl_X9_22 dX9_passes_287 rfl rfl rfl ?_
    refine g_iconst (v := nI 2) (n := 291) dX9_passes_290 (by decide) rfl ?_
    refine g_dup2 (n := 292) dX9_passes_291 rfl rfl rfl ?_
    refine g_ialdN (n := 293) dX9_passes_292 rfl rfl (by decide) (by omega) ?_
    refine g_iload_n (n := 294) dX9_passes_293 rfl rfl ?_
    refine g_ior (n := 295) dX9_passes_294 rfl ?_
    refine g_iastN (n := 296) dX9_passes_295 rfl rfl (by decide) (by omega) ?_
    refine g_wN (w' := [_, _, _, _, _, _, _, _, _]) rfl ?_
    rw [sk_fa]
    refine g_iconst (v := nI 0) (n := 297) dX9_passes_296 (by decide) rfl ?_
    refine g_istore (n := 299) dX9_passes_297 (by decide) rfl rfl ?_
    refine g_lsN (ls' := [_, _, _, _, _, _]) rfl ?_
    exact lp4_X9_passes l z hz Q e V S hV hQ 0 (Nat.zero_le _) _
  ·
    intro o5
    have J245 : ∀ (x : Int32), hb (sfa S) (nI b) = false → x = unF V S b → G l M_X9_passes z Q 245 [some (.ref 0), some (.int (hdN V S (vnb V))), some (.int (twN V S (vnf V))), some (.int (flN V S b)), some (.int (nI b)), o5] [.int x, .int (nI (15 + b)), .ref 5] (mw e (tk V) (pk (sho S, sup S, sfa S, ti2 V S, sbo S, mix (unF V S) (sun S) b))) := by
      intro x hn hx
      refine g_iastN (n := 246) dX9_passes_245 rfl rfl (by decide) (by omega) ?_
      refine g_wN (w' := [_, _, _, _, _, _, _, _, _]) rfl ?_
      rw [sk_uun _ _ _ _ _ _ _ (by omega), hx, mix_s]
      refine g_iload_n (n := 247) dX9_passes_246 rfl rfl ?_
      refine g_aload_n (n := 248) dX9_passes_247 rfl rfl ?_
      refine g_get (n := 251) fl_X9_22 dX9_passes_248 rfl rfl rfl ?_
      refine g_bipush (v := nI 15) (n := 253) dX9_passes_251 (by decide) rfl ?_
      refine g_iload (n := 255) dX9_passes_253 rfl rfl ?_
      refine g_iaddN (n := 256) dX9_passes_255 rfl ?_
      refine g_ialdN (n := 257) dX9_passes_256 rfl rfl (by decide) (by omega) ?_
      refine g_top (sk_un _ (by omega)) ?_
      refine g_top (y := unF V S b) (by show mix _ _ _ _ = _; unfold mix; rw [if_pos (by omega)]) ?_
      refine g_aload_n (n := 258) dX9_passes_257 rfl rfl ?_
      refine g_get (n := 261) fl_X9_13 dX9_passes_258 rfl rfl rfl ?_
      refine g_bipush (v := nI 12) (n := 263) dX9_passes_261 (by decide) rfl ?_
      refine g_iload (n := 265) dX9_passes_263 rfl rfl ?_
      refine g_iaddN (n := 266) dX9_passes_265 rfl ?_
      refine g_ialdN (n := 267) dX9_passes_266 rfl rfl (by decide) (by omega) ?_
      refine g_top (tk_pa _ (by omega)) ?_
      refine g_icmp_le (tgt := 277) (n := 270) dX9_passes_267 (by decide) rfl (fun c267 => ?_) (fun c267 => ?_)
      ·
        have e1 : flN V S (b + 1) = flN V S b ||| nI 0 := by rw [flN, hn, if_neg Bool.false_ne_true, if_pos c267]
        rw [e1] at ih
        refine g_iconst (v := nI 0) (n := 278) dX9_passes_277 (by decide) rfl ?_
        refine g_ior (n := 279) dX9_passes_278 rfl ?_
        refine g_istore_n (n := 280) dX9_passes_279 (by decide) rfl rfl ?_
        refine g_lsN (ls' := [_, _, _, _, _, _]) rfl ?_
        refine g_iincN (k := 1) (n := 283) dX9_passes_280 rfl (by decide) rfl rfl ?_
        refine g_lsN (ls' := [_, _, _, _, _, _]) rfl ?_
        refine g_goto (tgt := 191) dX9_passes_283 (by decide) ?_
        exact ih _
      ·
        have e1 : flN V S (b + 1) = flN V S b ||| nI 1 <<< (nI b &&& 31) := by rw [flN, hn, if_neg Bool.false_ne_true, if_neg c267]
        rw [e1] at ih
        refine g_iconst (v := nI 1) (n := 271) dX9_passes_270 (by decide) rfl ?_
        refine g_iload (n := 273) dX9_passes_271 rfl rfl ?_
        refine g_ishl (n := 274) dX9_passes_273 rfl ?_
        refine g_goto (tgt := 278) dX9_passes_274 (by decide) ?_
        refine g_ior (n := 279) dX9_passes_278 rfl ?_
        refine g_istore_n (n := 280) dX9_passes_279 (by decide) rfl rfl ?_
        refine g_lsN (ls' := [_, _, _, _, _, _]) rfl ?_
        refine g_iincN (k := 1) (n := 283) dX9_passes_280 rfl (by decide) rfl rfl ?_
        refine g_lsN (ls' := [_, _, _, _, _, _]) rfl ?_
        refine g_goto (tgt := 191) dX9_passes_283 (by decide) ?_
        exact ih _
    refine g_iload (n := 193) dX9_passes_191 rfl rfl ?_
    refine g_aload_n (n := 194) dX9_passes_193 rfl rfl ?_
    refine g_get (n := 197) fl_X9_13 dX9_passes_194 rfl rfl rfl ?_
    refine g_iconst (v := nI 0) (n := 198) dX9_passes_197 (by decide) rfl ?_
    refine g_ialdN (n := 199) dX9_passes_198 rfl rfl (by decide) (by omega) ?_
    refine g_top (tk_0 _) ?_
    refine g_icmp_ge (tgt := 286) (n := 202) dX9_passes_199 (by decide) rfl (fun c199 => absurd c199 (nI_ge hb_ (by omega))) (fun c199 => ?_)
    refine g_aload_n (n := 203) dX9_passes_202 rfl rfl ?_
    refine g_iload (n := 205) dX9_passes_203 rfl rfl ?_
    refine g_callWi (n := 208) cv_X9_98 (t_X9_hasFallen l _ _ _ _) dX9_passes_205 rfl ⟨by decide, by decide, rfl, rfl, hz.1, hz.2⟩ rfl rfl rfl (Nat.le_of_ble_eq_true rfl) rfl rfl ?_
    refine g_if_ne (tgt := 280) (n := 211) dX9_passes_208 (by decide) rfl (fun c208 => ?_) (fun c208 => ?_)
    ·
      have e1 : flN V S (b + 1) = flN V S b := by rw [flN, bI_n0.mp c208]; rfl
      have e2 : mix (unF V S) (sun S) (b + 1) = mix (unF V S) (sun S) b := mix_e (by unfold unF; rw [bI_n0.mp c208]; rfl)
      rw [e1, e2] at ih
      refine g_iincN (k := 1) (n := 283) dX9_passes_280 rfl (by decide) rfl rfl ?_
      refine g_lsN (ls' := [_, _, _, _, _, _]) rfl ?_
      refine g_goto (tgt := 191) dX9_passes_283 (by decide) ?_
      exact ih _
    ·
      have a1 := bI_0.mp c208
      refine g_aload_n (n := 212) dX9_passes_211 rfl rfl ?_
      refine g_get (n := 215) fl_X9_22 dX9_passes_212 rfl rfl rfl ?_
      refine g_bipush (v := nI 15) (n := 217) dX9_passes_215 (by decide) rfl ?_
      refine g_iload (n := 219) dX9_passes_217 rfl rfl ?_
      refine g_iaddN (n := 220) dX9_passes_219 rfl ?_
      refine g_iload_n (n := 221) dX9_passes_220 rfl rfl ?_
      refine g_iload (n := 223) dX9_passes_221 rfl rfl ?_
      refine g_callSi (n := 226) cs_X9_94 (t_X9_has l _ _) dX9_passes_223 rfl rfl ⟨by decide, by decide, rfl, rfl, hz.1, hz.2⟩ rfl (Nat.le_of_ble_eq_true rfl) rfl ?_
      refine g_if_eq (tgt := 233) (n := 229) dX9_passes_226 (by decide) rfl (fun c226 => ?_) (fun c226 => ?_)
      ·
        have a2 := bI_0.mp c226
        refine g_aload_n (n := 234) dX9_passes_233 rfl rfl ?_
        refine g_get (n := 237) fl_X9_22 dX9_passes_234 rfl rfl rfl ?_
        refine g_bipush (v := nI 15) (n := 239) dX9_passes_237 (by decide) rfl ?_
        refine g_iload (n := 241) dX9_passes_239 rfl rfl ?_
        refine g_iaddN (n := 242) dX9_passes_241 rfl ?_
        refine g_ialdN (n := 243) dX9_passes_242 rfl rfl (by decide) (by omega) ?_
        refine g_top (sk_un _ (by omega)) ?_
        refine g_top (mix_at _ _ _) ?_
        refine g_iconst (v := nI 1) (n := 244) dX9_passes_243 (by decide) rfl ?_
        refine g_iadd (n := 245) dX9_passes_244 rfl ?_
        have e0 : sun S b + nI 1 = unF V S b := by unfold unF; rw [a1, if_neg Bool.false_ne_true, a2]; rfl
        exact J245 _ a1 e0
      ·
        have e0 : nI 0 = unF V S b := by unfold unF; rw [a1, if_neg Bool.false_ne_true, bI_n0.mp c226]; rfl
        refine g_iconst (v := nI 0) (n := 230) dX9_passes_229 (by decide) rfl ?_
        refine g_goto (tgt := 245) dX9_passes_230 (by decide) ?_
        exact J245 _ a1 e0
set_option maxRecDepth 20000 in
set_option maxHeartbeats 4000000 in
theorem lp2_X9_passes (l : Launch) (z : Nat × Nat × Nat) (hz : z.2.1 ≤ 0 ∧ z.2.2 ≤ 0) (Q : Option Value → List va_E → Prop) (e : MR) (V : WT) (S : ST) (hV : okV V) (hQ : Q none (mw e (tk V) (pk (psF V S)))) : ∀ f, f ≤ vnf V → ∀ (o4 o5 : Option Value), G l M_X9_passes z Q 68 [some (.ref 0), some (.int (hdN V S (vnb V))), some (.int (twN V S (vnf V))), some (.int (nI f)), o4, o5] [] (mw e (tk V) (pk (sho S, sup S, sfa S, mix (tiF V S) (sti S) f, sbo S, sun S))) := by
  have hV1 := hV.1
  have hV2 := hV.2.1
  have hV3 := hV.2.2
  refine loopN (vnf V) ?_ (fun f hf ih => ?_)
  ·
    intro o4 o5
    refine g_iload_n (n := 69) dX9_passes_68 rfl rfl ?_
    refine g_aload_n (n := 70) dX9_passes_69 rfl rfl ?_
    refine g_get (n := 73) fl_X9_13 dX9_passes_70 rfl rfl rfl ?_
    refine g_iconst (v := nI 1) (n := 74) dX9_passes_73 (by decide) rfl ?_
    refine g_ialdN (n := 75) dX9_passes_74 rfl rfl (by decide) (by omega) ?_
    refine g_top (tk_1 _) ?_
    refine g_icmp_ge (tgt := 186) (n := 78) dX9_passes_75 (by decide) rfl (fun c75 => ?_) (fun c75 => absurd (nI_le (Nat.le_refl _) (by omega)) c75)
    refine g_iconst (v := nI 0) (n := 187) dX9_passes_186 (by decide) rfl ?_
    refine g_istore_n (n := 188) dX9_passes_187 (by decide) rfl rfl ?_
    refine g_lsN (ls' := [_, _, _, _, _, _]) rfl ?_
    refine g_iconst (v := nI 0) (n := 189) dX9_passes_188 (by decide) rfl ?_
    refine g_istore (n := 191) dX9_passes_189 (by decide) rfl rfl ?_
    refine g_lsN (ls' := [_, _, _, _, _, _]) rfl ?_
    have h3 := lp3_X9_passes l z hz Q e V S hV hQ 0 (Nat.zero_le _)
    rw [mix_0] at h3
    exact h3 _
  ·
    intro o4 o5
    have J128 : ∀ (o5 : Option Value), G l M_X9_passes z Q 128 [some (.ref 0), some (.int (hdN V S (vnb V))), some (.int (twN V S (vnf V))), some (.int (nI f)), some (.int (rsF V S f)), o5] [.int (if hb (twN V S (vnf V)) (nI f) then nI 2 else nI 1), .int (sti S f)] (mw e (tk V) (pk (sho S, sup S, sfa S, mix (tiF V S) (sti S) f, sbo S, sun S))) := by
      intro o5
      refine g_iadd (n := 129) dX9_passes_128 rfl ?_
      refine g_top (y := moF V S f) rfl ?_
      refine g_istore (n := 131) dX9_passes_129 (by decide) rfl rfl ?_
      refine g_lsN (ls' := [_, _, _, _, _, _]) rfl ?_
      refine g_aload_n (n := 132) dX9_passes_131 rfl rfl ?_
      refine g_get (n := 135) fl_X9_22 dX9_passes_132 rfl rfl rfl ?_
      refine g_iconst (v := nI 3) (n := 136) dX9_passes_135 (by decide) rfl ?_
      refine g_iload_n (n := 137) dX9_passes_136 rfl rfl ?_
      refine g_iaddN (n := 138) dX9_passes_137 rfl ?_
      refine g_aload_n (n := 139) dX9_passes_138 rfl rfl ?_
      refine g_get (n := 142) fl_X9_22 dX9_passes_139 rfl rfl rfl ?_
      refine g_iconst (v := nI 1) (n := 143) dX9_passes_142 (by decide) rfl ?_
      refine g_ialdN (n := 144) dX9_passes_143 rfl rfl (by decide) (by omega) ?_
      refine g_top (sk_1 _) ?_
      refine g_iload_n (n := 145) dX9_passes_144 rfl rfl ?_
      refine g_callSi (n := 148) cs_X9_94 (t_X9_has l _ _) dX9_passes_145 rfl rfl ⟨by decide, by decide, rfl, rfl, hz.1, hz.2⟩ rfl (Nat.le_of_ble_eq_true rfl) rfl ?_
      refine g_if_eq (tgt := 168) (n := 151) dX9_passes_148 (by decide) rfl (fun c148 => ?_) (fun c148 => ?_)
      ·
        have a1 := bI_0.mp c148
        refine g_iload (n := 170) dX9_passes_168 rfl rfl ?_
        refine g_if_ge (tgt := 177) (n := 173) dX9_passes_170 (by decide) rfl (fun c170 => ?_) (fun c170 => ?_)
        ·
          have e1 : rsF V S f = tiF V S f := by rw [tiF, a1, if_neg Bool.false_ne_true, if_pos c170]
          refine g_iload (n := 179) dX9_passes_177 rfl rfl ?_
          refine g_iastN (n := 180) dX9_passes_179 rfl rfl (by decide) (by omega) ?_
          refine g_wN (w' := [_, _, _, _, _, _, _, _, _]) rfl ?_
          rw [sk_uti _ _ _ _ _ _ _ (by omega), e1, mix_s]
          refine g_iincN (k := 1) (n := 183) dX9_passes_180 rfl (by decide) rfl rfl ?_
          refine g_lsN (ls' := [_, _, _, _, _, _]) rfl ?_
          refine g_goto (tgt := 68) dX9_passes_183 (by decide) ?_
          exact ih _ _
        ·
          have e1 : nI 0 = tiF V S f := by rw [tiF, a1, if_neg Bool.false_ne_true, if_neg c170]
          refine g_iconst (v := nI 0) (n := 174) dX9_passes_173 (by decide) rfl ?_
          refine g_goto (tgt := 179) dX9_passes_174 (by decide) ?_
          refine g_iastN (n := 180) dX9_passes_179 rfl rfl (by decide) (by omega) ?_
          refine g_wN (w' := [_, _, _, _, _, _, _, _, _]) rfl ?_
          rw [sk_uti _ _ _ _ _ _ _ (by omega), e1, mix_s]
          refine g_iincN (k := 1) (n := 183) dX9_passes_180 rfl (by decide) rfl rfl ?_
          refine g_lsN (ls' := [_, _, _, _, _, _]) rfl ?_
          refine g_goto (tgt := 68) dX9_passes_183 (by decide) ?_
          exact ih _ _
      ·
        have a1 := bI_n0.mp c148
        refine g_iload (n := 153) dX9_passes_151 rfl rfl ?_
        refine g_bipush (v := nI 99) (n := 155) dX9_passes_153 (by decide) rfl ?_
        refine g_icmp_le (tgt := 163) (n := 158) dX9_passes_155 (by decide) rfl (fun c155 => ?_) (fun c155 => ?_)
        ·
          have e1 : moF V S f = tiF V S f := by rw [tiF, a1, if_pos rfl, if_pos c155]
          refine g_iload (n := 165) dX9_passes_163 rfl rfl ?_
          refine g_goto (tgt := 179) dX9_passes_165 (by decide) ?_
          refine g_iastN (n := 180) dX9_passes_179 rfl rfl (by decide) (by omega) ?_
          refine g_wN (w' := [_, _, _, _, _, _, _, _, _]) rfl ?_
          rw [sk_uti _ _ _ _ _ _ _ (by omega), e1, mix_s]
          refine g_iincN (k := 1) (n := 183) dX9_passes_180 rfl (by decide) rfl rfl ?_
          refine g_lsN (ls' := [_, _, _, _, _, _]) rfl ?_
          refine g_goto (tgt := 68) dX9_passes_183 (by decide) ?_
          exact ih _ _
        ·
          have e1 : nI 99 = tiF V S f := by rw [tiF, a1, if_pos rfl, if_neg c155]
          refine g_bipush (v := nI 99) (n := 160) dX9_passes_158 (by decide) rfl ?_
          refine g_goto (tgt := 179) dX9_passes_160 (by decide) ?_
          refine g_iastN (n := 180) dX9_passes_179 rfl rfl (by decide) (by omega) ?_
          refine g_wN (w' := [_, _, _, _, _, _, _, _, _]) rfl ?_
          rw [sk_uti _ _ _ _ _ _ _ (by omega), e1, mix_s]
          refine g_iincN (k := 1) (n := 183) dX9_passes_180 rfl (by decide) rfl rfl ?_
          refine g_lsN (ls' := [_, _, _, _, _, _]) rfl ?_
          refine g_goto (tgt := 68) dX9_passes_183 (by decide) ?_
          exact ih _ _
    have J104 : ∀ (o4 o5 : Option Value), G l M_X9_passes z Q 104 [some (.ref 0), some (.int (hdN V S (vnb V))), some (.int (twN V S (vnf V))), some (.int (nI f)), o4, o5] [.int (if vki V f = nI 2 then nI 1 else nI 2), .int (sti S f)] (mw e (tk V) (pk (sho S, sup S, sfa S, mix (tiF V S) (sti S) f, sbo S, sun S))) := by
      intro o4 o5
      refine g_isub (n := 105) dX9_passes_104 rfl ?_
      refine g_top (y := rsF V S f) rfl ?_
      refine g_istore (n := 107) dX9_passes_105 (by decide) rfl rfl ?_
      refine g_lsN (ls' := [_, _, _, _, _, _]) rfl ?_
      refine g_aload_n (n := 108) dX9_passes_107 rfl rfl ?_
      refine g_get (n := 111) fl_X9_22 dX9_passes_108 rfl rfl rfl ?_
      refine g_iconst (v := nI 3) (n := 112) dX9_passes_111 (by decide) rfl ?_
      refine g_iload_n (n := 113) dX9_passes_112 rfl rfl ?_
      refine g_iaddN (n := 114) dX9_passes_113 rfl ?_
      refine g_ialdN (n := 115) dX9_passes_114 rfl rfl (by decide) (by omega) ?_
      refine g_top (sk_ti _ (by omega)) ?_
      refine g_top (mix_at _ _ _) ?_
      refine g_iload_n (n := 116) dX9_passes_115 rfl rfl ?_
      refine g_iload_n (n := 117) dX9_passes_116 rfl rfl ?_
      refine g_callSi (n := 120) cs_X9_94 (t_X9_has l _ _) dX9_passes_117 rfl rfl ⟨by decide, by decide, rfl, rfl, hz.1, hz.2⟩ rfl (Nat.le_of_ble_eq_true rfl) rfl ?_
      refine g_if_eq (tgt := 127) (n := 123) dX9_passes_120 (by decide) rfl (fun c120 => ?_) (fun c120 => ?_)
      ·
        rw [bI_0.mp c120] at J128
        refine g_iconst (v := nI 1) (n := 128) dX9_passes_127 (by decide) rfl ?_
        exact J128 _
      ·
        rw [bI_n0.mp c120] at J128
        refine g_iconst (v := nI 2) (n := 124) dX9_passes_123 (by decide) rfl ?_
        refine g_goto (tgt := 128) dX9_passes_124 (by decide) ?_
        exact J128 _
    refine g_iload_n (n := 69) dX9_passes_68 rfl rfl ?_
    refine g_aload_n (n := 70) dX9_passes_69 rfl rfl ?_
    refine g_get (n := 73) fl_X9_13 dX9_passes_70 rfl rfl rfl ?_
    refine g_iconst (v := nI 1) (n := 74) dX9_passes_73 (by decide) rfl ?_
    refine g_ialdN (n := 75) dX9_passes_74 rfl rfl (by decide) (by omega) ?_
    refine g_top (tk_1 _) ?_
    refine g_icmp_ge (tgt := 186) (n := 78) dX9_passes_75 (by decide) rfl (fun c75 => absurd c75 (nI_ge hf (by omega))) (fun c75 => ?_)
    refine g_aload_n (n := 79) dX9_passes_78 rfl rfl ?_
    refine g_get (n := 82) fl_X9_22 dX9_passes_79 rfl rfl rfl ?_
    refine g_iconst (v := nI 3) (n := 83) dX9_passes_82 (by decide) rfl ?_
    refine g_iload_n (n := 84) dX9_passes_83 rfl rfl ?_
    refine g_iaddN (n := 85) dX9_passes_84 rfl ?_
    refine g_ialdN (n := 86) dX9_passes_85 rfl rfl (by decide) (by omega) ?_
    refine g_top (sk_ti _ (by omega)) ?_
    refine g_top (mix_at _ _ _) ?_
    refine g_aload_n (n := 87) dX9_passes_86 rfl rfl ?_
    refine g_get (n := 90) fl_X9_13 dX9_passes_87 rfl rfl rfl ?_
    refine g_bipush (v := nI 20) (n := 92) dX9_passes_90 (by decide) rfl ?_
    refine g_iload_n (n := 93) dX9_passes_92 rfl rfl ?_
    refine g_iaddN (n := 94) dX9_passes_93 rfl ?_
    refine g_ialdN (n := 95) dX9_passes_94 rfl rfl (by decide) (by omega) ?_
    refine g_top (tk_ki _ (by omega)) ?_
    refine g_iconst (v := nI 2) (n := 96) dX9_passes_95 (by decide) rfl ?_
    refine g_icmp_ne (tgt := 103) (n := 99) dX9_passes_96 (by decide) rfl (fun c96 => ?_) (fun c96 => ?_)
    ·
      rw [if_neg c96] at J104
      refine g_iconst (v := nI 2) (n := 104) dX9_passes_103 (by decide) rfl ?_
      exact J104 _ _
    ·
      rw [if_pos c96] at J104
      refine g_iconst (v := nI 1) (n := 100) dX9_passes_99 (by decide) rfl ?_
      refine g_goto (tgt := 104) dX9_passes_100 (by decide) ?_
      exact J104 _ _
set_option maxRecDepth 20000 in
set_option maxHeartbeats 4000000 in
theorem lp1_X9_passes (l : Launch) (z : Nat × Nat × Nat) (hz : z.2.1 ≤ 0 ∧ z.2.2 ≤ 0) (Q : Option Value → List va_E → Prop) (e : MR) (V : WT) (S : ST) (hV : okV V) (hQ : Q none (mw e (tk V) (pk (psF V S)))) : ∀ f, f ≤ vnf V → ∀ (o4 o5 : Option Value), G l M_X9_passes z Q 9 [some (.ref 0), some (.int (hdN V S (vnb V))), some (.int (twN V S f)), some (.int (nI f)), o4, o5] [] (mw e (tk V) (pk S)) := by
  have hV1 := hV.1
  have hV2 := hV.2.1
  have hV3 := hV.2.2
  refine loopN (vnf V) ?_ (fun f hf ih => ?_)
  ·
    intro o4 o5
    refine g_iload_n (n := 10) dX9_passes_9 rfl rfl ?_
    refine g_aload_n (n := 11) dX9_passes_10 rfl rfl ?_
    refine g_get (n := 14) fl_X9_13 dX9_passes_11 rfl rfl rfl ?_
    refine g_iconst (v := nI 1) (n := 15) dX9_passes_14 (by decide) rfl ?_
    refine g_ialdN (n := 16) dX9_passes_15 rfl rfl (by decide) (by omega) ?_
    refine g_top (tk_1 _) ?_
    refine g_icmp_ge (tgt := 66) (n := 19) dX9_passes_16 (by decide) rfl (fun c16 => ?_) (fun c16 => absurd (nI_le (Nat.le_refl _) (by omega)) c16)
    refine g_iconst (v := nI 0) (n := 67) dX9_passes_66 (by decide) rfl ?_
    refine g_istore_n (n := 68) dX9_passes_67 (by decide) rfl rfl ?_
    refine g_lsN (ls' := [_, _, _, _, _, _]) rfl ?_
    have h3 := lp2_X9_passes l z hz Q e V S hV hQ 0 (Nat.zero_le _)
    rw [mix_0] at h3
    exact h3 _ _
  ·
    intro o4 o5
    refine g_iload_n (n := 10) dX9_passes_9 rfl rfl ?_
    refine g_aload_n (n := 11) dX9_passes_10 rfl rfl ?_
    refine g_get (n := 14) fl_X9_13 dX9_passes_11 rfl rfl rfl ?_
    refine g_iconst (v := nI 1) (n := 15) dX9_passes_14 (by decide) rfl ?_
    refine g_ialdN (n := 16) dX9_passes_15 rfl rfl (by decide) (by omega) ?_
    refine g_top (tk_1 _) ?_
    refine g_icmp_ge (tgt := 66) (n := 19) dX9_passes_16 (by decide) rfl (fun c16 => absurd c16 (nI_ge hf (by omega))) (fun c16 => ?_)
    refine g_aload_n (n := 20) dX9_passes_19 rfl rfl ?_
    refine g_get (n := 23) fl_X9_13 dX9_passes_20 rfl rfl rfl ?_
    refine g_bipush (v := nI 20) (n := 25) dX9_passes_23 (by decide) rfl ?_
    refine g_iload_n (n := 26) dX9_passes_25 rfl rfl ?_
    refine g_iaddN (n := 27) dX9_passes_26 rfl ?_
    refine g_ialdN (n := 28) dX9_passes_27 rfl rfl (by decide) (by omega) ?_
    refine g_top (tk_ki _ (by omega)) ?_
    refine g_istore (n := 30) dX9_passes_28 (by decide) rfl rfl ?_
    refine g_lsN (ls' := [_, _, _, _, _, _]) rfl ?_
    refine g_iload_n (n := 31) dX9_passes_30 rfl rfl ?_
    refine g_iload (n := 33) dX9_passes_31 rfl rfl ?_
    refine g_iconst (v := nI 2) (n := 34) dX9_passes_33 (by decide) rfl ?_
    refine g_icmp_eq (tgt := 51) (n := 37) dX9_passes_34 (by decide) rfl (fun c34 => ?_) (fun c34 => ?_)
    ·
      have e1 : twN V S (f + 1) = twN V S f ||| nI 1 <<< (nI f &&& 31) := by rw [twN]; unfold hrd; rw [decide_eq_true c34]; rfl
      rw [e1] at ih
      refine g_iconst (v := nI 1) (n := 52) dX9_passes_51 (by decide) rfl ?_
      refine g_iload_n (n := 53) dX9_passes_52 rfl rfl ?_
      refine g_ishl (n := 54) dX9_passes_53 rfl ?_
      refine g_goto (tgt := 58) dX9_passes_54 (by decide) ?_
      refine g_ior (n := 59) dX9_passes_58 rfl ?_
      refine g_istore_n (n := 60) dX9_passes_59 (by decide) rfl rfl ?_
      refine g_lsN (ls' := [_, _, _, _, _, _]) rfl ?_
      refine g_iincN (k := 1) (n := 63) dX9_passes_60 rfl (by decide) rfl rfl ?_
      refine g_lsN (ls' := [_, _, _, _, _, _]) rfl ?_
      refine g_goto (tgt := 9) dX9_passes_63 (by decide) ?_
      exact ih _ _
    ·
      have a1 := decide_eq_false c34
      refine g_iload (n := 39) dX9_passes_37 rfl rfl ?_
      refine g_iconst (v := nI 1) (n := 40) dX9_passes_39 (by decide) rfl ?_
      refine g_icmp_ne (tgt := 57) (n := 43) dX9_passes_40 (by decide) rfl (fun c40 => ?_) (fun c40 => ?_)
      ·
        have e1 : twN V S (f + 1) = twN V S f ||| nI 0 := by rw [twN]; unfold hrd; rw [a1, decide_eq_false c40]; rfl
        rw [e1] at ih
        refine g_iconst (v := nI 0) (n := 58) dX9_passes_57 (by decide) rfl ?_
        refine g_ior (n := 59) dX9_passes_58 rfl ?_
        refine g_istore_n (n := 60) dX9_passes_59 (by decide) rfl rfl ?_
        refine g_lsN (ls' := [_, _, _, _, _, _]) rfl ?_
        refine g_iincN (k := 1) (n := 63) dX9_passes_60 rfl (by decide) rfl rfl ?_
        refine g_lsN (ls' := [_, _, _, _, _, _]) rfl ?_
        refine g_goto (tgt := 9) dX9_passes_63 (by decide) ?_
        exact ih _ _
      ·
        have a2 := decide_eq_true c40
        refine g_aload_n (n := 44) dX9_passes_43 rfl rfl ?_
        refine g_iload_n (n := 45) dX9_passes_44 rfl rfl ?_
        refine g_callWi (n := 48) cv_X9_128 (t_X9_isAlone l _ _ _ hV f hf) dX9_passes_45 rfl ⟨by decide, by decide, rfl, rfl, hz.1, hz.2⟩ rfl rfl rfl (Nat.le_of_ble_eq_true rfl) rfl rfl ?_
        refine g_if_eq (tgt := 57) (n := 51) dX9_passes_48 (by decide) rfl (fun c48 => ?_) (fun c48 => ?_)
        ·
          have e1 : twN V S (f + 1) = twN V S f ||| nI 0 := by rw [twN]; unfold hrd; rw [a1, a2, bI_0.mp c48]; rfl
          rw [e1] at ih
          refine g_iconst (v := nI 0) (n := 58) dX9_passes_57 (by decide) rfl ?_
          refine g_ior (n := 59) dX9_passes_58 rfl ?_
          refine g_istore_n (n := 60) dX9_passes_59 (by decide) rfl rfl ?_
          refine g_lsN (ls' := [_, _, _, _, _, _]) rfl ?_
          refine g_iincN (k := 1) (n := 63) dX9_passes_60 rfl (by decide) rfl rfl ?_
          refine g_lsN (ls' := [_, _, _, _, _, _]) rfl ?_
          refine g_goto (tgt := 9) dX9_passes_63 (by decide) ?_
          exact ih _ _
        ·
          have e1 : twN V S (f + 1) = twN V S f ||| nI 1 <<< (nI f &&& 31) := by rw [twN]; unfold hrd; rw [a1, a2, bI_n0.mp c48]; rfl
          rw [e1] at ih
          refine g_iconst (v := nI 1) (n := 52) dX9_passes_51 (by decide) rfl ?_
          refine g_iload_n (n := 53) dX9_passes_52 rfl rfl ?_
          refine g_ishl (n := 54) dX9_passes_53 rfl ?_
          refine g_goto (tgt := 58) dX9_passes_54 (by decide) ?_
          refine g_ior (n := 59) dX9_passes_58 rfl ?_
          refine g_istore_n (n := 60) dX9_passes_59 (by decide) rfl rfl ?_
          refine g_lsN (ls' := [_, _, _, _, _, _]) rfl ?_
          refine g_iincN (k := 1) (n := 63) dX9_passes_60 rfl (by decide) rfl rfl ?_
          refine g_lsN (ls' := [_, _, _, _, _, _]) rfl ?_
          refine g_goto (tgt := 9) dX9_passes_63 (by decide) ?_
          exact ih _ _
set_option maxRecDepth 20000 in
theorem t_X9_passes (l : Launch) (e : MR) (V : WT) (S : ST) (hV : okV V) : Fn l M_X9_passes [.ref 0] (mw e (tk V) (pk S)) none (mw e (tk V) (pk (psF V S))) := by
  refine con_of rfl rfl (Nat.le_of_ble_eq_true rfl) ?_
  refine g_lsN (ls' := [_, _, _, _, _, _]) rfl ?_
  refine g_aload_n (n := 1) dX9_passes_0 rfl rfl ?_
  refine g_callWi (n := 4) cv_X9_125 (t_X9_heldNow l _ _ _ hV) dX9_passes_1 rfl ⟨by decide, by decide, rfl, rfl, Nat.zero_le _, Nat.zero_le _⟩ rfl rfl rfl (Nat.le_of_ble_eq_true rfl) rfl rfl ?_
  refine g_istore_n (n := 5) dX9_passes_4 (by decide) rfl rfl ?_
  refine g_lsN (ls' := [_, _, _, _, _, _]) rfl ?_
  refine g_iconst (v := nI 0) (n := 6) dX9_passes_5 (by decide) rfl ?_
  refine g_istore_n (n := 7) dX9_passes_6 (by decide) rfl rfl ?_
  refine g_lsN (ls' := [_, _, _, _, _, _]) rfl ?_
  refine g_iconst (v := nI 0) (n := 8) dX9_passes_7 (by decide) rfl ?_
  refine g_istore_n (n := 9) dX9_passes_8 (by decide) rfl rfl ?_
  refine g_lsN (ls' := [_, _, _, _, _, _]) rfl ?_
  exact lp1_X9_passes l _ ⟨Nat.zero_le _, Nat.zero_le _⟩ _ e V S hV ⟨rfl, rfl⟩ 0 (Nat.zero_le _) _ _

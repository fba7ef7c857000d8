/-! 17.mplace: the reference's place, strong, who, knees; shirkers' and nights' steps -/
theorem upd_z {g : Nat → Int32} {f m : Nat} {x : Int32} (hf : f < m) (h : ∀ j, m ≤ j → g j = 0) : ∀ j, m ≤ j → upd g f x j = 0 := fun j hj => by
  unfold upd
  rw [if_neg (by omega)]
  exact h j hj
theorem upd_upd (g : Nat → Int32) (f : Nat) (x y : Int32) : upd (upd g f x) f y = upd g f y := by
  funext j; unfold upd; by_cases h : j = f <;> simp [h]
theorem upd_self (g : Nat → Int32) (f : Nat) : upd g f (g f) = g := by
  funext j; unfold upd; by_cases h : j = f <;> simp [h]
abbrev vSg (V : WT) (f : Nat) (x : Int32) : WT := (V.1, V.2.1, V.2.2.1, V.2.2.2.1, V.2.2.2.2.1, V.2.2.2.2.2.1, V.2.2.2.2.2.2.1, upd (vsg V) f x, V.2.2.2.2.2.2.2.2)
abbrev vKn (V : WT) (f : Nat) (x : Int32) : WT := (V.1, V.2.1, V.2.2.1, V.2.2.2.1, V.2.2.2.2.1, V.2.2.2.2.2.1, V.2.2.2.2.2.2.1, V.2.2.2.2.2.2.2.1, upd (vkn V) f x)
theorem tk_usg (V : WT) {f : Nat} (hf : f < 6) (x : Int32) : upd (tk V) (26 + f) x = tk (vSg V f x) := by
  funext k
  unfold upd tk
  by_cases h1 : k = 26 + f
  · subst h1
    rw [if_pos rfl, if_neg (by omega), if_neg (by omega), if_neg (by omega), if_neg (by omega), if_neg (by omega), if_neg (by omega), if_neg (by omega), if_pos (by omega)]
    show x = if 26 + f - 26 = f then x else _
    rw [if_pos (by omega)]
  · rw [if_neg h1]
    by_cases h2 : k < 26
    · simp only [h2, if_true]
    · simp only [h2, if_false]
      by_cases h3 : k < 32
      · simp only [h3, if_true]
        show _ = if k = 0 then _ else if k = 1 then _ else if k = 2 then _ else if k = 3 then _ else if k < 12 then _ else if k < 20 then _ else (if k - 26 = f then x else vsg V (k - 26))
        rw [if_neg (show ¬ k - 26 = f by omega)]
      · simp only [h3, if_false]
theorem tk_ukn (V : WT) {f : Nat} (hf : f < 6) (x : Int32) : upd (tk V) (32 + f) x = tk (vKn V f x) := by
  funext k
  unfold upd tk
  by_cases h1 : k = 32 + f
  · subst h1
    rw [if_pos rfl, if_neg (by omega), if_neg (by omega), if_neg (by omega), if_neg (by omega), if_neg (by omega), if_neg (by omega), if_neg (by omega), if_neg (by omega)]
    show x = if 32 + f - 32 = f then x else _
    rw [if_pos (by omega)]
  · rw [if_neg h1]
    by_cases h2 : k < 32
    · simp only [h2, if_true]
    · simp only [h2, if_false]
      show _ = if k = 0 then _ else if k = 1 then _ else if k = 2 then _ else if k = 3 then _ else if k < 12 then _ else if k < 20 then _ else if k < 26 then _ else (if k - 32 = f then x else vkn V (k - 32))
      rw [if_neg (show ¬ k - 32 = f by omega)]
theorem vSg_vSg (V : WT) (f : Nat) (x y : Int32) : vSg (vSg V f x) f y = vSg V f y := by
  show (_, _, _, _, _, _, _, upd (upd (vsg V) f x) f y, _) = _
  rw [upd_upd]
theorem vSg_self (V : WT) (f : Nat) : vSg V f (vsg V f) = V := by
  show (_, _, _, _, _, _, _, upd (vsg V) f (vsg V f), _) = _
  rw [upd_self]
theorem vKn_vKn (V : WT) (f : Nat) (x y : Int32) : vKn (vKn V f x) f y = vKn V f y := by
  show (_, _, _, _, _, _, _, _, upd (upd (vkn V) f x) f y) = _
  rw [upd_upd]
theorem vKn_self (V : WT) (f : Nat) : vKn V f (vkn V f) = V := by
  show (_, _, _, _, _, _, _, _, upd (vkn V) f (vkn V f)) = _
  rw [upd_self]
def plT (S : ST) (f b : Nat) : ST := sUp (sBo S (upd (sbo S) f (nI b))) (sup S ||| nI 1 <<< (nI f &&& 31))
def plS (V : WT) (S : ST) (f b : Nat) (p : Int32 × Int32) : Int32 × Int32 := if hb (sfa S) (nI b) then p else if nI (fk V (plT S f b) 60) ≤ p.2 then p else (nI b, nI (fk V (plT S f b) 60))
def plN (V : WT) (S : ST) (f : Nat) : Nat → Int32 × Int32
  | 0 => ((-4), nI 0)
  | b + 1 => plS V S f b (plN V S f b)
theorem okZ_pl {S : ST} {f : Nat} (hf : f < 6) (b : Nat) (h : okZ S) : okZ (plT S f b) := ⟨h.1, upd_z hf h.2.1, h.2.2⟩

set_option maxRecDepth 20000 in
theorem lp_X9_place (l : Launch) (z : Nat × Nat × Nat) (hz : z.2.1 ≤ 0 ∧ z.2.2 ≤ 0) (Q : Option Value → List va_E → Prop) (e : MR) (V : WT) (S : ST) (hV : okV V) (hS : okZ S) (f : Nat) (hf : f < vnf V) (hQ : Q (some (.int (plN V S f (vnb V)).1)) (mw (sAs e (pk S)) (tk V) (pk S))) : ∀ b, b ≤ vnb V → ∀ (o5 : Option Value), G l M_X9_place z Q 38 [some (.ref 0), some (.int (nI f)), some (.int (plN V S f b).1), some (.int (plN V S f b).2), some (.int (nI b)), o5] [] (mw (sAs e (pk S)) (tk V) (pk S)) := by
  have hV1 := hV.1
  have hV2 := hV.2.1
  have hV3 := hV.2.2
  refine loopN (vnb V) ?_ (fun b hb_ ih => ?_)
  ·
    intro o5
    refine g_iload (n := 40) dX9_place_38 rfl rfl ?_
    refine g_aload_n (n := 41) dX9_place_40 rfl rfl ?_
    refine g_get (n := 44) fl_X9_13 dX9_place_41 rfl rfl rfl ?_
    refine g_iconst (v := nI 0) (n := 45) dX9_place_44 (by decide) rfl ?_
    refine g_ialdN (n := 46) dX9_place_45 rfl rfl (by decide) (by omega) ?_
    refine g_top (tk_0 _) ?_
    refine g_icmp_ge (tgt := 125) (n := 49) dX9_place_46 (by decide) rfl (fun c46 => ?_) (fun c46 => absurd (nI_le (Nat.le_refl _) (by omega)) c46)
    refine g_iload_n (n := 126) dX9_place_125 rfl rfl ?_
    exact g_iret (ty := .int) dX9_place_126 rfl rfl hz hQ
  ·
    intro o5
    have J119 : ∀ (x y : Int32) (o5 : Option Value), plN V S f (b + 1) = (x, y) → G l M_X9_place z Q 119 [some (.ref 0), some (.int (nI f)), some (.int x), some (.int y), some (.int (nI b)), o5] [] (mw (sAs e (pk S)) (tk V) (pk S)) := by
      intro x y o5 hx
      rw [hx] at ih
      refine g_iincN (k := 1) (n := 122) dX9_place_119 rfl (by decide) rfl rfl ?_
      refine g_lsN (ls' := [_, _, _, _, _, _]) rfl ?_
      refine g_goto (tgt := 38) dX9_place_122 (by decide) ?_
      exact ih _
    refine g_iload (n := 40) dX9_place_38 rfl rfl ?_
    refine g_aload_n (n := 41) dX9_place_40 rfl rfl ?_
    refine g_get (n := 44) fl_X9_13 dX9_place_41 rfl rfl rfl ?_
    refine g_iconst (v := nI 0) (n := 45) dX9_place_44 (by decide) rfl ?_
    refine g_ialdN (n := 46) dX9_place_45 rfl rfl (by decide) (by omega) ?_
    refine g_top (tk_0 _) ?_
    refine g_icmp_ge (tgt := 125) (n := 49) dX9_place_46 (by decide) rfl (fun c46 => absurd c46 (nI_ge hb_ (by omega))) (fun c46 => ?_)
    refine g_aload_n (n := 50) dX9_place_49 rfl rfl ?_
    refine g_iload (n := 52) dX9_place_50 rfl rfl ?_
    refine g_callWi (n := 55) cv_X9_98 (t_X9_hasFallen l _ _ _ _) dX9_place_52 rfl ⟨by decide, by decide, rfl, rfl, hz.1, hz.2⟩ rfl rfl rfl (Nat.le_of_ble_eq_true rfl) rfl rfl ?_
    refine g_if_ne (tgt := 119) (n := 58) dX9_place_55 (by decide) rfl (fun c55 => ?_) (fun c55 => ?_)
    ·
      refine J119 _ _ _ ?_
      show plS V S f b (plN V S f b) = _
      unfold plS
      rw [bI_n0.mp c55]
      rfl
    ·
      have a1 := bI_0.mp c55
      refine g_aload_n (n := 59) dX9_place_58 rfl rfl ?_
      refine g_get (n := 62) fl_X9_22 dX9_place_59 rfl rfl rfl ?_
      refine g_bipush (v := nI 9) (n := 64) dX9_place_62 (by decide) rfl ?_
      refine g_iload_n (n := 65) dX9_place_64 rfl rfl ?_
      refine g_iaddN (n := 66) dX9_place_65 rfl ?_
      refine g_iload (n := 68) dX9_place_66 rfl rfl ?_
      refine g_iastN (n := 69) dX9_place_68 rfl rfl (by decide) (by omega) ?_
      refine g_wN (w' := [_, _, _, _, _, _, _, _, _]) rfl ?_
      rw [sk_ubo _ _ _ _ _ _ _ (by omega)]
      refine g_aload_n (n := 70) dX9_place_69 rfl rfl ?_
      refine g_get (n := 73) fl_X9_22 dX9_place_70 rfl rfl rfl ?_
      refine g_iconst (v := nI 1) (n := 74) dX9_place_73 (by decide) rfl ?_
      refine g_dup2 (n := 75) dX9_place_74 rfl rfl rfl ?_
      refine g_ialdN (n := 76) dX9_place_75 rfl rfl (by decide) (by omega) ?_
      refine g_top (sk_1 _) ?_
      refine g_iconst (v := nI 1) (n := 77) dX9_place_76 (by decide) rfl ?_
      refine g_iload_n (n := 78) dX9_place_77 rfl rfl ?_
      refine g_ishl (n := 79) dX9_place_78 rfl ?_
      refine g_ior (n := 80) dX9_place_79 rfl ?_
      refine g_iastN (n := 81) dX9_place_80 rfl rfl (by decide) (by omega) ?_
      refine g_wN (w' := [_, _, _, _, _, _, _, _, _]) rfl ?_
      rw [sk_up]
      refine g_aload_n (n := 82) dX9_place_81 rfl rfl ?_
      refine g_bipush (v := nI 60) (n := 84) dX9_place_82 (by decide) rfl ?_
      refine g_callWi (n := 87) cv_X9_149 (t_X9_falls l (sAs e (pk S)) _ (plT S f b) hV _ (by decide)) dX9_place_84 rfl ⟨by decide, by decide, rfl, rfl, hz.1, hz.2⟩ rfl rfl rfl (Nat.le_of_ble_eq_true rfl) rfl rfl ?_
      refine g_istore (n := 89) dX9_place_87 (by decide) rfl rfl ?_
      refine g_lsN (ls' := [_, _, _, _, _, _]) rfl ?_
      refine g_aload_n (n := 90) dX9_place_89 rfl rfl ?_
      refine g_callWv (n := 93) cv_X9_152 (t_X9_lets l (sAs e (pk S)) _ _ S (okZ_fl hV _ _ _ (okZ_pl (by omega) b hS)) hS rfl) dX9_place_90 rfl ⟨by decide, by decide, rfl, rfl, hz.1, hz.2⟩ rfl rfl rfl (Nat.le_of_ble_eq_true rfl) rfl rfl ?_
      refine g_iload (n := 95) dX9_place_93 rfl rfl ?_
      refine g_iload_n (n := 96) dX9_place_95 rfl rfl ?_
      refine g_icmp_le (tgt := 104) (n := 99) dX9_place_96 (by decide) rfl (fun c96 => ?_) (fun c96 => ?_)
      ·
        refine g_iload_n (n := 105) dX9_place_104 rfl rfl ?_
        refine g_istore_n (n := 106) dX9_place_105 (by decide) rfl rfl ?_
        refine g_lsN (ls' := [_, _, _, _, _, _]) rfl ?_
        refine g_iload (n := 108) dX9_place_106 rfl rfl ?_
        refine g_iload_n (n := 109) dX9_place_108 rfl rfl ?_
        refine g_icmp_le (tgt := 117) (n := 112) dX9_place_109 (by decide) rfl (fun c109 => ?_) (fun c109 => ?_)
        ·
          refine g_iload_n (n := 118) dX9_place_117 rfl rfl ?_
          refine g_istore_n (n := 119) dX9_place_118 (by decide) rfl rfl ?_
          refine g_lsN (ls' := [_, _, _, _, _, _]) rfl ?_
          exact J119 _ _ _ (by first | exact absurd c96 c109 | exact absurd c109 c96 | (show plS V S f b (plN V S f b) = _; unfold plS; rw [a1, if_neg Bool.false_ne_true]; first | exact if_pos c96 | exact if_neg c96))
        ·
          refine g_iload (n := 114) dX9_place_112 rfl rfl ?_
          refine g_goto (tgt := 118) dX9_place_114 (by decide) ?_
          refine g_istore_n (n := 119) dX9_place_118 (by decide) rfl rfl ?_
          refine g_lsN (ls' := [_, _, _, _, _, _]) rfl ?_
          exact J119 _ _ _ (by first | exact absurd c96 c109 | exact absurd c109 c96 | (show plS V S f b (plN V S f b) = _; unfold plS; rw [a1, if_neg Bool.false_ne_true]; first | exact if_pos c96 | exact if_neg c96))
      ·
        refine g_iload (n := 101) dX9_place_99 rfl rfl ?_
        refine g_goto (tgt := 105) dX9_place_101 (by decide) ?_
        refine g_istore_n (n := 106) dX9_place_105 (by decide) rfl rfl ?_
        refine g_lsN (ls' := [_, _, _, _, _, _]) rfl ?_
        refine g_iload (n := 108) dX9_place_106 rfl rfl ?_
        refine g_iload_n (n := 109) dX9_place_108 rfl rfl ?_
        refine g_icmp_le (tgt := 117) (n := 112) dX9_place_109 (by decide) rfl (fun c109 => ?_) (fun c109 => ?_)
        ·
          refine g_iload_n (n := 118) dX9_place_117 rfl rfl ?_
          refine g_istore_n (n := 119) dX9_place_118 (by decide) rfl rfl ?_
          refine g_lsN (ls' := [_, _, _, _, _, _]) rfl ?_
          exact J119 _ _ _ (by first | exact absurd c96 c109 | exact absurd c109 c96 | (show plS V S f b (plN V S f b) = _; unfold plS; rw [a1, if_neg Bool.false_ne_true]; first | exact if_pos c96 | exact if_neg c96))
        ·
          refine g_iload (n := 114) dX9_place_112 rfl rfl ?_
          refine g_goto (tgt := 118) dX9_place_114 (by decide) ?_
          refine g_istore_n (n := 119) dX9_place_118 (by decide) rfl rfl ?_
          refine g_lsN (ls' := [_, _, _, _, _, _]) rfl ?_
          exact J119 _ _ _ (by first | exact absurd c96 c109 | exact absurd c109 c96 | (show plS V S f b (plN V S f b) = _; unfold plS; rw [a1, if_neg Bool.false_ne_true]; first | exact if_pos c96 | exact if_neg c96))
set_option maxRecDepth 20000 in
theorem t_X9_place_bad (l : Launch) (e : MR) (V : WT) (S : ST) (hV : okV V) (x : Int32) (h : isB (vnf V) x = false) : Fn l M_X9_place [.ref 0, .int x] (mw e (tk V) (pk S)) (some (.int (-1))) (mw e (tk V) (pk S)) := by
  have hV1 := hV.1
  have hV2 := hV.2.1
  have hV3 := hV.2.2
  refine con_of rfl rfl (Nat.le_of_ble_eq_true rfl) ?_
  refine g_lsN (ls' := [_, _, _, _, _, _]) rfl ?_
  refine g_aload_n (n := 1) dX9_place_0 rfl rfl ?_
  refine g_iload_n (n := 2) dX9_place_1 rfl rfl ?_
  refine g_callWi (n := 5) cv_X9_119 (t_X9_isButtress l _ _ _ _) dX9_place_2 rfl ⟨by decide, by decide, rfl, rfl, Nat.zero_le _, Nat.zero_le _⟩ rfl rfl rfl (Nat.le_of_ble_eq_true rfl) rfl rfl ?_
  refine g_if_ne (tgt := 10) (n := 8) dX9_place_5 (by decide) rfl (fun c5 => absurd (bI_0.mpr h) c5) (fun c5 => ?_)
  refine g_iconst (v := (-1)) (n := 9) dX9_place_8 (by decide) rfl ?_
  exact g_iret (ty := .int) dX9_place_9 rfl rfl ⟨Nat.zero_le _, Nat.zero_le _⟩ ⟨rfl, rfl⟩
set_option maxRecDepth 20000 in
theorem t_X9_place_no (l : Launch) (e : MR) (V : WT) (S : ST) (hV : okV V) (f : Nat) (hf : f < vnf V) (h : hb (sup S) (nI f) = true) : Fn l M_X9_place [.ref 0, .int (nI f)] (mw e (tk V) (pk S)) (some (.int (-2))) (mw e (tk V) (pk S)) := by
  have hV1 := hV.1
  have hV2 := hV.2.1
  have hV3 := hV.2.2
  refine con_of rfl rfl (Nat.le_of_ble_eq_true rfl) ?_
  refine g_lsN (ls' := [_, _, _, _, _, _]) rfl ?_
  refine g_aload_n (n := 1) dX9_place_0 rfl rfl ?_
  refine g_iload_n (n := 2) dX9_place_1 rfl rfl ?_
  refine g_callWi (n := 5) cv_X9_119 (t_X9_isButtress l _ _ _ _) dX9_place_2 rfl ⟨by decide, by decide, rfl, rfl, Nat.zero_le _, Nat.zero_le _⟩ rfl rfl rfl (Nat.le_of_ble_eq_true rfl) rfl rfl ?_
  refine g_if_ne (tgt := 10) (n := 8) dX9_place_5 (by decide) rfl (fun c5 => ?_) (fun c5 => absurd c5 (bI_n0.mpr (show isB (vnf V) (nI f) = true by rw [isB_nI (by omega) (by omega)]; exact decide_eq_true hf)))
  refine g_aload_n (n := 11) dX9_place_10 rfl rfl ?_
  refine g_get (n := 14) fl_X9_22 dX9_place_11 rfl rfl rfl ?_
  refine g_iconst (v := nI 1) (n := 15) dX9_place_14 (by decide) rfl ?_
  refine g_ialdN (n := 16) dX9_place_15 rfl rfl (by decide) (by omega) ?_
  refine g_top (sk_1 _) ?_
  refine g_iload_n (n := 17) dX9_place_16 rfl rfl ?_
  refine g_callSi (n := 20) cs_X9_94 (t_X9_has l _ _) dX9_place_17 rfl rfl ⟨by decide, by decide, rfl, rfl, Nat.zero_le _, Nat.zero_le _⟩ rfl (Nat.le_of_ble_eq_true rfl) rfl ?_
  refine g_if_eq (tgt := 26) (n := 23) dX9_place_20 (by decide) rfl (fun c20 => absurd c20 (bI_n0.mpr h)) (fun c20 => ?_)
  refine g_bipush (v := (-2)) (n := 25) dX9_place_23 (by decide) rfl ?_
  exact g_iret (ty := .int) dX9_place_25 rfl rfl ⟨Nat.zero_le _, Nat.zero_le _⟩ ⟨rfl, rfl⟩
set_option maxRecDepth 20000 in
theorem t_X9_place_ok (l : Launch) (e : MR) (V : WT) (S : ST) (hV : okV V) (hS : okZ S) (ha : ∀ j, 23 ≤ j → eAs e j = 0) (f : Nat) (hf : f < vnf V) (h : hb (sup S) (nI f) = false) : Fn l M_X9_place [.ref 0, .int (nI f)] (mw e (tk V) (pk S)) (some (.int (plN V S f (vnb V)).1)) (mw (sAs e (pk S)) (tk V) (pk S)) := by
  have hV1 := hV.1
  have hV2 := hV.2.1
  have hV3 := hV.2.2
  refine con_of rfl rfl (Nat.le_of_ble_eq_true rfl) ?_
  refine g_lsN (ls' := [_, _, _, _, _, _]) rfl ?_
  refine g_aload_n (n := 1) dX9_place_0 rfl rfl ?_
  refine g_iload_n (n := 2) dX9_place_1 rfl rfl ?_
  refine g_callWi (n := 5) cv_X9_119 (t_X9_isButtress l _ _ _ _) dX9_place_2 rfl ⟨by decide, by decide, rfl, rfl, Nat.zero_le _, Nat.zero_le _⟩ rfl rfl rfl (Nat.le_of_ble_eq_true rfl) rfl rfl ?_
  refine g_if_ne (tgt := 10) (n := 8) dX9_place_5 (by decide) rfl (fun c5 => ?_) (fun c5 => absurd c5 (bI_n0.mpr (show isB (vnf V) (nI f) = true by rw [isB_nI (by omega) (by omega)]; exact decide_eq_true hf)))
  refine g_aload_n (n := 11) dX9_place_10 rfl rfl ?_
  refine g_get (n := 14) fl_X9_22 dX9_place_11 rfl rfl rfl ?_
  refine g_iconst (v := nI 1) (n := 15) dX9_place_14 (by decide) rfl ?_
  refine g_ialdN (n := 16) dX9_place_15 rfl rfl (by decide) (by omega) ?_
  refine g_top (sk_1 _) ?_
  refine g_iload_n (n := 17) dX9_place_16 rfl rfl ?_
  refine g_callSi (n := 20) cs_X9_94 (t_X9_has l _ _) dX9_place_17 rfl rfl ⟨by decide, by decide, rfl, rfl, Nat.zero_le _, Nat.zero_le _⟩ rfl (Nat.le_of_ble_eq_true rfl) rfl ?_
  refine g_if_eq (tgt := 26) (n := 23) dX9_place_20 (by decide) rfl (fun c20 => ?_) (fun c20 => absurd (bI_0.mpr h) c20)
  refine g_aload_n (n := 27) dX9_place_26 rfl rfl ?_
  refine g_callWv (n := 30) cv_X9_146 (t_X9_holds l _ _ _ hS ha) dX9_place_27 rfl ⟨by decide, by decide, rfl, rfl, Nat.zero_le _, Nat.zero_le _⟩ rfl rfl rfl (Nat.le_of_ble_eq_true rfl) rfl rfl ?_
  refine g_bipush (v := (-4)) (n := 32) dX9_place_30 (by decide) rfl ?_
  refine g_istore_n (n := 33) dX9_place_32 (by decide) rfl rfl ?_
  refine g_lsN (ls' := [_, _, _, _, _, _]) rfl ?_
  refine g_iconst (v := nI 0) (n := 34) dX9_place_33 (by decide) rfl ?_
  refine g_istore_n (n := 35) dX9_place_34 (by decide) rfl rfl ?_
  refine g_lsN (ls' := [_, _, _, _, _, _]) rfl ?_
  refine g_iconst (v := nI 0) (n := 36) dX9_place_35 (by decide) rfl ?_
  refine g_istore (n := 38) dX9_place_36 (by decide) rfl rfl ?_
  refine g_lsN (ls' := [_, _, _, _, _, _]) rfl ?_
  exact lp_X9_place l _ ⟨Nat.zero_le _, Nat.zero_le _⟩ _ e V S hV hS f hf ⟨rfl, rfl⟩ 0 (Nat.zero_le _) _
def sgK (V : WT) (S : ST) (f v : Nat) : Nat := fk (vSg V f (nI v)) S 60
set_option maxRecDepth 20000 in
theorem lp_X9_strong (l : Launch) (z : Nat × Nat × Nat) (hz : z.2.1 ≤ 0 ∧ z.2.2 ≤ 0) (Q : Option Value → List va_E → Prop) (e : MR) (V : WT) (S : ST) (hV : okV V) (hS : okZ S) (f : Nat) (hf : f < vnf V) (r : Nat) (hr1 : 1 ≤ r ∧ r ≤ 99) (hr2 : sgK V S f r = sgK V S f 99) (hr3 : ∀ i, 1 ≤ i → i < r → ¬ sgK V S f i = sgK V S f 99) (hQ : Q (some (.int (nI r))) (mw (sAs e (pk S)) (tk V) (pk S))) : ∀ v, v ≤ r → ∀ (h : Nat) (y : Int32), (v < r → ¬ h = sgK V S f 99) → (v = r → h = sgK V S f 99) → h ≤ 61 → G l M_X9_strong z Q 52 [some (.ref 0), some (.int (nI f)), some (.int (vsg V f)), some (.int (nI (sgK V S f 99))), some (.int (nI v)), some (.int (nI h))] [] (mw (sAs e (pk S)) (tk (vSg V f y)) (pk S)) := by
  have hV1 := hV.1
  have hV2 := hV.2.1
  have hV3 := hV.2.2
  have hm : sgK V S f 99 ≤ 61 := fk_le _ _ 60
  refine loopN r ?_ (fun v hv ih => ?_)
  ·
    intro h y h1 h2 h3
    have h2 := h2 rfl
    subst h2
    refine g_iload (n := 54) dX9_strong_52 rfl rfl ?_
    refine g_iload_n (n := 55) dX9_strong_54 rfl rfl ?_
    refine g_icmp_eq (tgt := 87) (n := 58) dX9_strong_55 (by decide) rfl (fun c55 => ?_) (fun c55 => absurd rfl c55)
    refine g_aload_n (n := 88) dX9_strong_87 rfl rfl ?_
    refine g_get (n := 91) fl_X9_13 dX9_strong_88 rfl rfl rfl ?_
    refine g_bipush (v := nI 26) (n := 93) dX9_strong_91 (by decide) rfl ?_
    refine g_iload_n (n := 94) dX9_strong_93 rfl rfl ?_
    refine g_iaddN (n := 95) dX9_strong_94 rfl ?_
    refine g_iload_n (n := 96) dX9_strong_95 rfl rfl ?_
    refine g_iastN (n := 97) dX9_strong_96 rfl rfl (by decide) (by omega) ?_
    refine g_wN (w' := [_, _, _, _, _, _, _, _, _]) rfl ?_
    rw [tk_usg _ (by omega), vSg_vSg, vSg_self]
    refine g_iload (n := 99) dX9_strong_97 rfl rfl ?_
    exact g_iret (ty := .int) dX9_strong_99 rfl rfl hz hQ
  ·
    intro h y h1 h2 h3
    have h1 := h1 hv
    refine g_iload (n := 54) dX9_strong_52 rfl rfl ?_
    refine g_iload_n (n := 55) dX9_strong_54 rfl rfl ?_
    refine g_icmp_eq (tgt := 87) (n := 58) dX9_strong_55 (by decide) rfl (fun c55 => absurd c55 (fun q => h1 ((nI_eq (by omega) (by omega)).mp q))) (fun c55 => ?_)
    refine g_iincN (k := 1) (n := 61) dX9_strong_58 rfl (by decide) rfl rfl ?_
    refine g_lsN (ls' := [_, _, _, _, _, _]) rfl ?_
    refine g_aload_n (n := 62) dX9_strong_61 rfl rfl ?_
    refine g_get (n := 65) fl_X9_13 dX9_strong_62 rfl rfl rfl ?_
    refine g_bipush (v := nI 26) (n := 67) dX9_strong_65 (by decide) rfl ?_
    refine g_iload_n (n := 68) dX9_strong_67 rfl rfl ?_
    refine g_iaddN (n := 69) dX9_strong_68 rfl ?_
    refine g_iload (n := 71) dX9_strong_69 rfl rfl ?_
    refine g_iastN (n := 72) dX9_strong_71 rfl rfl (by decide) (by omega) ?_
    refine g_wN (w' := [_, _, _, _, _, _, _, _, _]) rfl ?_
    rw [tk_usg _ (by omega), vSg_vSg]
    refine g_aload_n (n := 73) dX9_strong_72 rfl rfl ?_
    refine g_bipush (v := nI 60) (n := 75) dX9_strong_73 (by decide) rfl ?_
    refine g_callWi (n := 78) cv_X9_149 (t_X9_falls l (sAs e (pk S)) (vSg V f (nI (v + 1))) _ hV _ (by decide)) dX9_strong_75 rfl ⟨by decide, by decide, rfl, rfl, hz.1, hz.2⟩ rfl rfl rfl (Nat.le_of_ble_eq_true rfl) rfl rfl ?_
    refine g_istore (n := 80) dX9_strong_78 (by decide) rfl rfl ?_
    refine g_lsN (ls' := [_, _, _, _, _, _]) rfl ?_
    refine g_aload_n (n := 81) dX9_strong_80 rfl rfl ?_
    refine g_callWv (n := 84) cv_X9_152 (t_X9_lets l (sAs e (pk S)) _ _ S (okZ_fl (show okV (vSg V f (nI (v + 1))) from hV) _ _ _ hS) hS rfl) dX9_strong_81 rfl ⟨by decide, by decide, rfl, rfl, hz.1, hz.2⟩ rfl rfl rfl (Nat.le_of_ble_eq_true rfl) rfl rfl ?_
    refine g_goto (tgt := 52) dX9_strong_84 (by decide) ?_
    have hk61 : sgK V S f (v + 1) ≤ 61 := fk_le _ _ 60
    exact ih (sgK V S f (v + 1)) (nI (v + 1)) (fun q => hr3 (v + 1) (by omega) q) (fun q => by rw [q]; exact hr2) hk61
set_option maxRecDepth 20000 in
theorem t_X9_strong_bad (l : Launch) (e : MR) (V : WT) (S : ST) (hV : okV V) (x : Int32) (h : isB (vnf V) x = false) : Fn l M_X9_strong [.ref 0, .int x] (mw e (tk V) (pk S)) (some (.int (-1))) (mw e (tk V) (pk S)) := by
  have hV1 := hV.1
  have hV2 := hV.2.1
  have hV3 := hV.2.2
  refine con_of rfl rfl (Nat.le_of_ble_eq_true rfl) ?_
  refine g_lsN (ls' := [_, _, _, _, _, _]) rfl ?_
  refine g_aload_n (n := 1) dX9_strong_0 rfl rfl ?_
  refine g_iload_n (n := 2) dX9_strong_1 rfl rfl ?_
  refine g_callWi (n := 5) cv_X9_119 (t_X9_isButtress l _ _ _ _) dX9_strong_2 rfl ⟨by decide, by decide, rfl, rfl, Nat.zero_le _, Nat.zero_le _⟩ rfl rfl rfl (Nat.le_of_ble_eq_true rfl) rfl rfl ?_
  refine g_if_ne (tgt := 10) (n := 8) dX9_strong_5 (by decide) rfl (fun c5 => absurd (bI_0.mpr h) c5) (fun c5 => ?_)
  refine g_iconst (v := (-1)) (n := 9) dX9_strong_8 (by decide) rfl ?_
  exact g_iret (ty := .int) dX9_strong_9 rfl rfl ⟨Nat.zero_le _, Nat.zero_le _⟩ ⟨rfl, rfl⟩
set_option maxRecDepth 20000 in
theorem t_X9_strong_ok (l : Launch) (e : MR) (V : WT) (S : ST) (hV : okV V) (hS : okZ S) (ha : ∀ j, 23 ≤ j → eAs e j = 0) (f : Nat) (hf : f < vnf V) (r : Nat) (hr1 : 1 ≤ r ∧ r ≤ 99) (hr2 : sgK V S f r = sgK V S f 99) (hr3 : ∀ i, 1 ≤ i → i < r → ¬ sgK V S f i = sgK V S f 99) (hpos : 1 ≤ sgK V S f 99) : Fn l M_X9_strong [.ref 0, .int (nI f)] (mw e (tk V) (pk S)) (some (.int (nI r))) (mw (sAs e (pk S)) (tk V) (pk S)) := by
  have hV1 := hV.1
  have hV2 := hV.2.1
  have hV3 := hV.2.2
  refine con_of rfl rfl (Nat.le_of_ble_eq_true rfl) ?_
  refine g_lsN (ls' := [_, _, _, _, _, _]) rfl ?_
  refine g_aload_n (n := 1) dX9_strong_0 rfl rfl ?_
  refine g_iload_n (n := 2) dX9_strong_1 rfl rfl ?_
  refine g_callWi (n := 5) cv_X9_119 (t_X9_isButtress l _ _ _ _) dX9_strong_2 rfl ⟨by decide, by decide, rfl, rfl, Nat.zero_le _, Nat.zero_le _⟩ rfl rfl rfl (Nat.le_of_ble_eq_true rfl) rfl rfl ?_
  refine g_if_ne (tgt := 10) (n := 8) dX9_strong_5 (by decide) rfl (fun c5 => ?_) (fun c5 => absurd c5 (bI_n0.mpr (show isB (vnf V) (nI f) = true by rw [isB_nI (by omega) (by omega)]; exact decide_eq_true hf)))
  refine g_aload_n (n := 11) dX9_strong_10 rfl rfl ?_
  refine g_callWv (n := 14) cv_X9_146 (t_X9_holds l _ _ _ hS ha) dX9_strong_11 rfl ⟨by decide, by decide, rfl, rfl, Nat.zero_le _, Nat.zero_le _⟩ rfl rfl rfl (Nat.le_of_ble_eq_true rfl) rfl rfl ?_
  refine g_aload_n (n := 15) dX9_strong_14 rfl rfl ?_
  refine g_get (n := 18) fl_X9_13 dX9_strong_15 rfl rfl rfl ?_
  refine g_bipush (v := nI 26) (n := 20) dX9_strong_18 (by decide) rfl ?_
  refine g_iload_n (n := 21) dX9_strong_20 rfl rfl ?_
  refine g_iaddN (n := 22) dX9_strong_21 rfl ?_
  refine g_ialdN (n := 23) dX9_strong_22 rfl rfl (by decide) (by omega) ?_
  refine g_top (tk_sg _ (by omega)) ?_
  refine g_istore_n (n := 24) dX9_strong_23 (by decide) rfl rfl ?_
  refine g_lsN (ls' := [_, _, _, _, _, _]) rfl ?_
  refine g_aload_n (n := 25) dX9_strong_24 rfl rfl ?_
  refine g_get (n := 28) fl_X9_13 dX9_strong_25 rfl rfl rfl ?_
  refine g_bipush (v := nI 26) (n := 30) dX9_strong_28 (by decide) rfl ?_
  refine g_iload_n (n := 31) dX9_strong_30 rfl rfl ?_
  refine g_iaddN (n := 32) dX9_strong_31 rfl ?_
  refine g_bipush (v := nI 99) (n := 34) dX9_strong_32 (by decide) rfl ?_
  refine g_iastN (n := 35) dX9_strong_34 rfl rfl (by decide) (by omega) ?_
  refine g_wN (w' := [_, _, _, _, _, _, _, _, _]) rfl ?_
  rw [tk_usg _ (by omega)]
  refine g_aload_n (n := 36) dX9_strong_35 rfl rfl ?_
  refine g_bipush (v := nI 60) (n := 38) dX9_strong_36 (by decide) rfl ?_
  refine g_callWi (n := 41) cv_X9_149 (t_X9_falls l (sAs e (pk S)) (vSg V f (nI 99)) _ hV _ (by decide)) dX9_strong_38 rfl ⟨by decide, by decide, rfl, rfl, Nat.zero_le _, Nat.zero_le _⟩ rfl rfl rfl (Nat.le_of_ble_eq_true rfl) rfl rfl ?_
  refine g_istore_n (n := 42) dX9_strong_41 (by decide) rfl rfl ?_
  refine g_lsN (ls' := [_, _, _, _, _, _]) rfl ?_
  refine g_aload_n (n := 43) dX9_strong_42 rfl rfl ?_
  refine g_callWv (n := 46) cv_X9_152 (t_X9_lets l (sAs e (pk S)) _ _ S (okZ_fl (show okV (vSg V f (nI 99)) from hV) _ _ _ hS) hS rfl) dX9_strong_43 rfl ⟨by decide, by decide, rfl, rfl, Nat.zero_le _, Nat.zero_le _⟩ rfl rfl rfl (Nat.le_of_ble_eq_true rfl) rfl rfl ?_
  refine g_iconst (v := nI 0) (n := 47) dX9_strong_46 (by decide) rfl ?_
  refine g_istore (n := 49) dX9_strong_47 (by decide) rfl rfl ?_
  refine g_lsN (ls' := [_, _, _, _, _, _]) rfl ?_
  refine g_iconst (v := nI 0) (n := 50) dX9_strong_49 (by decide) rfl ?_
  refine g_istore (n := 52) dX9_strong_50 (by decide) rfl rfl ?_
  refine g_lsN (ls' := [_, _, _, _, _, _]) rfl ?_
  exact lp_X9_strong l _ ⟨Nat.zero_le _, Nat.zero_le _⟩ _ e V S hV hS f hf r hr1 hr2 hr3 ⟨rfl, rfl⟩ 0 (Nat.zero_le _) 0 (nI 99) (fun _ q => by omega) (fun q => by omega) (by decide)
def whC (V : WT) (S : ST) (bays : Int32) (t : Nat) : Bool := decide (nI t &&& (usN V S (vnf V) ^^^ (-1)) = 0) && decide (hdN V (sUp S (nI t)) (vnb V) = bays)
def whN (V : WT) (S : ST) (bays : Int32) : Nat → Int32 × Int32
  | 0 => (nI 0, (-4))
  | t + 1 => ((whN V S bays t).1 + bI (whC V S bays t), if whC V S bays t && decide ((whN V S bays t).1 = 0) then nI t else (whN V S bays t).2)
set_option maxRecDepth 20000 in
theorem lp_X9_who (l : Launch) (z : Nat × Nat × Nat) (hz : z.2.1 ≤ 0 ∧ z.2.2 ≤ 0) (Q : Option Value → List va_E → Prop) (e : MR) (V : WT) (S : ST) (hV : okV V) (bays : Int32) (wh : Nat) (hwh : wh < 2) (hQ : Q (some (.int (if wh = 0 then (whN V S bays (2 ^ vnf V)).1 else (whN V S bays (2 ^ vnf V)).2))) (mw e (tk V) (pk S))) : ∀ t, t ≤ 2 ^ vnf V → ∀ (u : Int32) (o8 : Option Value), G l M_X9_who z Q 52 [some (.ref 0), some (.int bays), some (.int (nI wh)), some (.int (usN V S (vnf V))), some (.int (sup S)), some (.int (whN V S bays t).1), some (.int (whN V S bays t).2), some (.int (nI t)), o8] [] (mw e (tk V) (pk (sUp S u))) := by
  have hV1 := hV.1
  have hV2 := hV.2.1
  have hV3 := hV.2.2
  have hp := pow6 hV2
  refine loopN (2 ^ vnf V) ?_ (fun t ht ih => ?_)
  ·
    intro u o8
    refine g_iload (n := 54) dX9_who_52 rfl rfl ?_
    refine g_iconst (v := nI 1) (n := 55) dX9_who_54 (by decide) rfl ?_
    refine g_aload_n (n := 56) dX9_who_55 rfl rfl ?_
    refine g_get (n := 59) fl_X9_13 dX9_who_56 rfl rfl rfl ?_
    refine g_iconst (v := nI 1) (n := 60) dX9_who_59 (by decide) rfl ?_
    refine g_ialdN (n := 61) dX9_who_60 rfl rfl (by decide) (by omega) ?_
    refine g_top (tk_1 _) ?_
    refine g_ishl (n := 62) dX9_who_61 rfl ?_
    refine g_top (shl_pow (by omega)) ?_
    refine g_icmp_ge (tgt := 137) (n := 65) dX9_who_62 (by decide) rfl (fun c62 => ?_) (fun c62 => absurd (nI_le (Nat.le_refl _) (by omega)) c62)
    refine g_aload_n (n := 138) dX9_who_137 rfl rfl ?_
    refine g_get (n := 141) fl_X9_22 dX9_who_138 rfl rfl rfl ?_
    refine g_iconst (v := nI 1) (n := 142) dX9_who_141 (by decide) rfl ?_
    refine g_iload (n := 144) dX9_who_142 rfl rfl ?_
    refine g_iastN (n := 145) dX9_who_144 rfl rfl (by decide) (by omega) ?_
    refine g_wN (w' := [_, _, _, _, _, _, _, _, _]) rfl ?_
    rw [sk_up]
    refine g_iload_n (n := 146) dX9_who_145 rfl rfl ?_
    refine g_if_ne (tgt := 154) (n := 149) dX9_who_146 (by decide) rfl (fun c146 => ?_) (fun c146 => ?_)
    ·
      have hw : ¬ wh = 0 := fun q => c146 (by rw [q]; rfl)
      rw [if_neg hw] at hQ
      refine g_iload (n := 156) dX9_who_154 rfl rfl ?_
      exact g_iret (ty := .int) dX9_who_156 rfl rfl hz hQ
    ·
      have hw : wh = 0 := by
        rcases Nat.eq_zero_or_pos wh with q | q
        · exact q
        · exact absurd c146 (nI_ne0 q (by omega))
      rw [if_pos hw] at hQ
      refine g_iload (n := 151) dX9_who_149 rfl rfl ?_
      refine g_goto (tgt := 156) dX9_who_151 (by decide) ?_
      exact g_iret (ty := .int) dX9_who_156 rfl rfl hz hQ
  ·
    intro u o8
    have J95true : ∀ (o8 : Option Value), true = whC V S bays t → G l M_X9_who z Q 95 [some (.ref 0), some (.int bays), some (.int (nI wh)), some (.int (usN V S (vnf V))), some (.int (sup S)), some (.int (whN V S bays t).1), some (.int (whN V S bays t).2), some (.int (nI t)), o8] [.int (bI true)] (mw e (tk V) (pk (sUp S (nI t)))) := by
      intro o8 hc
      have e2 : whN V S bays (t + 1) = ((whN V S bays t).1 + bI true, if true && decide ((whN V S bays t).1 = 0) then nI t else (whN V S bays t).2) := by rw [whN, ← hc]
      rw [e2] at ih
      refine g_istore (n := 97) dX9_who_95 (by decide) rfl rfl ?_
      refine g_lsN (ls' := [_, _, _, _, _, _, _, _, _]) rfl ?_
      refine g_iload (n := 99) dX9_who_97 rfl rfl ?_
      refine g_if_eq (tgt := 112) (n := 102) dX9_who_99 (by decide) rfl (fun c99 => absurd c99 (by decide)) (fun c99 => ?_)
      refine g_iload (n := 104) dX9_who_102 rfl rfl ?_
      refine g_if_ne (tgt := 112) (n := 107) dX9_who_104 (by decide) rfl (fun c104 => ?_) (fun c104 => ?_)
      ·
        rw [decide_eq_false c104] at ih
        refine g_iload (n := 114) dX9_who_112 rfl rfl ?_
        refine g_istore (n := 116) dX9_who_114 (by decide) rfl rfl ?_
        refine g_lsN (ls' := [_, _, _, _, _, _, _, _, _]) rfl ?_
        refine g_iload (n := 118) dX9_who_116 rfl rfl ?_
        refine g_iload (n := 120) dX9_who_118 rfl rfl ?_
        refine g_if_eq (tgt := 127) (n := 123) dX9_who_120 (by decide) rfl (fun c120 => absurd c120 (by decide)) (fun c120 => ?_)
        refine g_iconst (v := nI 1) (n := 124) dX9_who_123 (by decide) rfl ?_
        refine g_goto (tgt := 128) dX9_who_124 (by decide) ?_
        refine g_iadd (n := 129) dX9_who_128 rfl ?_
        refine g_istore (n := 131) dX9_who_129 (by decide) rfl rfl ?_
        refine g_lsN (ls' := [_, _, _, _, _, _, _, _, _]) rfl ?_
        refine g_iincN (k := 1) (n := 134) dX9_who_131 rfl (by decide) rfl rfl ?_
        refine g_lsN (ls' := [_, _, _, _, _, _, _, _, _]) rfl ?_
        refine g_goto (tgt := 52) dX9_who_134 (by decide) ?_
        exact ih _ _
      ·
        rw [decide_eq_true c104] at ih
        refine g_iload (n := 109) dX9_who_107 rfl rfl ?_
        refine g_goto (tgt := 114) dX9_who_109 (by decide) ?_
        refine g_istore (n := 116) dX9_who_114 (by decide) rfl rfl ?_
        refine g_lsN (ls' := [_, _, _, _, _, _, _, _, _]) rfl ?_
        refine g_iload (n := 118) dX9_who_116 rfl rfl ?_
        refine g_iload (n := 120) dX9_who_118 rfl rfl ?_
        refine g_if_eq (tgt := 127) (n := 123) dX9_who_120 (by decide) rfl (fun c120 => absurd c120 (by decide)) (fun c120 => ?_)
        refine g_iconst (v := nI 1) (n := 124) dX9_who_123 (by decide) rfl ?_
        refine g_goto (tgt := 128) dX9_who_124 (by decide) ?_
        refine g_iadd (n := 129) dX9_who_128 rfl ?_
        refine g_istore (n := 131) dX9_who_129 (by decide) rfl rfl ?_
        refine g_lsN (ls' := [_, _, _, _, _, _, _, _, _]) rfl ?_
        refine g_iincN (k := 1) (n := 134) dX9_who_131 rfl (by decide) rfl rfl ?_
        refine g_lsN (ls' := [_, _, _, _, _, _, _, _, _]) rfl ?_
        refine g_goto (tgt := 52) dX9_who_134 (by decide) ?_
        exact ih _ _
    have J95false : ∀ (o8 : Option Value), false = whC V S bays t → G l M_X9_who z Q 95 [some (.ref 0), some (.int bays), some (.int (nI wh)), some (.int (usN V S (vnf V))), some (.int (sup S)), some (.int (whN V S bays t).1), some (.int (whN V S bays t).2), some (.int (nI t)), o8] [.int (bI false)] (mw e (tk V) (pk (sUp S (nI t)))) := by
      intro o8 hc
      have e2 : whN V S bays (t + 1) = ((whN V S bays t).1 + bI false, if false && decide ((whN V S bays t).1 = 0) then nI t else (whN V S bays t).2) := by rw [whN, ← hc]
      rw [e2] at ih
      refine g_istore (n := 97) dX9_who_95 (by decide) rfl rfl ?_
      refine g_lsN (ls' := [_, _, _, _, _, _, _, _, _]) rfl ?_
      refine g_iload (n := 99) dX9_who_97 rfl rfl ?_
      refine g_if_eq (tgt := 112) (n := 102) dX9_who_99 (by decide) rfl (fun c99 => ?_) (fun c99 => absurd (by decide) c99)
      refine g_iload (n := 114) dX9_who_112 rfl rfl ?_
      refine g_istore (n := 116) dX9_who_114 (by decide) rfl rfl ?_
      refine g_lsN (ls' := [_, _, _, _, _, _, _, _, _]) rfl ?_
      refine g_iload (n := 118) dX9_who_116 rfl rfl ?_
      refine g_iload (n := 120) dX9_who_118 rfl rfl ?_
      refine g_if_eq (tgt := 127) (n := 123) dX9_who_120 (by decide) rfl (fun c120 => ?_) (fun c120 => absurd (by decide) c120)
      refine g_iconst (v := nI 0) (n := 128) dX9_who_127 (by decide) rfl ?_
      refine g_iadd (n := 129) dX9_who_128 rfl ?_
      refine g_istore (n := 131) dX9_who_129 (by decide) rfl rfl ?_
      refine g_lsN (ls' := [_, _, _, _, _, _, _, _, _]) rfl ?_
      refine g_iincN (k := 1) (n := 134) dX9_who_131 rfl (by decide) rfl rfl ?_
      refine g_lsN (ls' := [_, _, _, _, _, _, _, _, _]) rfl ?_
      refine g_goto (tgt := 52) dX9_who_134 (by decide) ?_
      exact ih _ _
    refine g_iload (n := 54) dX9_who_52 rfl rfl ?_
    refine g_iconst (v := nI 1) (n := 55) dX9_who_54 (by decide) rfl ?_
    refine g_aload_n (n := 56) dX9_who_55 rfl rfl ?_
    refine g_get (n := 59) fl_X9_13 dX9_who_56 rfl rfl rfl ?_
    refine g_iconst (v := nI 1) (n := 60) dX9_who_59 (by decide) rfl ?_
    refine g_ialdN (n := 61) dX9_who_60 rfl rfl (by decide) (by omega) ?_
    refine g_top (tk_1 _) ?_
    refine g_ishl (n := 62) dX9_who_61 rfl ?_
    refine g_top (shl_pow (by omega)) ?_
    refine g_icmp_ge (tgt := 137) (n := 65) dX9_who_62 (by decide) rfl (fun c62 => absurd c62 (nI_ge ht (by omega))) (fun c62 => ?_)
    refine g_aload_n (n := 66) dX9_who_65 rfl rfl ?_
    refine g_get (n := 69) fl_X9_22 dX9_who_66 rfl rfl rfl ?_
    refine g_iconst (v := nI 1) (n := 70) dX9_who_69 (by decide) rfl ?_
    refine g_iload (n := 72) dX9_who_70 rfl rfl ?_
    refine g_iastN (n := 73) dX9_who_72 rfl rfl (by decide) (by omega) ?_
    refine g_wN (w' := [_, _, _, _, _, _, _, _, _]) rfl ?_
    rw [sk_up]
    refine g_iload (n := 75) dX9_who_73 rfl rfl ?_
    refine g_iload_n (n := 76) dX9_who_75 rfl rfl ?_
    refine g_iconst (v := (-1)) (n := 77) dX9_who_76 (by decide) rfl ?_
    refine g_ixor (n := 78) dX9_who_77 rfl ?_
    refine g_iand (n := 79) dX9_who_78 rfl ?_
    refine g_if_ne (tgt := 94) (n := 82) dX9_who_79 (by decide) rfl (fun c79 => ?_) (fun c79 => ?_)
    ·
      have e0 : false = whC V S bays t := by unfold whC; rw [decide_eq_false c79]; rfl
      refine g_iconst (v := nI 0) (n := 95) dX9_who_94 (by decide) rfl ?_
      first | exact J95true _ e0 | exact J95false _ e0
    ·
      have a1 := decide_eq_true c79
      refine g_aload_n (n := 83) dX9_who_82 rfl rfl ?_
      refine g_callWi (n := 86) cv_X9_125 (t_X9_heldNow l e V (sUp S (nI t)) hV) dX9_who_83 rfl ⟨by decide, by decide, rfl, rfl, hz.1, hz.2⟩ rfl rfl rfl (Nat.le_of_ble_eq_true rfl) rfl rfl ?_
      refine g_iload_n (n := 87) dX9_who_86 rfl rfl ?_
      refine g_icmp_ne (tgt := 94) (n := 90) dX9_who_87 (by decide) rfl (fun c87 => ?_) (fun c87 => ?_)
      ·
        have e0 : false = whC V S bays t := by unfold whC; rw [decide_eq_false c87, Bool.and_false]
        refine g_iconst (v := nI 0) (n := 95) dX9_who_94 (by decide) rfl ?_
        first | exact J95true _ e0 | exact J95false _ e0
      ·
        have e0 : true = whC V S bays t := by unfold whC; rw [a1, decide_eq_true c87]; rfl
        refine g_iconst (v := nI 1) (n := 91) dX9_who_90 (by decide) rfl ?_
        refine g_goto (tgt := 95) dX9_who_91 (by decide) ?_
        first | exact J95true _ e0 | exact J95false _ e0
set_option maxRecDepth 20000 in
theorem t_X9_who_bad1 (l : Launch) (e : MR) (V : WT) (S : ST) (hV : okV V) (x y : Int32) (h : inB x (nI 0) (nI (2 ^ vnb V) - nI 1) = false) : Fn l M_X9_who [.ref 0, .int x, .int y] (mw e (tk V) (pk S)) (some (.int (-1))) (mw e (tk V) (pk S)) := by
  have hV1 := hV.1
  have hV2 := hV.2.1
  have hV3 := hV.2.2
  refine con_of rfl rfl (Nat.le_of_ble_eq_true rfl) ?_
  refine g_lsN (ls' := [_, _, _, _, _, _, _, _, _]) rfl ?_
  refine g_iload_n (n := 1) dX9_who_0 rfl rfl ?_
  refine g_iconst (v := nI 0) (n := 2) dX9_who_1 (by decide) rfl ?_
  refine g_iconst (v := nI 1) (n := 3) dX9_who_2 (by decide) rfl ?_
  refine g_aload_n (n := 4) dX9_who_3 rfl rfl ?_
  refine g_get (n := 7) fl_X9_13 dX9_who_4 rfl rfl rfl ?_
  refine g_iconst (v := nI 0) (n := 8) dX9_who_7 (by decide) rfl ?_
  refine g_ialdN (n := 9) dX9_who_8 rfl rfl (by decide) (by omega) ?_
  refine g_top (tk_0 _) ?_
  refine g_ishl (n := 10) dX9_who_9 rfl ?_
  refine g_top (shl_pow (by omega)) ?_
  refine g_iconst (v := nI 1) (n := 11) dX9_who_10 (by decide) rfl ?_
  refine g_isub (n := 12) dX9_who_11 rfl ?_
  refine g_callSi (n := 15) cs_X9_52 (t_X9_in l _ _ _) dX9_who_12 rfl rfl ⟨by decide, by decide, rfl, rfl, Nat.zero_le _, Nat.zero_le _⟩ rfl (Nat.le_of_ble_eq_true rfl) rfl ?_
  refine g_if_eq (tgt := 27) (n := 18) dX9_who_15 (by decide) rfl (fun c15 => ?_) (fun c15 => absurd (bI_0.mpr h) c15)
  refine g_iconst (v := (-1)) (n := 28) dX9_who_27 (by decide) rfl ?_
  exact g_iret (ty := .int) dX9_who_28 rfl rfl ⟨Nat.zero_le _, Nat.zero_le _⟩ ⟨rfl, rfl⟩
set_option maxRecDepth 20000 in
theorem t_X9_who_bad2 (l : Launch) (e : MR) (V : WT) (S : ST) (hV : okV V) (x y : Int32) (h : inB x (nI 0) (nI (2 ^ vnb V) - nI 1) = true) (h2 : inB y (nI 0) (nI 1) = false) : Fn l M_X9_who [.ref 0, .int x, .int y] (mw e (tk V) (pk S)) (some (.int (-1))) (mw e (tk V) (pk S)) := by
  have hV1 := hV.1
  have hV2 := hV.2.1
  have hV3 := hV.2.2
  refine con_of rfl rfl (Nat.le_of_ble_eq_true rfl) ?_
  refine g_lsN (ls' := [_, _, _, _, _, _, _, _, _]) rfl ?_
  refine g_iload_n (n := 1) dX9_who_0 rfl rfl ?_
  refine g_iconst (v := nI 0) (n := 2) dX9_who_1 (by decide) rfl ?_
  refine g_iconst (v := nI 1) (n := 3) dX9_who_2 (by decide) rfl ?_
  refine g_aload_n (n := 4) dX9_who_3 rfl rfl ?_
  refine g_get (n := 7) fl_X9_13 dX9_who_4 rfl rfl rfl ?_
  refine g_iconst (v := nI 0) (n := 8) dX9_who_7 (by decide) rfl ?_
  refine g_ialdN (n := 9) dX9_who_8 rfl rfl (by decide) (by omega) ?_
  refine g_top (tk_0 _) ?_
  refine g_ishl (n := 10) dX9_who_9 rfl ?_
  refine g_top (shl_pow (by omega)) ?_
  refine g_iconst (v := nI 1) (n := 11) dX9_who_10 (by decide) rfl ?_
  refine g_isub (n := 12) dX9_who_11 rfl ?_
  refine g_callSi (n := 15) cs_X9_52 (t_X9_in l _ _ _) dX9_who_12 rfl rfl ⟨by decide, by decide, rfl, rfl, Nat.zero_le _, Nat.zero_le _⟩ rfl (Nat.le_of_ble_eq_true rfl) rfl ?_
  refine g_if_eq (tgt := 27) (n := 18) dX9_who_15 (by decide) rfl (fun c15 => absurd c15 (bI_n0.mpr h)) (fun c15 => ?_)
  refine g_iload_n (n := 19) dX9_who_18 rfl rfl ?_
  refine g_iconst (v := nI 0) (n := 20) dX9_who_19 (by decide) rfl ?_
  refine g_iconst (v := nI 1) (n := 21) dX9_who_20 (by decide) rfl ?_
  refine g_callSi (n := 24) cs_X9_52 (t_X9_in l _ _ _) dX9_who_21 rfl rfl ⟨by decide, by decide, rfl, rfl, Nat.zero_le _, Nat.zero_le _⟩ rfl (Nat.le_of_ble_eq_true rfl) rfl ?_
  refine g_if_ne (tgt := 29) (n := 27) dX9_who_24 (by decide) rfl (fun c24 => absurd (bI_0.mpr h2) c24) (fun c24 => ?_)
  refine g_iconst (v := (-1)) (n := 28) dX9_who_27 (by decide) rfl ?_
  exact g_iret (ty := .int) dX9_who_28 rfl rfl ⟨Nat.zero_le _, Nat.zero_le _⟩ ⟨rfl, rfl⟩
set_option maxRecDepth 20000 in
theorem t_X9_who_ok (l : Launch) (e : MR) (V : WT) (S : ST) (hV : okV V) (bays : Int32) (h : inB bays (nI 0) (nI (2 ^ vnb V) - nI 1) = true) (wh : Nat) (hwh : wh < 2) : Fn l M_X9_who [.ref 0, .int bays, .int (nI wh)] (mw e (tk V) (pk S)) (some (.int (if wh = 0 then (whN V S bays (2 ^ vnf V)).1 else (whN V S bays (2 ^ vnf V)).2))) (mw e (tk V) (pk S)) := by
  have hV1 := hV.1
  have hV2 := hV.2.1
  have hV3 := hV.2.2
  refine con_of rfl rfl (Nat.le_of_ble_eq_true rfl) ?_
  refine g_lsN (ls' := [_, _, _, _, _, _, _, _, _]) rfl ?_
  refine g_iload_n (n := 1) dX9_who_0 rfl rfl ?_
  refine g_iconst (v := nI 0) (n := 2) dX9_who_1 (by decide) rfl ?_
  refine g_iconst (v := nI 1) (n := 3) dX9_who_2 (by decide) rfl ?_
  refine g_aload_n (n := 4) dX9_who_3 rfl rfl ?_
  refine g_get (n := 7) fl_X9_13 dX9_who_4 rfl rfl rfl ?_
  refine g_iconst (v := nI 0) (n := 8) dX9_who_7 (by decide) rfl ?_
  refine g_ialdN (n := 9) dX9_who_8 rfl rfl (by decide) (by omega) ?_
  refine g_top (tk_0 _) ?_
  refine g_ishl (n := 10) dX9_who_9 rfl ?_
  refine g_top (shl_pow (by omega)) ?_
  refine g_iconst (v := nI 1) (n := 11) dX9_who_10 (by decide) rfl ?_
  refine g_isub (n := 12) dX9_who_11 rfl ?_
  refine g_callSi (n := 15) cs_X9_52 (t_X9_in l _ _ _) dX9_who_12 rfl rfl ⟨by decide, by decide, rfl, rfl, Nat.zero_le _, Nat.zero_le _⟩ rfl (Nat.le_of_ble_eq_true rfl) rfl ?_
  refine g_if_eq (tgt := 27) (n := 18) dX9_who_15 (by decide) rfl (fun c15 => absurd c15 (bI_n0.mpr h)) (fun c15 => ?_)
  refine g_iload_n (n := 19) dX9_who_18 rfl rfl ?_
  refine g_iconst (v := nI 0) (n := 20) dX9_who_19 (by decide) rfl ?_
  refine g_iconst (v := nI 1) (n := 21) dX9_who_20 (by decide) rfl ?_
  refine g_callSi (n := 24) cs_X9_52 (t_X9_in l _ _ _) dX9_who_21 rfl rfl ⟨by decide, by decide, rfl, rfl, Nat.zero_le _, Nat.zero_le _⟩ rfl (Nat.le_of_ble_eq_true rfl) rfl ?_
  refine g_if_ne (tgt := 29) (n := 27) dX9_who_24 (by decide) rfl (fun c24 => ?_) (fun c24 => absurd c24 (bI_n0.mpr (show inB (nI wh) (nI 0) (nI 1) = true by rcases (show wh = 0 ∨ wh = 1 by omega) with rfl | rfl <;> decide)))
  refine g_aload_n (n := 30) dX9_who_29 rfl rfl ?_
  refine g_callWi (n := 33) cv_X9_158 (t_X9_useful l _ _ _ hV) dX9_who_30 rfl ⟨by decide, by decide, rfl, rfl, Nat.zero_le _, Nat.zero_le _⟩ rfl rfl rfl (Nat.le_of_ble_eq_true rfl) rfl rfl ?_
  refine g_istore_n (n := 34) dX9_who_33 (by decide) rfl rfl ?_
  refine g_lsN (ls' := [_, _, _, _, _, _, _, _, _]) rfl ?_
  refine g_aload_n (n := 35) dX9_who_34 rfl rfl ?_
  refine g_get (n := 38) fl_X9_22 dX9_who_35 rfl rfl rfl ?_
  refine g_iconst (v := nI 1) (n := 39) dX9_who_38 (by decide) rfl ?_
  refine g_ialdN (n := 40) dX9_who_39 rfl rfl (by decide) (by omega) ?_
  refine g_top (sk_1 _) ?_
  refine g_istore (n := 42) dX9_who_40 (by decide) rfl rfl ?_
  refine g_lsN (ls' := [_, _, _, _, _, _, _, _, _]) rfl ?_
  refine g_iconst (v := nI 0) (n := 43) dX9_who_42 (by decide) rfl ?_
  refine g_istore (n := 45) dX9_who_43 (by decide) rfl rfl ?_
  refine g_lsN (ls' := [_, _, _, _, _, _, _, _, _]) rfl ?_
  refine g_bipush (v := (-4)) (n := 47) dX9_who_45 (by decide) rfl ?_
  refine g_istore (n := 49) dX9_who_47 (by decide) rfl rfl ?_
  refine g_lsN (ls' := [_, _, _, _, _, _, _, _, _]) rfl ?_
  refine g_iconst (v := nI 0) (n := 50) dX9_who_49 (by decide) rfl ?_
  refine g_istore (n := 52) dX9_who_50 (by decide) rfl rfl ?_
  refine g_lsN (ls' := [_, _, _, _, _, _, _, _, _]) rfl ?_
  exact lp_X9_who l _ ⟨Nat.zero_le _, Nat.zero_le _⟩ _ e V S hV bays wh hwh ⟨rfl, rfl⟩ 0 (Nat.zero_le _) _ _

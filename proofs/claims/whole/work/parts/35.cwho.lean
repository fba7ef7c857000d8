/-! 35.cwho: the class's who, night -/
/-- sets from the highest down: how many fit, the lowest -/
def wdN (V : WT) (S : ST) (bays : Int32) (N : Nat) : Nat → Int32 × Int32
  | 0 => (nI 0, (-4))
  | i + 1 => if whC V S bays (N - 1 - i) then ((wdN V S bays N i).1 + nI 1, nI (N - 1 - i)) else wdN V S bays N i
theorem wh_n (V : WT) (S : ST) (bays : Int32) : ∀ t, ∃ c, c ≤ t ∧ (whN V S bays t).1 = nI c ∧ (c = 0 → (whN V S bays t).2 = (-4))
  | 0 => ⟨0, Nat.le_refl _, rfl, fun _ => rfl⟩
  | t + 1 => by
    obtain ⟨c, h1, h2, h3⟩ := wh_n V S bays t
    rw [whN]
    cases q : whC V S bays t with
    | true => exact ⟨c + 1, by omega, by show _ + nI 1 = _; rw [h2, nI_add], fun q => absurd q (Nat.succ_ne_zero _)⟩
    | false => exact ⟨c, by omega, by show _ + nI 0 = _; rw [h2, nI_add]; rfl, fun q => h3 q⟩
theorem wd_wh (V : WT) (S : ST) (bays : Int32) (N : Nat) (hN : N ≤ 64) : ∀ i, i ≤ N → (whN V S bays (N - i)).1 + (wdN V S bays N i).1 = (whN V S bays N).1 ∧ (if (whN V S bays (N - i)).1 = 0 then (wdN V S bays N i).2 else (whN V S bays (N - i)).2) = (whN V S bays N).2
  | 0, _ => by
    obtain ⟨c, h1, h2, h3⟩ := wh_n V S bays N
    refine ⟨Int32.add_zero _, ?_⟩
    show (if (whN V S bays N).1 = 0 then (-4) else (whN V S bays N).2) = _
    split
    · next q =>
      rw [h2] at q
      rcases Nat.eq_zero_or_pos c with z | z
      · exact (h3 z).symm
      · exact absurd q (nI_ne0 z (by omega))
    · rfl
  | i + 1, hi => by
    obtain ⟨ih1, ih2⟩ := wd_wh V S bays N hN i (by omega)
    obtain ⟨c, h1, h2, h3⟩ := wh_n V S bays (N - (i + 1))
    have e1 : N - i = (N - (i + 1)) + 1 := by omega
    have e2 : N - 1 - i = N - (i + 1) := by omega
    rw [e1, whN] at ih1 ih2
    rw [wdN, e2]
    cases q : whC V S bays (N - (i + 1)) with
    | true =>
      rw [q] at ih1 ih2
      have ih1 : (whN V S bays (N - (i + 1))).1 + nI 1 + (wdN V S bays N i).1 = (whN V S bays N).1 := ih1
      rw [if_pos rfl]
      refine ⟨?_, ?_⟩
      · rw [← ih1]
        show (whN V S bays (N - (i + 1))).1 + ((wdN V S bays N i).1 + nI 1) = _
        rw [Int32.add_assoc, Int32.add_comm (nI 1)]
      · have ih2 : (if (whN V S bays (N - (i + 1))).1 + nI 1 = 0 then (wdN V S bays N i).2 else (if (true && decide ((whN V S bays (N - (i + 1))).1 = 0)) = true then nI (N - (i + 1)) else (whN V S bays (N - (i + 1))).2)) = _ := ih2
        rw [if_neg (by rw [h2, nI_add]; exact nI_ne0 (Nat.succ_pos _) (by omega)), Bool.true_and] at ih2
        rw [← ih2]
        show (if _ then nI (N - (i + 1)) else _) = _
        by_cases z : (whN V S bays (N - (i + 1))).1 = 0
        · rw [if_pos z, if_pos (decide_eq_true z)]
        · rw [if_neg z, if_neg (by rw [decide_eq_false z]; exact Bool.false_ne_true)]
    | false =>
      rw [q] at ih1 ih2
      have ih1 : (whN V S bays (N - (i + 1))).1 + nI 0 + (wdN V S bays N i).1 = (whN V S bays N).1 := ih1
      have ih2 : (if (whN V S bays (N - (i + 1))).1 + nI 0 = 0 then (wdN V S bays N i).2 else (if (false && decide ((whN V S bays (N - (i + 1))).1 = 0)) = true then nI (N - (i + 1)) else (whN V S bays (N - (i + 1))).2)) = _ := ih2
      rw [show ∀ x : Int32, x + nI 0 = x from Int32.add_zero] at ih1 ih2
      rw [Bool.false_and, if_neg Bool.false_ne_true] at ih2
      rw [if_neg Bool.false_ne_true]
      exact ⟨ih1, ih2⟩
theorem wd_end (V : WT) (S : ST) (bays : Int32) {N : Nat} (hN : N ≤ 64) : wdN V S bays N N = whN V S bays N := by
  obtain ⟨h1, h2⟩ := wd_wh V S bays N hN N (Nat.le_refl _)
  rw [Nat.sub_self] at h1 h2
  have h1 : nI 0 + (wdN V S bays N N).1 = _ := h1
  have h2 : (if nI 0 = 0 then (wdN V S bays N N).2 else (-4)) = _ := h2
  rw [if_pos (show nI 0 = 0 from rfl)] at h2
  rw [show ∀ x : Int32, nI 0 + x = x from Int32.zero_add] at h1
  exact Prod.ext h1 h2
theorem nI_dec (x : Int32) : x + Int32.ofInt (-1) = x - nI 1 := by
  rw [Int32.sub_eq_add_neg]
  rfl
theorem as_wh {V : WT} (hV : okV V) (S : ST) (bays : Int32) {t : Nat} (ht : t < 2 ^ vnf V) : whC V S bays t = (asN S (nI t) (vnf V) && decide (hdN V (sUp S (nI t)) (vnb V) = bays)) := by
  unfold whC
  rw [as_us hV S ht]
/-! nights -/
theorem okN_and {x : Int32} (y : Int32) (h : okN x) : okN (x &&& y) := okN_of (fun j h8 hj => by rw [hb_and _ _ hj, okN_hb h h8 hj, Bool.false_and])
theorem okN_or {x y : Int32} (h : okN x) (h2 : okN y) : okN (x ||| y) := okN_of (fun j h8 hj => by rw [hb_or _ _ hj, okN_hb h h8 hj, okN_hb h2 h8 hj, Bool.false_or])
theorem okN_shb {f : Nat} (hf : f < 8) : okN (nI 1 <<< (nI f &&& 31)) := okN_of (fun j h8 hj => by rw [hb_shb (by omega) hj, decide_eq_false (by omega)])
theorem okN_upN (V : WT) (S : ST) (h : okN (sup S)) : ∀ k, okN (upN V S k)
  | 0 => h
  | k + 1 => okN_and _ (okN_upN V S h k)
/-- who is up and what has fallen are bits -/
def okU (S : ST) : Prop := okN (sup S) ∧ okN (sfa S)
theorem okU_ps {V : WT} {S : ST} (hV : okV V) (h : okU S) : okU (psF V S) := ⟨okN_upN V S h.1 _, okN_or h.2 (okN_flN V S _ hV.1)⟩
theorem okU_tu {V : WT} {S : ST} (hV : okV V) (d : Nat) (h0 : 0 < vnf V) (h : okU S) : okU (tuF V S d) := by
  have h6 := hV.2.1
  have hf : d / 8 % vnf V < vnf V := Nat.mod_lt _ h0
  unfold tuF
  split
  · exact ⟨okN_and _ h.1, h.2⟩
  · split
    · exact ⟨okN_or h.1 (okN_shb (by omega)), h.2⟩
    · split
      · exact h
      · exact h
theorem okS_tu {V : WT} {S : ST} {a : Nat} (hV : okV V) (d : Nat) (h0 : 0 < vnf V) (h1 : 0 < vnb V) (h : okS V S a) : okS V (tuF V S d) a := by
  unfold tuF
  split
  · exact h
  · split
    · exact h
    · split
      · exact okS_bo hV h (Nat.mod_lt _ h0) (Nat.mod_lt _ h1)
      · exact h
theorem okS_ni {V : WT} {S : ST} {a : Nat} (hV : okV V) (h1 : 0 < vnb V) (z : Nat) (h : okS V S a) : ∀ k, okS V (niN V S z k) (a + k)
  | 0 => h
  | k + 1 => by
    rw [niN]
    refine okS_ps hV ?_
    split
    · next q => exact okS_tu hV _ q h1 (okS_ni hV h1 z h k)
    · exact okS_ni hV h1 z h k
theorem okU_ni {V : WT} {S : ST} (hV : okV V) (z : Nat) (h : okU S) : ∀ k, okU (niN V S z k)
  | 0 => h
  | k + 1 => by
    rw [niN]
    refine okU_ps hV ?_
    split
    · next q => exact okU_tu hV _ q (okU_ni hV z h k)
    · exact okU_ni hV z h k
theorem t_J6_bitN (l : Launch) (x : Int32) (h : okN x) : Fn l M_J6_bitCount_0f7a4 [.int x] [] (some (.int (on x 8))) [] := by
  obtain ⟨k, hk, rfl⟩ := h
  exact t_J6_bitCount l k hk

set_option maxRecDepth 20000 in
theorem t_X8_who_bad1 (l : Launch) (fell : Int32) (T : ST) (hT : okZ T) (ra lo pr rb lb pb : Nat → Int32) (kc : Int32) (S : ST) (V : WT) (hV : okV V) (dn : Int32) (fb : Nat → Int32) (U : WT) (un : Int32) (ub : Nat → Int32) (a : Nat) (ha : a + 100 < 2 ^ 31) (hS : okS V S a) (x y : Int32) (h : inB x (nI 0) (nI (2 ^ vnb V) - nI 1) = false) : Con l M_X8_who [.ref 0, .int x, .int y] (xa fell T ra lo pr rb lb pb kc S V dn fb U un ub) (fun r u => r = some (.int (-1)) ∧ ∃ fell T ra lo pr rb lb pb, okZ T ∧ u = xa fell T ra lo pr rb lb pb kc S V dn fb U un ub) := by
  refine con_of rfl rfl (Nat.le_of_ble_eq_true rfl) ?_
  refine g_lsN (ls' := [_, _, _, _, _, _]) rfl ?_
  refine g_iload_n (n := 1) dX8_who_0 rfl rfl ?_
  refine g_if_lt (tgt := 24) (n := 4) dX8_who_1 (by decide) rfl (fun c1 => ?_) (fun c1 => ?_)
  ·
    refine g_iconst (v := (-1)) (n := 25) dX8_who_24 (by decide) rfl ?_
    exact g_iret (ty := .int) dX8_who_25 rfl rfl ⟨Nat.zero_le _, Nat.zero_le _⟩ ⟨rfl, _, _, _, _, _, _, _, _, hT, rfl⟩
  ·
    refine g_iload_n (n := 5) dX8_who_4 rfl rfl ?_
    refine g_aload_n (n := 6) dX8_who_5 rfl rfl ?_
    refine g_get (n := 9) fl_X8_65 dX8_who_6 rfl rfl rfl ?_
    refine g_cutVi (ps := [14, 15, 16, 17, 18, 19, 20]) (w' := [_, _, _, _, _, _, _, _, _, _, _, _, _, _, _, _, _, _, _, _, _, _, _, _, _, _, _, _, _, _, _, _]) (n := 12) cv_X8_228 (t_X7_allBays l V hV dn) dX8_who_9 rfl rfl rfl ⟨by decide, by decide, rfl, rfl, Nat.zero_le _, Nat.zero_le _⟩ rfl rfl rfl (Nat.le_of_ble_eq_true rfl) rfl rfl rfl ?_
    refine g_icmp_gt (tgt := 24) (n := 15) dX8_who_12 (by decide) rfl (fun c12 => ?_) (fun c12 => ?_)
    ·
      refine g_iconst (v := (-1)) (n := 25) dX8_who_24 (by decide) rfl ?_
      exact g_iret (ty := .int) dX8_who_25 rfl rfl ⟨Nat.zero_le _, Nat.zero_le _⟩ ⟨rfl, _, _, _, _, _, _, _, _, hT, rfl⟩
    ·
      exact inB_x h c1 (Int32.not_lt.mp c12)
set_option maxRecDepth 20000 in
theorem t_X8_who_bad2 (l : Launch) (fell : Int32) (T : ST) (hT : okZ T) (ra lo pr rb lb pb : Nat → Int32) (kc : Int32) (S : ST) (V : WT) (hV : okV V) (dn : Int32) (fb : Nat → Int32) (U : WT) (un : Int32) (ub : Nat → Int32) (a : Nat) (ha : a + 100 < 2 ^ 31) (hS : okS V S a) (x y : Int32) (h : inB x (nI 0) (nI (2 ^ vnb V) - nI 1) = true) (h2 : inB y (nI 0) (nI 1) = false) : Con l M_X8_who [.ref 0, .int x, .int y] (xa fell T ra lo pr rb lb pb kc S V dn fb U un ub) (fun r u => r = some (.int (-1)) ∧ ∃ fell T ra lo pr rb lb pb, okZ T ∧ u = xa fell T ra lo pr rb lb pb kc S V dn fb U un ub) := by
  refine con_of rfl rfl (Nat.le_of_ble_eq_true rfl) ?_
  refine g_lsN (ls' := [_, _, _, _, _, _]) rfl ?_
  refine g_iload_n (n := 1) dX8_who_0 rfl rfl ?_
  refine g_if_lt (tgt := 24) (n := 4) dX8_who_1 (by decide) rfl (fun c1 => absurd c1 (inB_ge h)) (fun c1 => ?_)
  refine g_iload_n (n := 5) dX8_who_4 rfl rfl ?_
  refine g_aload_n (n := 6) dX8_who_5 rfl rfl ?_
  refine g_get (n := 9) fl_X8_65 dX8_who_6 rfl rfl rfl ?_
  refine g_cutVi (ps := [14, 15, 16, 17, 18, 19, 20]) (w' := [_, _, _, _, _, _, _, _, _, _, _, _, _, _, _, _, _, _, _, _, _, _, _, _, _, _, _, _, _, _, _, _]) (n := 12) cv_X8_228 (t_X7_allBays l V hV dn) dX8_who_9 rfl rfl rfl ⟨by decide, by decide, rfl, rfl, Nat.zero_le _, Nat.zero_le _⟩ rfl rfl rfl (Nat.le_of_ble_eq_true rfl) rfl rfl rfl ?_
  refine g_icmp_gt (tgt := 24) (n := 15) dX8_who_12 (by decide) rfl (fun c12 => absurd c12 (Int32.not_lt.mpr (inB_le h))) (fun c12 => ?_)
  refine g_iload_n (n := 16) dX8_who_15 rfl rfl ?_
  refine g_if_lt (tgt := 24) (n := 19) dX8_who_16 (by decide) rfl (fun c16 => ?_) (fun c16 => ?_)
  ·
    refine g_iconst (v := (-1)) (n := 25) dX8_who_24 (by decide) rfl ?_
    exact g_iret (ty := .int) dX8_who_25 rfl rfl ⟨Nat.zero_le _, Nat.zero_le _⟩ ⟨rfl, _, _, _, _, _, _, _, _, hT, rfl⟩
  ·
    refine g_iload_n (n := 20) dX8_who_19 rfl rfl ?_
    refine g_iconst (v := nI 1) (n := 21) dX8_who_20 (by decide) rfl ?_
    refine g_icmp_le (tgt := 26) (n := 24) dX8_who_21 (by decide) rfl (fun c21 => ?_) (fun c21 => ?_)
    ·
      exact inB_x h2 c16 c21
    ·
      refine g_iconst (v := (-1)) (n := 25) dX8_who_24 (by decide) rfl ?_
      exact g_iret (ty := .int) dX8_who_25 rfl rfl ⟨Nat.zero_le _, Nat.zero_le _⟩ ⟨rfl, _, _, _, _, _, _, _, _, hT, rfl⟩
set_option maxRecDepth 20000 in
theorem lp_X8_who (l : Launch) (z : Nat × Nat × Nat) (hz : z.2.1 ≤ 0 ∧ z.2.2 ≤ 0) (Q : Option Value → List va_E → Prop)  (kc : Int32) (S : ST) (V : WT) (hV : okV V) (dn : Int32) (fb : Nat → Int32) (U : WT) (un : Int32) (ub : Nat → Int32) (a : Nat) (ha : a + 100 < 2 ^ 31) (hS : okS V S a) (bays : Int32) (wh : Nat) (hwh : wh < 2) (hQ : ∀ fell T ra lo pr rb lb pb, okZ T → Q (some (.int (if wh = 0 then (whN V S bays (2 ^ vnf V)).1 else (whN V S bays (2 ^ vnf V)).2))) (xa fell T ra lo pr rb lb pb kc S V dn fb U un ub)) : ∀ j, j ≤ 2 ^ vnf V → ∀ (fell : Int32) (T : ST) (hT : okZ T) (ra lo pr rb lb pb : Nat → Int32), G l M_X8_who z Q 41 [some (.ref 0), some (.int bays), some (.int (nI wh)), some (.int (wdN V S bays (2 ^ vnf V) (2 ^ vnf V - j)).1), some (.int (wdN V S bays (2 ^ vnf V) (2 ^ vnf V - j)).2), some (.int (nI j - nI 1))] [] (xa fell T ra lo pr rb lb pb kc S V dn fb U un ub) := by
  have hV1 := hV.1
  have hV2 := hV.2.1
  have hV3 := hV.2.2
  have hp := pow6 hV2
  intro j
  induction j with
  | zero =>
    intro _ fell T hT ra lo pr rb lb pb
    rw [Nat.sub_zero, wd_end V S bays hp]
    refine g_iload (n := 43) dX8_who_41 rfl rfl ?_
    refine g_if_lt (tgt := 85) (n := 46) dX8_who_43 (by decide) rfl (fun c43 => ?_) (fun c43 => absurd (by decide) c43)
    refine g_iload_n (n := 86) dX8_who_85 rfl rfl ?_
    refine g_if_ne (tgt := 93) (n := 89) dX8_who_86 (by decide) rfl (fun c86 => ?_) (fun c86 => ?_)
    ·
      have hw : ¬ wh = 0 := fun q => c86 (by rw [q]; rfl)
      rw [if_neg hw] at hQ
      refine g_iload (n := 95) dX8_who_93 rfl rfl ?_
      exact g_iret (ty := .int) dX8_who_95 rfl rfl hz (hQ _ _ _ _ _ _ _ _ hT)
    ·
      have hw : wh = 0 := by
        rcases Nat.eq_zero_or_pos wh with q | q
        · exact q
        · exact absurd c86 (nI_ne0 q (by omega))
      rw [if_pos hw] at hQ
      refine g_iload_n (n := 90) dX8_who_89 rfl rfl ?_
      refine g_goto (tgt := 95) dX8_who_90 (by decide) ?_
      exact g_iret (ty := .int) dX8_who_95 rfl rfl hz (hQ _ _ _ _ _ _ _ _ hT)
  | succ j ih =>
    intro hj fell T hT ra lo pr rb lb pb
    have ih := ih (by omega)
    have e5 : wdN V S bays (2 ^ vnf V) (2 ^ vnf V - j) = if whC V S bays j then ((wdN V S bays (2 ^ vnf V) (2 ^ vnf V - (j + 1))).1 + nI 1, nI j) else wdN V S bays (2 ^ vnf V) (2 ^ vnf V - (j + 1)) := by
      rw [show 2 ^ vnf V - j = (2 ^ vnf V - (j + 1)) + 1 from by omega, wdN, show 2 ^ vnf V - 1 - (2 ^ vnf V - (j + 1)) = j from by omega]
    rw [as_wh hV S bays (show j < 2 ^ vnf V by omega)] at e5
    rw [show nI (j + 1) - nI 1 = nI j from nI_sub1 (Nat.succ_pos j)]
    refine g_iload (n := 43) dX8_who_41 rfl rfl ?_
    refine g_if_lt (tgt := 85) (n := 46) dX8_who_43 (by decide) rfl (fun c43 => absurd c43 (Int32.not_lt.mpr (nI_le (Nat.zero_le _) (by omega)))) (fun c43 => ?_)
    refine g_aload_n (n := 47) dX8_who_46 rfl rfl ?_
    refine g_get (n := 50) fl_X8_47 dX8_who_47 rfl rfl rfl ?_
    refine g_aload_n (n := 51) dX8_who_50 rfl rfl ?_
    refine g_get (n := 54) fl_X8_65 dX8_who_51 rfl rfl rfl ?_
    refine g_iload (n := 56) dX8_who_54 rfl rfl ?_
    refine g_cutVi (ps := [14, 15, 16, 17, 18, 19, 20, 10, 11, 12, 13]) (w' := [_, _, _, _, _, _, _, _, _, _, _, _, _, _, _, _, _, _, _, _, _, _, _, _, _, _, _, _, _, _, _, _]) (n := 59) cv_X8_192 (t_X3_allAtStanding l V hV dn fb S _) dX8_who_56 rfl rfl rfl ⟨by decide, by decide, rfl, rfl, hz.1, hz.2⟩ rfl rfl rfl (Nat.le_of_ble_eq_true rfl) rfl rfl rfl ?_
    refine g_if_eq (tgt := 79) (n := 62) dX8_who_59 (by decide) rfl (fun c59 => ?_) (fun c59 => ?_)
    ·
      have e9 : wdN V S bays (2 ^ vnf V) (2 ^ vnf V - j) = wdN V S bays (2 ^ vnf V) (2 ^ vnf V - (j + 1)) := by rw [e5, bI_0.mp c59]; rfl
      refine g_iinc (n := 82) dX8_who_79 rfl rfl (by decide) rfl rfl ?_
      refine g_lsN (ls' := [_, _, _, _, _, _]) rfl ?_
      refine g_lsN (ls' := [some (.ref 0), some (.int bays), some (.int (nI wh)), some (.int (wdN V S bays (2 ^ vnf V) (2 ^ vnf V - j)).1), some (.int (wdN V S bays (2 ^ vnf V) (2 ^ vnf V - j)).2), some (.int (nI j - nI 1))]) (by rw [e9, nI_dec]; try rfl) ?_
      refine g_goto (tgt := 41) dX8_who_82 (by decide) ?_
      exact ih _ _ (by assumption) _ _ _ _ _ _
    ·
      have b1 := bI_n0.mp c59
      refine g_aload_n (n := 63) dX8_who_62 rfl rfl ?_
      refine g_iload (n := 65) dX8_who_63 rfl rfl ?_
      refine g_callW (n := 68) cv_X8_231 (t_X8_wouldBeHeld l fell T hT ra lo pr rb lb pb kc S V hV dn fb U un ub a ha hS (nI j)) dX8_who_65 rfl ⟨by decide, by decide, rfl, rfl, hz.1, hz.2⟩ rfl rfl rfl (Nat.le_of_ble_eq_true rfl) rfl (fun r cw65 hq65 => ?_)
      obtain ⟨rfl, fell2, T2, ra2, lo2, pr2, rb2, lb2, pb2, hT2, rfl⟩ := hq65
      refine ⟨rfl, ?_⟩
      refine g_stN (st' := .int _ :: []) rfl ?_
      refine g_wN (w' := [_, _, _, _, _, _, _, _, _, _, _, _, _, _, _, _, _, _, _, _, _, _, _, _, _, _, _, _, _, _, _, _]) rfl ?_
      refine g_iload_n (n := 69) dX8_who_68 rfl rfl ?_
      refine g_icmp_ne (tgt := 79) (n := 72) dX8_who_69 (by decide) rfl (fun c69 => ?_) (fun c69 => ?_)
      ·
        have e9 : wdN V S bays (2 ^ vnf V) (2 ^ vnf V - j) = wdN V S bays (2 ^ vnf V) (2 ^ vnf V - (j + 1)) := by rw [e5, b1, decide_eq_false c69]; rfl
        refine g_iinc (n := 82) dX8_who_79 rfl rfl (by decide) rfl rfl ?_
        refine g_lsN (ls' := [_, _, _, _, _, _]) rfl ?_
        refine g_lsN (ls' := [some (.ref 0), some (.int bays), some (.int (nI wh)), some (.int (wdN V S bays (2 ^ vnf V) (2 ^ vnf V - j)).1), some (.int (wdN V S bays (2 ^ vnf V) (2 ^ vnf V - j)).2), some (.int (nI j - nI 1))]) (by rw [e9, nI_dec]; try rfl) ?_
        refine g_goto (tgt := 41) dX8_who_82 (by decide) ?_
        exact ih _ _ (by assumption) _ _ _ _ _ _
      ·
        have e9 : wdN V S bays (2 ^ vnf V) (2 ^ vnf V - j) = ((wdN V S bays (2 ^ vnf V) (2 ^ vnf V - (j + 1))).1 + nI 1, nI j) := by rw [e5, b1, decide_eq_true c69]; rfl
        refine g_iinc (n := 75) dX8_who_72 rfl rfl (by decide) rfl rfl ?_
        refine g_lsN (ls' := [_, _, _, _, _, _]) rfl ?_
        refine g_iload (n := 77) dX8_who_75 rfl rfl ?_
        refine g_istore (n := 79) dX8_who_77 (by decide) rfl rfl ?_
        refine g_lsN (ls' := [_, _, _, _, _, _]) rfl ?_
        refine g_iinc (n := 82) dX8_who_79 rfl rfl (by decide) rfl rfl ?_
        refine g_lsN (ls' := [_, _, _, _, _, _]) rfl ?_
        refine g_lsN (ls' := [some (.ref 0), some (.int bays), some (.int (nI wh)), some (.int (wdN V S bays (2 ^ vnf V) (2 ^ vnf V - j)).1), some (.int (wdN V S bays (2 ^ vnf V) (2 ^ vnf V - j)).2), some (.int (nI j - nI 1))]) (by rw [e9, nI_dec]; try rfl) ?_
        refine g_goto (tgt := 41) dX8_who_82 (by decide) ?_
        exact ih _ _ (by assumption) _ _ _ _ _ _
set_option maxRecDepth 20000 in
theorem t_X8_who_ok (l : Launch) (fell : Int32) (T : ST) (hT : okZ T) (ra lo pr rb lb pb : Nat → Int32) (kc : Int32) (S : ST) (V : WT) (hV : okV V) (dn : Int32) (fb : Nat → Int32) (U : WT) (un : Int32) (ub : Nat → Int32) (a : Nat) (ha : a + 100 < 2 ^ 31) (hS : okS V S a) (bays : Int32) (h : inB bays (nI 0) (nI (2 ^ vnb V) - nI 1) = true) (wh : Nat) (hwh : wh < 2) : Con l M_X8_who [.ref 0, .int bays, .int (nI wh)] (xa fell T ra lo pr rb lb pb kc S V dn fb U un ub) (fun r u => r = some (.int (if wh = 0 then (whN V S bays (2 ^ vnf V)).1 else (whN V S bays (2 ^ vnf V)).2)) ∧ ∃ fell T ra lo pr rb lb pb, okZ T ∧ u = xa fell T ra lo pr rb lb pb kc S V dn fb U un ub) := by
  refine con_of rfl rfl (Nat.le_of_ble_eq_true rfl) ?_
  refine g_lsN (ls' := [_, _, _, _, _, _]) rfl ?_
  refine g_iload_n (n := 1) dX8_who_0 rfl rfl ?_
  refine g_if_lt (tgt := 24) (n := 4) dX8_who_1 (by decide) rfl (fun c1 => absurd c1 (inB_ge h)) (fun c1 => ?_)
  refine g_iload_n (n := 5) dX8_who_4 rfl rfl ?_
  refine g_aload_n (n := 6) dX8_who_5 rfl rfl ?_
  refine g_get (n := 9) fl_X8_65 dX8_who_6 rfl rfl rfl ?_
  refine g_cutVi (ps := [14, 15, 16, 17, 18, 19, 20]) (w' := [_, _, _, _, _, _, _, _, _, _, _, _, _, _, _, _, _, _, _, _, _, _, _, _, _, _, _, _, _, _, _, _]) (n := 12) cv_X8_228 (t_X7_allBays l V hV dn) dX8_who_9 rfl rfl rfl ⟨by decide, by decide, rfl, rfl, Nat.zero_le _, Nat.zero_le _⟩ rfl rfl rfl (Nat.le_of_ble_eq_true rfl) rfl rfl rfl ?_
  refine g_icmp_gt (tgt := 24) (n := 15) dX8_who_12 (by decide) rfl (fun c12 => absurd c12 (Int32.not_lt.mpr (inB_le h))) (fun c12 => ?_)
  refine g_iload_n (n := 16) dX8_who_15 rfl rfl ?_
  refine g_if_lt (tgt := 24) (n := 19) dX8_who_16 (by decide) rfl (fun c16 => absurd c16 (inB_ge (show inB (nI wh) (nI 0) (nI 1) = true by rcases (show wh = 0 ∨ wh = 1 by omega) with rfl | rfl <;> decide))) (fun c16 => ?_)
  refine g_iload_n (n := 20) dX8_who_19 rfl rfl ?_
  refine g_iconst (v := nI 1) (n := 21) dX8_who_20 (by decide) rfl ?_
  refine g_icmp_le (tgt := 26) (n := 24) dX8_who_21 (by decide) rfl (fun c21 => ?_) (fun c21 => absurd (inB_le (show inB (nI wh) (nI 0) (nI 1) = true by rcases (show wh = 0 ∨ wh = 1 by omega) with rfl | rfl <;> decide)) c21)
  refine g_iconst (v := nI 0) (n := 27) dX8_who_26 (by decide) rfl ?_
  refine g_istore_n (n := 28) dX8_who_27 (by decide) rfl rfl ?_
  refine g_lsN (ls' := [_, _, _, _, _, _]) rfl ?_
  refine g_bipush (v := (-4)) (n := 30) dX8_who_28 (by decide) rfl ?_
  refine g_istore (n := 32) dX8_who_30 (by decide) rfl rfl ?_
  refine g_lsN (ls' := [_, _, _, _, _, _]) rfl ?_
  refine g_aload_n (n := 33) dX8_who_32 rfl rfl ?_
  refine g_get (n := 36) fl_X8_65 dX8_who_33 rfl rfl rfl ?_
  refine g_cutVi (ps := [14, 15, 16, 17, 18, 19, 20]) (w' := [_, _, _, _, _, _, _, _, _, _, _, _, _, _, _, _, _, _, _, _, _, _, _, _, _, _, _, _, _, _, _, _]) (n := 39) cv_X8_185 (t_X7_allButtresses l V hV dn) dX8_who_36 rfl rfl rfl ⟨by decide, by decide, rfl, rfl, Nat.zero_le _, Nat.zero_le _⟩ rfl rfl rfl (Nat.le_of_ble_eq_true rfl) rfl rfl rfl ?_
  refine g_istore (n := 41) dX8_who_39 (by decide) rfl rfl ?_
  refine g_lsN (ls' := [_, _, _, _, _, _]) rfl ?_
  refine g_lsN (ls' := [some (.ref 0), some (.int bays), some (.int (nI wh)), some (.int (wdN V S bays (2 ^ vnf V) (2 ^ vnf V - 2 ^ vnf V)).1), some (.int (wdN V S bays (2 ^ vnf V) (2 ^ vnf V - 2 ^ vnf V)).2), some (.int (nI (2 ^ vnf V) - nI 1))]) (by rw [Nat.sub_self]; rfl) ?_
  exact lp_X8_who l _ ⟨Nat.zero_le _, Nat.zero_le _⟩ _ kc S V hV dn fb U un ub a ha hS bays wh hwh (fun fell T ra lo pr rb lb pb hT => ⟨rfl, fell, T, ra, lo, pr, rb, lb, pb, hT, rfl⟩) (2 ^ vnf V) (Nat.le_refl _) fell T hT ra lo pr rb lb pb
set_option maxRecDepth 20000 in
theorem t_X6_followDraw_0 (l : Launch) (V : WT) (hV : okV V) (dn : Int32) (fb : Nat → Int32) (S : ST) (fell : Int32) (ra lo pr : Nat → Int32) (h0 : vnf V = 0) (x : Int32) : Fn l M_X6_followDraw [.ref 0, .ref 9, .int x] (tw fell S ra lo pr V dn fb) none (tw fell S ra lo pr V dn fb) := by
  refine con_of rfl rfl (Nat.le_of_ble_eq_true rfl) ?_
  refine g_lsN (ls' := [_, _, _, _, _]) rfl ?_
  refine g_aload_n (n := 1) dX6_followDraw_0 rfl rfl ?_
  refine g_get (n := 4) fl_X6_63 dX6_followDraw_1 rfl rfl rfl ?_
  refine g_if_le (tgt := 14) (n := 7) dX6_followDraw_4 (by decide) rfl (fun c4 => ?_) (fun c4 => absurd (show nI (vnf V) ≤ 0 by rw [h0]; decide) c4)
  exact g_vret dX6_followDraw_14 rfl ⟨Nat.zero_le _, Nat.zero_le _⟩ ⟨rfl, rfl⟩
set_option maxRecDepth 20000 in
theorem t_X8_draw (l : Launch) (zz k : Nat) (hzz : zz ≤ 9999) (hk : k < 64) : Fn l M_X8_draw [.int (nI zz), .int (nI k)] [] (some (.int (nI (dr zz k)))) [] := by
  refine con_of rfl rfl (Nat.le_of_ble_eq_true rfl) ?_
  refine g_lsN (ls' := [_, _, _, _]) rfl ?_
  refine g_ldc2 (n := 3) dX8_draw_0 kc_X8_301 rfl ?_
  refine g_iload_n (n := 4) dX8_draw_3 rfl rfl ?_
  refine g_i2l (n := 5) dX8_draw_4 rfl ?_
  refine g_lmul (n := 6) dX8_draw_5 rfl ?_
  refine g_ldc2 (n := 9) dX8_draw_6 kc_X8_303 rfl ?_
  refine g_iload_n (n := 10) dX8_draw_9 rfl rfl ?_
  refine g_i2l (n := 11) dX8_draw_10 rfl ?_
  refine g_lmul (n := 12) dX8_draw_11 rfl ?_
  refine g_ladd (n := 13) dX8_draw_12 rfl ?_
  refine g_lconst (v := 1) (n := 14) dX8_draw_13 (by decide) rfl ?_
  refine g_ladd (n := 15) dX8_draw_14 rfl ?_
  refine g_lstore_n (n := 16) dX8_draw_15 (by decide) rfl rfl ?_
  refine g_lsN (ls' := [_, _, _, _]) rfl ?_
  refine g_lload_n (n := 17) dX8_draw_16 rfl rfl ?_
  refine g_lload_n (n := 18) dX8_draw_17 rfl rfl ?_
  refine g_lmul (n := 19) dX8_draw_18 rfl ?_
  refine g_ldc2 (n := 22) dX8_draw_19 kc_X8_305 rfl ?_
  refine g_lrem (n := 23) dX8_draw_22 (by decide) rfl ?_
  refine g_l2i (n := 24) dX8_draw_23 rfl ?_
  exact g_iret (ty := .int) dX8_draw_24 rfl rfl ⟨Nat.zero_le _, Nat.zero_le _⟩ ⟨congrArg (fun x => some (Value.int x)) (dr_eq hzz hk), rfl⟩
set_option maxRecDepth 20000 in
theorem lp_X8_night (l : Launch) (z : Nat × Nat × Nat) (hz : z.2.1 ≤ 0 ∧ z.2.2 ≤ 0) (Q : Option Value → List va_E → Prop)  (kc : Int32) (S : ST) (V : WT) (hV : okV V) (dn : Int32) (fb : Nat → Int32) (U : WT) (un : Int32) (ub : Nat → Int32) (a : Nat) (ha : a + 100 < 2 ^ 31) (hS : okS V S a) (ha2 : a + 1000 < 2 ^ 31) (hU : okU S) (hb0 : 0 < vnb V) (zz : Nat) (hzz : zz ≤ 9999) (n : Nat) (hn : n ≤ 60) (wh : Nat) (hwh : wh < 2) (hQ : ∀ fell T ra lo pr rb lb pb, okZ T → Q (some (.int (if wh = 0 then on (sfa (niN V S zz n)) 8 else on (sup (niN V S zz n)) 8))) (xa fell T ra lo pr rb lb pb kc S V dn fb U un ub)) : ∀ k, k ≤ n → ∀ (fell : Int32) (ra lo pr rb lb pb : Nat → Int32), G l M_X8_night z Q 47 [some (.ref 0), some (.int (nI zz)), some (.int (nI n)), some (.int (nI wh)), some (.int (nI k))] [] (xa fell (niN V S zz k) ra lo pr rb lb pb kc S V dn fb U un ub) := by
  have hV1 := hV.1
  have hV2 := hV.2.1
  have hV3 := hV.2.2
  refine loopN n ?_ (fun k hk ih => ?_)
  ·
    intro fell ra lo pr rb lb pb
    refine g_iload (n := 49) dX8_night_47 rfl rfl ?_
    refine g_iload_n (n := 50) dX8_night_49 rfl rfl ?_
    refine g_icmp_ge (tgt := 95) (n := 53) dX8_night_50 (by decide) rfl (fun c50 => ?_) (fun c50 => absurd (nI_le (Nat.le_refl _) (by omega)) c50)
    refine g_iload_n (n := 96) dX8_night_95 rfl rfl ?_
    refine g_if_ne (tgt := 112) (n := 99) dX8_night_96 (by decide) rfl (fun c96 => ?_) (fun c96 => ?_)
    ·
      have hw : ¬ wh = 0 := fun q => c96 (by rw [q]; rfl)
      rw [if_neg hw] at hQ
      refine g_aload_n (n := 113) dX8_night_112 rfl rfl ?_
      refine g_get (n := 116) fl_X8_33 dX8_night_113 rfl rfl rfl ?_
      refine g_get (n := 119) fl_X8_262 dX8_night_116 rfl rfl rfl ?_
      refine g_get (n := 122) fl_X8_198 dX8_night_119 rfl rfl rfl ?_
      refine g_callSi (n := 125) cs_X8_238 (t_J6_bitN l _ (by first | exact (okU_ni hV zz hU n).2 | exact (okU_ni hV zz hU n).1)) dX8_night_122 rfl rfl ⟨by decide, by decide, rfl, rfl, hz.1, hz.2⟩ rfl (Nat.le_of_ble_eq_true rfl) rfl ?_
      exact g_iret (ty := .int) dX8_night_125 rfl rfl hz (hQ _ _ _ _ _ _ _ _ (okS_ni hV hb0 zz hS n).1)
    ·
      have hw : wh = 0 := by
        rcases Nat.eq_zero_or_pos wh with q | q
        · exact q
        · exact absurd c96 (nI_ne0 q (by omega))
      rw [if_pos hw] at hQ
      refine g_aload_n (n := 100) dX8_night_99 rfl rfl ?_
      refine g_get (n := 103) fl_X8_33 dX8_night_100 rfl rfl rfl ?_
      refine g_get (n := 106) fl_X8_262 dX8_night_103 rfl rfl rfl ?_
      refine g_get (n := 109) fl_X8_265 dX8_night_106 rfl rfl rfl ?_
      refine g_goto (tgt := 122) dX8_night_109 (by decide) ?_
      refine g_callSi (n := 125) cs_X8_238 (t_J6_bitN l _ (by first | exact (okU_ni hV zz hU n).2 | exact (okU_ni hV zz hU n).1)) dX8_night_122 rfl rfl ⟨by decide, by decide, rfl, rfl, hz.1, hz.2⟩ rfl (Nat.le_of_ble_eq_true rfl) rfl ?_
      exact g_iret (ty := .int) dX8_night_125 rfl rfl hz (hQ _ _ _ _ _ _ _ _ (okS_ni hV hb0 zz hS n).1)
  ·
    intro fell ra lo pr rb lb pb
    have hK := okS_ni hV hb0 zz hS k
    rcases Nat.eq_zero_or_pos (vnf V) with h0 | h0
    ·
      refine g_iload (n := 49) dX8_night_47 rfl rfl ?_
      refine g_iload_n (n := 50) dX8_night_49 rfl rfl ?_
      refine g_icmp_ge (tgt := 95) (n := 53) dX8_night_50 (by decide) rfl (fun c50 => absurd c50 (nI_ge hk (by omega))) (fun c50 => ?_)
      refine g_aload_n (n := 54) dX8_night_53 rfl rfl ?_
      refine g_get (n := 57) fl_X8_33 dX8_night_54 rfl rfl rfl ?_
      refine g_aload_n (n := 58) dX8_night_57 rfl rfl ?_
      refine g_get (n := 61) fl_X8_65 dX8_night_58 rfl rfl rfl ?_
      refine g_iload_n (n := 62) dX8_night_61 rfl rfl ?_
      refine g_iload (n := 64) dX8_night_62 rfl rfl ?_
      refine g_callSi (n := 67) cs_X8_255 (t_X8_draw l zz k hzz (by omega)) dX8_night_64 rfl rfl ⟨by decide, by decide, rfl, rfl, hz.1, hz.2⟩ rfl (Nat.le_of_ble_eq_true rfl) rfl ?_
      refine g_cutVv (ps := [1, 2, 3, 4, 5, 6, 7, 8, 9, 14, 15, 16, 17, 18, 19, 20]) (w' := [_, _, _, _, _, _, _, _, _, _, _, _, _, _, _, _, _, _, _, _, _, _, _, _, _, _, _, _, _, _, _, _]) (n := 70) cv_X8_258 (t_X6_followDraw_0 l V hV dn fb _ _ _ _ _ h0 _) dX8_night_67 rfl rfl rfl ⟨by decide, by decide, rfl, rfl, hz.1, hz.2⟩ rfl rfl rfl (Nat.le_of_ble_eq_true rfl) rfl rfl rfl ?_
      refine g_aload_n (n := 71) dX8_night_70 rfl rfl ?_
      refine g_get (n := 74) fl_X8_26 dX8_night_71 rfl rfl rfl ?_
      refine g_aload_n (n := 75) dX8_night_74 rfl rfl ?_
      refine g_get (n := 78) fl_X8_65 dX8_night_75 rfl rfl rfl ?_
      refine g_aload_n (n := 79) dX8_night_78 rfl rfl ?_
      refine g_get (n := 82) fl_X8_33 dX8_night_79 rfl rfl rfl ?_
      refine g_get (n := 85) fl_X8_262 dX8_night_82 rfl rfl rfl ?_
      refine g_cutVi (ps := [21, 22, 23, 24, 14, 15, 16, 17, 18, 19, 20, 2, 3, 4, 5]) (w' := [_, _, _, _, _, _, _, _, _, _, _, _, _, _, _, _, _, _, _, _, _, _, _, _, _, _, _, _, _, _, _, _]) (n := 88) cv_X8_147 (t_X0_goBy l _ _ _ V hV dn fb (niN V S zz k) (hK).2.1 (hK).2.2.1 _ (by omega) (hK).2.2.2) dX8_night_85 rfl rfl rfl ⟨by decide, by decide, rfl, rfl, hz.1, hz.2⟩ rfl rfl rfl (Nat.le_of_ble_eq_true rfl) rfl rfl rfl ?_
      refine g_pop (n := 89) dX8_night_88 rfl rfl ?_
      refine g_iincN (k := 1) (n := 92) dX8_night_89 rfl (by decide) rfl rfl ?_
      refine g_lsN (ls' := [_, _, _, _, _]) rfl ?_
      refine g_goto (tgt := 47) dX8_night_92 (by decide) ?_
      rw [show niN V S zz (k + 1) = psF V (niN V S zz k) from by rw [niN, if_neg (by omega)]] at ih
      exact ih _ _ _ _ _ _ _
    ·
      refine g_iload (n := 49) dX8_night_47 rfl rfl ?_
      refine g_iload_n (n := 50) dX8_night_49 rfl rfl ?_
      refine g_icmp_ge (tgt := 95) (n := 53) dX8_night_50 (by decide) rfl (fun c50 => absurd c50 (nI_ge hk (by omega))) (fun c50 => ?_)
      refine g_aload_n (n := 54) dX8_night_53 rfl rfl ?_
      refine g_get (n := 57) fl_X8_33 dX8_night_54 rfl rfl rfl ?_
      refine g_aload_n (n := 58) dX8_night_57 rfl rfl ?_
      refine g_get (n := 61) fl_X8_65 dX8_night_58 rfl rfl rfl ?_
      refine g_iload_n (n := 62) dX8_night_61 rfl rfl ?_
      refine g_iload (n := 64) dX8_night_62 rfl rfl ?_
      refine g_callSi (n := 67) cs_X8_255 (t_X8_draw l zz k hzz (by omega)) dX8_night_64 rfl rfl ⟨by decide, by decide, rfl, rfl, hz.1, hz.2⟩ rfl (Nat.le_of_ble_eq_true rfl) rfl ?_
      refine g_cutVv (ps := [1, 2, 3, 4, 5, 6, 7, 8, 9, 14, 15, 16, 17, 18, 19, 20]) (w' := [_, _, _, _, _, _, _, _, _, _, _, _, _, _, _, _, _, _, _, _, _, _, _, _, _, _, _, _, _, _, _, _]) (n := 70) cv_X8_258 (t_X6_followDraw l V hV dn fb _ _ _ _ _ _ (by omega) hK h0 hb0 _ (dr_lt _ _)) dX8_night_67 rfl rfl rfl ⟨by decide, by decide, rfl, rfl, hz.1, hz.2⟩ rfl rfl rfl (Nat.le_of_ble_eq_true rfl) rfl rfl rfl ?_
      refine g_aload_n (n := 71) dX8_night_70 rfl rfl ?_
      refine g_get (n := 74) fl_X8_26 dX8_night_71 rfl rfl rfl ?_
      refine g_aload_n (n := 75) dX8_night_74 rfl rfl ?_
      refine g_get (n := 78) fl_X8_65 dX8_night_75 rfl rfl rfl ?_
      refine g_aload_n (n := 79) dX8_night_78 rfl rfl ?_
      refine g_get (n := 82) fl_X8_33 dX8_night_79 rfl rfl rfl ?_
      refine g_get (n := 85) fl_X8_262 dX8_night_82 rfl rfl rfl ?_
      refine g_cutVi (ps := [21, 22, 23, 24, 14, 15, 16, 17, 18, 19, 20, 2, 3, 4, 5]) (w' := [_, _, _, _, _, _, _, _, _, _, _, _, _, _, _, _, _, _, _, _, _, _, _, _, _, _, _, _, _, _, _, _]) (n := 88) cv_X8_147 (t_X0_goBy l _ _ _ V hV dn fb (tuF V (niN V S zz k) (dr zz k)) ((okS_tu hV (dr zz k) h0 hb0 hK)).2.1 ((okS_tu hV (dr zz k) h0 hb0 hK)).2.2.1 _ (by omega) ((okS_tu hV (dr zz k) h0 hb0 hK)).2.2.2) dX8_night_85 rfl rfl rfl ⟨by decide, by decide, rfl, rfl, hz.1, hz.2⟩ rfl rfl rfl (Nat.le_of_ble_eq_true rfl) rfl rfl rfl ?_
      refine g_pop (n := 89) dX8_night_88 rfl rfl ?_
      refine g_iincN (k := 1) (n := 92) dX8_night_89 rfl (by decide) rfl rfl ?_
      refine g_lsN (ls' := [_, _, _, _, _]) rfl ?_
      refine g_goto (tgt := 47) dX8_night_92 (by decide) ?_
      rw [show niN V S zz (k + 1) = psF V (tuF V (niN V S zz k) (dr zz k)) from by rw [niN, if_pos h0]] at ih
      exact ih _ _ _ _ _ _ _
set_option maxRecDepth 20000 in
theorem t_X8_night_bad1 (l : Launch) (fell : Int32) (T : ST) (hT : okZ T) (ra lo pr rb lb pb : Nat → Int32) (kc : Int32) (S : ST) (V : WT) (hV : okV V) (dn : Int32) (fb : Nat → Int32) (U : WT) (un : Int32) (ub : Nat → Int32) (a : Nat) (ha : a + 100 < 2 ^ 31) (hS : okS V S a) (x y u : Int32) (h : inB x (nI 0) (nI 9999) = false) : Con l M_X8_night [.ref 0, .int x, .int y, .int u] (xa fell T ra lo pr rb lb pb kc S V dn fb U un ub) (fun r u => r = some (.int (-1)) ∧ ∃ fell T ra lo pr rb lb pb, okZ T ∧ u = xa fell T ra lo pr rb lb pb kc S V dn fb U un ub) := by
  refine con_of rfl rfl (Nat.le_of_ble_eq_true rfl) ?_
  refine g_lsN (ls' := [_, _, _, _, _]) rfl ?_
  refine g_iload_n (n := 1) dX8_night_0 rfl rfl ?_
  refine g_if_lt (tgt := 31) (n := 4) dX8_night_1 (by decide) rfl (fun c1 => ?_) (fun c1 => ?_)
  ·
    refine g_iconst (v := (-1)) (n := 32) dX8_night_31 (by decide) rfl ?_
    exact g_iret (ty := .int) dX8_night_32 rfl rfl ⟨Nat.zero_le _, Nat.zero_le _⟩ ⟨rfl, _, _, _, _, _, _, _, _, hT, rfl⟩
  ·
    refine g_iload_n (n := 5) dX8_night_4 rfl rfl ?_
    refine g_sipush (v := nI 9999) (n := 8) dX8_night_5 (by decide) rfl ?_
    refine g_icmp_gt (tgt := 31) (n := 11) dX8_night_8 (by decide) rfl (fun c8 => ?_) (fun c8 => ?_)
    ·
      refine g_iconst (v := (-1)) (n := 32) dX8_night_31 (by decide) rfl ?_
      exact g_iret (ty := .int) dX8_night_32 rfl rfl ⟨Nat.zero_le _, Nat.zero_le _⟩ ⟨rfl, _, _, _, _, _, _, _, _, hT, rfl⟩
    ·
      exact inB_x h c1 (Int32.not_lt.mp c8)
set_option maxRecDepth 20000 in
theorem t_X8_night_bad2 (l : Launch) (fell : Int32) (T : ST) (hT : okZ T) (ra lo pr rb lb pb : Nat → Int32) (kc : Int32) (S : ST) (V : WT) (hV : okV V) (dn : Int32) (fb : Nat → Int32) (U : WT) (un : Int32) (ub : Nat → Int32) (a : Nat) (ha : a + 100 < 2 ^ 31) (hS : okS V S a) (x y u : Int32) (h : inB x (nI 0) (nI 9999) = true) (h2 : inB y (nI 1) (nI 60) = false) : Con l M_X8_night [.ref 0, .int x, .int y, .int u] (xa fell T ra lo pr rb lb pb kc S V dn fb U un ub) (fun r u => r = some (.int (-1)) ∧ ∃ fell T ra lo pr rb lb pb, okZ T ∧ u = xa fell T ra lo pr rb lb pb kc S V dn fb U un ub) := by
  refine con_of rfl rfl (Nat.le_of_ble_eq_true rfl) ?_
  refine g_lsN (ls' := [_, _, _, _, _]) rfl ?_
  refine g_iload_n (n := 1) dX8_night_0 rfl rfl ?_
  refine g_if_lt (tgt := 31) (n := 4) dX8_night_1 (by decide) rfl (fun c1 => absurd c1 (inB_ge h)) (fun c1 => ?_)
  refine g_iload_n (n := 5) dX8_night_4 rfl rfl ?_
  refine g_sipush (v := nI 9999) (n := 8) dX8_night_5 (by decide) rfl ?_
  refine g_icmp_gt (tgt := 31) (n := 11) dX8_night_8 (by decide) rfl (fun c8 => absurd c8 (Int32.not_lt.mpr (inB_le h))) (fun c8 => ?_)
  refine g_iload_n (n := 12) dX8_night_11 rfl rfl ?_
  refine g_iconst (v := nI 1) (n := 13) dX8_night_12 (by decide) rfl ?_
  refine g_icmp_lt (tgt := 31) (n := 16) dX8_night_13 (by decide) rfl (fun c13 => ?_) (fun c13 => ?_)
  ·
    refine g_iconst (v := (-1)) (n := 32) dX8_night_31 (by decide) rfl ?_
    exact g_iret (ty := .int) dX8_night_32 rfl rfl ⟨Nat.zero_le _, Nat.zero_le _⟩ ⟨rfl, _, _, _, _, _, _, _, _, hT, rfl⟩
  ·
    refine g_iload_n (n := 17) dX8_night_16 rfl rfl ?_
    refine g_bipush (v := nI 60) (n := 19) dX8_night_17 (by decide) rfl ?_
    refine g_icmp_gt (tgt := 31) (n := 22) dX8_night_19 (by decide) rfl (fun c19 => ?_) (fun c19 => ?_)
    ·
      refine g_iconst (v := (-1)) (n := 32) dX8_night_31 (by decide) rfl ?_
      exact g_iret (ty := .int) dX8_night_32 rfl rfl ⟨Nat.zero_le _, Nat.zero_le _⟩ ⟨rfl, _, _, _, _, _, _, _, _, hT, rfl⟩
    ·
      exact inB_x h2 c13 (Int32.not_lt.mp c19)
set_option maxRecDepth 20000 in
theorem t_X8_night_bad3 (l : Launch) (fell : Int32) (T : ST) (hT : okZ T) (ra lo pr rb lb pb : Nat → Int32) (kc : Int32) (S : ST) (V : WT) (hV : okV V) (dn : Int32) (fb : Nat → Int32) (U : WT) (un : Int32) (ub : Nat → Int32) (a : Nat) (ha : a + 100 < 2 ^ 31) (hS : okS V S a) (x y u : Int32) (h : inB x (nI 0) (nI 9999) = true) (h2 : inB y (nI 1) (nI 60) = true) (h3 : inB u (nI 0) (nI 1) = false) : Con l M_X8_night [.ref 0, .int x, .int y, .int u] (xa fell T ra lo pr rb lb pb kc S V dn fb U un ub) (fun r u => r = some (.int (-1)) ∧ ∃ fell T ra lo pr rb lb pb, okZ T ∧ u = xa fell T ra lo pr rb lb pb kc S V dn fb U un ub) := by
  refine con_of rfl rfl (Nat.le_of_ble_eq_true rfl) ?_
  refine g_lsN (ls' := [_, _, _, _, _]) rfl ?_
  refine g_iload_n (n := 1) dX8_night_0 rfl rfl ?_
  refine g_if_lt (tgt := 31) (n := 4) dX8_night_1 (by decide) rfl (fun c1 => absurd c1 (inB_ge h)) (fun c1 => ?_)
  refine g_iload_n (n := 5) dX8_night_4 rfl rfl ?_
  refine g_sipush (v := nI 9999) (n := 8) dX8_night_5 (by decide) rfl ?_
  refine g_icmp_gt (tgt := 31) (n := 11) dX8_night_8 (by decide) rfl (fun c8 => absurd c8 (Int32.not_lt.mpr (inB_le h))) (fun c8 => ?_)
  refine g_iload_n (n := 12) dX8_night_11 rfl rfl ?_
  refine g_iconst (v := nI 1) (n := 13) dX8_night_12 (by decide) rfl ?_
  refine g_icmp_lt (tgt := 31) (n := 16) dX8_night_13 (by decide) rfl (fun c13 => absurd c13 (inB_ge h2)) (fun c13 => ?_)
  refine g_iload_n (n := 17) dX8_night_16 rfl rfl ?_
  refine g_bipush (v := nI 60) (n := 19) dX8_night_17 (by decide) rfl ?_
  refine g_icmp_gt (tgt := 31) (n := 22) dX8_night_19 (by decide) rfl (fun c19 => absurd c19 (Int32.not_lt.mpr (inB_le h2))) (fun c19 => ?_)
  refine g_iload_n (n := 23) dX8_night_22 rfl rfl ?_
  refine g_if_lt (tgt := 31) (n := 26) dX8_night_23 (by decide) rfl (fun c23 => ?_) (fun c23 => ?_)
  ·
    refine g_iconst (v := (-1)) (n := 32) dX8_night_31 (by decide) rfl ?_
    exact g_iret (ty := .int) dX8_night_32 rfl rfl ⟨Nat.zero_le _, Nat.zero_le _⟩ ⟨rfl, _, _, _, _, _, _, _, _, hT, rfl⟩
  ·
    refine g_iload_n (n := 27) dX8_night_26 rfl rfl ?_
    refine g_iconst (v := nI 1) (n := 28) dX8_night_27 (by decide) rfl ?_
    refine g_icmp_le (tgt := 33) (n := 31) dX8_night_28 (by decide) rfl (fun c28 => ?_) (fun c28 => ?_)
    ·
      exact inB_x h3 c23 c28
    ·
      refine g_iconst (v := (-1)) (n := 32) dX8_night_31 (by decide) rfl ?_
      exact g_iret (ty := .int) dX8_night_32 rfl rfl ⟨Nat.zero_le _, Nat.zero_le _⟩ ⟨rfl, _, _, _, _, _, _, _, _, hT, rfl⟩
set_option maxRecDepth 20000 in
theorem t_X8_night_ok (l : Launch) (fell : Int32) (T : ST) (hT : okZ T) (ra lo pr rb lb pb : Nat → Int32) (kc : Int32) (S : ST) (V : WT) (hV : okV V) (dn : Int32) (fb : Nat → Int32) (U : WT) (un : Int32) (ub : Nat → Int32) (a : Nat) (ha : a + 100 < 2 ^ 31) (hS : okS V S a) (ha2 : a + 1000 < 2 ^ 31) (hU : okU S) (hb0 : 0 < vnb V) (zz : Nat) (hzz : zz ≤ 9999) (n : Nat) (hn : n ≤ 60) (wh : Nat) (hwh : wh < 2) (h : inB (nI zz) (nI 0) (nI 9999) = true) (h2 : inB (nI n) (nI 1) (nI 60) = true) : Con l M_X8_night [.ref 0, .int (nI zz), .int (nI n), .int (nI wh)] (xa fell T ra lo pr rb lb pb kc S V dn fb U un ub) (fun r u => r = some (.int (if wh = 0 then on (sfa (niN V S zz n)) 8 else on (sup (niN V S zz n)) 8)) ∧ ∃ fell T ra lo pr rb lb pb, okZ T ∧ u = xa fell T ra lo pr rb lb pb kc S V dn fb U un ub) := by
  refine con_of rfl rfl (Nat.le_of_ble_eq_true rfl) ?_
  refine g_lsN (ls' := [_, _, _, _, _]) rfl ?_
  refine g_iload_n (n := 1) dX8_night_0 rfl rfl ?_
  refine g_if_lt (tgt := 31) (n := 4) dX8_night_1 (by decide) rfl (fun c1 => absurd c1 (inB_ge h)) (fun c1 => ?_)
  refine g_iload_n (n := 5) dX8_night_4 rfl rfl ?_
  refine g_sipush (v := nI 9999) (n := 8) dX8_night_5 (by decide) rfl ?_
  refine g_icmp_gt (tgt := 31) (n := 11) dX8_night_8 (by decide) rfl (fun c8 => absurd c8 (Int32.not_lt.mpr (inB_le h))) (fun c8 => ?_)
  refine g_iload_n (n := 12) dX8_night_11 rfl rfl ?_
  refine g_iconst (v := nI 1) (n := 13) dX8_night_12 (by decide) rfl ?_
  refine g_icmp_lt (tgt := 31) (n := 16) dX8_night_13 (by decide) rfl (fun c13 => absurd c13 (inB_ge h2)) (fun c13 => ?_)
  refine g_iload_n (n := 17) dX8_night_16 rfl rfl ?_
  refine g_bipush (v := nI 60) (n := 19) dX8_night_17 (by decide) rfl ?_
  refine g_icmp_gt (tgt := 31) (n := 22) dX8_night_19 (by decide) rfl (fun c19 => absurd c19 (Int32.not_lt.mpr (inB_le h2))) (fun c19 => ?_)
  refine g_iload_n (n := 23) dX8_night_22 rfl rfl ?_
  refine g_if_lt (tgt := 31) (n := 26) dX8_night_23 (by decide) rfl (fun c23 => absurd c23 (inB_ge (show inB (nI wh) (nI 0) (nI 1) = true by rcases (show wh = 0 ∨ wh = 1 by omega) with rfl | rfl <;> decide))) (fun c23 => ?_)
  refine g_iload_n (n := 27) dX8_night_26 rfl rfl ?_
  refine g_iconst (v := nI 1) (n := 28) dX8_night_27 (by decide) rfl ?_
  refine g_icmp_le (tgt := 33) (n := 31) dX8_night_28 (by decide) rfl (fun c28 => ?_) (fun c28 => absurd (inB_le (show inB (nI wh) (nI 0) (nI 1) = true by rcases (show wh = 0 ∨ wh = 1 by omega) with rfl | rfl <;> decide)) c28)
  refine g_aload_n (n := 34) dX8_night_33 rfl rfl ?_
  refine g_get (n := 37) fl_X8_33 dX8_night_34 rfl rfl rfl ?_
  refine g_aload_n (n := 38) dX8_night_37 rfl rfl ?_
  refine g_get (n := 41) fl_X8_47 dX8_night_38 rfl rfl rfl ?_
  refine g_cutVv (ps := [1, 2, 3, 4, 5, 10, 11, 12, 13, 6]) (w' := [_, _, _, _, _, _, _, _, _, _, _, _, _, _, _, _, _, _, _, _, _, _, _, _, _, _, _, _, _, _, _, _]) (n := 44) cv_X8_176 (t_X6_startFrom l _ _ S hT hS.1) dX8_night_41 rfl rfl rfl ⟨by decide, by decide, rfl, rfl, Nat.zero_le _, Nat.zero_le _⟩ rfl rfl rfl (Nat.le_of_ble_eq_true rfl) rfl rfl rfl ?_
  refine g_iconst (v := nI 0) (n := 45) dX8_night_44 (by decide) rfl ?_
  refine g_istore (n := 47) dX8_night_45 (by decide) rfl rfl ?_
  refine g_lsN (ls' := [_, _, _, _, _]) rfl ?_
  exact lp_X8_night l _ ⟨Nat.zero_le _, Nat.zero_le _⟩ _ kc S V hV dn fb U un ub a ha hS ha2 hU hb0 zz hzz n hn wh hwh (fun fell T ra lo pr rb lb pb hT => ⟨rfl, fell, T, ra, lo, pr, rb, lb, pb, hT, rfl⟩) 0 (Nat.zero_le _) _ _ _ _ _ _ _

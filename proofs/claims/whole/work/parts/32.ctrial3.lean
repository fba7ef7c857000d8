/-! 32.ctrial3: the class's trials and the reference's falls; standsFor, givesWayBehind, followDraw -/
theorem hb_flN (V : WT) (S : ST) {j : Nat} (hj : j < 32) (h : hb (sfa S) (nI j) = true) : ∀ k, k ≤ 32 → hb (flN V S k) (nI j) = false
  | 0, _ => hb_0 hj
  | k + 1, hk => by
    rw [flN]
    by_cases q : hb (sfa S) (nI k) = true
    · rw [if_pos q]; exact hb_flN V S hj h k (by omega)
    · rw [if_neg q, hb_or _ _ hj, hb_flN V S hj h k (by omega), Bool.false_or]
      split
      · exact hb_0 hj
      · rw [hb_shb (by omega) hj]
        exact decide_eq_false (fun e => q (e ▸ h))
theorem fl_fa {V : WT} (hV : okV V) (S : ST) : sfa (psF V S) = sfa S ↔ flN V S (vnb V) = 0 := by
  have h8 := hV.1
  constructor
  · intro h
    refine hb_ext (fun j hj => ?_)
    rw [show (0 : Int32) = nI 0 from rfl, hb_0 hj]
    cases hx : hb (sfa S) (nI j) with
    | true => exact hb_flN V S hj hx _ (by omega)
    | false =>
      have h2 : hb (sfa S ||| flN V S (vnb V)) (nI j) = hb (sfa S) (nI j) := congrArg (fun y => hb y (nI j)) h
      rw [hb_or _ _ hj, hx, Bool.false_or] at h2
      exact h2
  · intro h
    show sfa S ||| flN V S (vnb V) = sfa S
    rw [h]
    exact Int32.or_zero
theorem flR_0 (V : WT) {fa : Int32} {S : ST} (h : ¬ sfa S = fa) : ∀ n, flR V fa n S = (0, S)
  | 0 => rfl
  | n + 1 => by rw [flR, if_neg h]
theorem ff_fl {V : WT} (hV : okV V) : ∀ (n h : Nat) (S : ST) (fl : Int32), (ffR V n h S fl).1 = if (flR V (sfa S) (n + 1) S).1 ≤ n then nI (h + (flR V (sfa S) (n + 1) S).1) else (-4)
  | 0, h, S, fl => by rw [flR, if_pos rfl]; rfl
  | n + 1, h, S, fl => by
    rw [ffR, flR, if_pos rfl]
    by_cases q : flN V S (vnb V) = 0
    · rw [if_pos q, ff_fl hV n, (fl_fa hV S).mpr q]
      by_cases c : (flR V (sfa S) (n + 1) (psF V S)).1 ≤ n
      · rw [if_pos c, if_pos (by show _ + 1 ≤ n + 1; omega)]
        exact congrArg nI (by show _ = h + (_ + 1); omega)
      · rw [if_neg c, if_neg (by show ¬ _ + 1 ≤ n + 1; omega)]
    · rw [if_neg q, flR_0 V (fun e => q ((fl_fa hV S).mp e)), if_pos (by show 0 + 1 ≤ n + 1; omega)]
theorem ff_fk {V : WT} (hV : okV V) (m : Nat) (S : ST) (fl : Int32) : (ffR V m 0 S fl).1 = if fk V S m ≤ m then nI (fk V S m) else (-4) := by
  rw [ff_fl hV m 0 S fl]
  show (if fk V S m ≤ m then nI (0 + fk V S m) else (-4)) = _
  rw [Nat.zero_add]
/-- what has fallen when the trial ends, and how things stand then -/
theorem ff_end {V : WT} (hV : okV V) : ∀ (n h : Nat) (S : ST) (fl : Int32), (flR V (sfa S) (n + 1) S).1 ≤ n → (ffR V n h S fl).2.1 = (flR V (sfa S) (n + 1) S).2 ∧ ∃ T, psF V T = (flR V (sfa S) (n + 1) S).2 ∧ sfa T = sfa S ∧ (ffR V n h S fl).2.2 = flN V T (vnb V)
  | 0, h, S, fl, c => by rw [flR, if_pos rfl] at c; exact absurd c (by show ¬ _ + 1 ≤ 0; omega)
  | n + 1, h, S, fl, c => by
    rw [flR, if_pos rfl] at c
    rw [ffR, flR, if_pos rfl]
    by_cases q : flN V S (vnb V) = 0
    · rw [if_pos q]
      have e1 := (fl_fa hV S).mpr q
      have := ff_end hV n (h + 1) (psF V S) (flN V S (vnb V)) (by rw [e1]; have : (flR V (sfa S) (n + 1) (psF V S)).1 + 1 ≤ n + 1 := c; omega)
      rw [e1] at this
      exact this
    · rw [if_neg q, flR_0 V (fun e => q ((fl_fa hV S).mp e))]
      exact ⟨rfl, S, rfl, rfl, rfl⟩
/-- a trial in which nothing falls -/
theorem ff_none {V : WT} (hV : okV V) : ∀ (n h : Nat) (S : ST) (fl : Int32), (ffR V n h S fl).1 = (-4) → h + n < 1000 → (ffR V n h S fl).2.1 = itP V n S
  | 0, h, S, fl, _, _ => rfl
  | n + 1, h, S, fl, c, hn => by
    rw [ffR] at c ⊢
    by_cases q : flN V S (vnb V) = 0
    · rw [if_pos q] at c ⊢; exact ff_none hV n _ _ _ c (by omega)
    · rw [if_neg q] at c
      exact absurd c ((by decide +kernel : ∀ k, k < 1000 → ¬ nI (k + 1) = (-4)) h (by omega))
theorem okZ_ff {V : WT} (hV : okV V) : ∀ (n h : Nat) (S : ST) (fl : Int32), okZ S → okZ (ffR V n h S fl).2.1
  | 0, _, _, _, h => h
  | n + 1, h, S, fl, hz => by
    rw [ffR]
    by_cases q : flN V S (vnb V) = 0
    · rw [if_pos q]; exact okZ_ff hV n _ _ _ (okZ_ps hV hz)
    · rw [if_neg q]; exact okZ_ps hV hz
theorem nI_m4 {k : Nat} (h : k < 1000) : ¬ nI k = (-4) := (by decide +kernel : ∀ k, k < 1000 → ¬ nI k = (-4)) k h

set_option maxRecDepth 20000 in
theorem t_X6_standsFor (l : Launch) (V : WT) (hV : okV V) (dn : Int32) (fb : Nat → Int32) (S : ST) (fell : Int32) (ra lo pr : Nat → Int32) (a : Nat) (ha : a + 100 < 2 ^ 31) (hS : okS V S a) : Con l M_X6_standsFor [.ref 0, .ref 9] (tw fell S ra lo pr V dn fb) (fun r u => r = some (.int (nI (fk V S 60))) ∧ ∃ fell T ra lo pr, okZ T ∧ u = tw fell T ra lo pr V dn fb) := by
  refine con_of rfl rfl (Nat.le_of_ble_eq_true rfl) ?_
  refine g_lsN (ls' := [_, _, _]) rfl ?_
  refine g_aload_n (n := 1) dX6_standsFor_0 rfl rfl ?_
  refine g_aload_n (n := 2) dX6_standsFor_1 rfl rfl ?_
  refine g_bipush (v := nI 60) (n := 4) dX6_standsFor_2 (by decide) rfl ?_
  refine g_callW (n := 7) cv_X6_43 (t_X6_fallsBehind l V hV dn fb 60 (by decide) S fell ra lo pr a (by omega) hS) dX6_standsFor_4 rfl ⟨by decide, by decide, rfl, rfl, Nat.zero_le _, Nat.zero_le _⟩ rfl rfl rfl (Nat.le_of_ble_eq_true rfl) rfl (fun r cw4 hq4 => ?_)
  obtain ⟨rfl, ra2, lo2, pr2, rfl⟩ := hq4
  refine ⟨rfl, ?_⟩
  refine g_stN (st' := .int _ :: []) rfl ?_
  refine g_wN (w' := [_, _, _, _, _, _, _, _, _, _, _, _, _, _, _, _]) rfl ?_
  refine g_istore_n (n := 8) dX6_standsFor_7 (by decide) rfl rfl ?_
  refine g_lsN (ls' := [_, _, _]) rfl ?_
  refine g_iload_n (n := 9) dX6_standsFor_8 rfl rfl ?_
  refine g_bipush (v := (-4)) (n := 11) dX6_standsFor_9 (by decide) rfl ?_
  refine g_icmp_ne (tgt := 19) (n := 14) dX6_standsFor_11 (by decide) rfl (fun c11 => ?_) (fun c11 => ?_)
  ·
    rw [ff_fk hV] at c11
    have c : fk V S 60 ≤ 60 := Classical.byContradiction (fun q => c11 (if_neg q))
    refine g_iload_n (n := 20) dX6_standsFor_19 rfl rfl ?_
    exact g_iret (ty := .int) dX6_standsFor_20 rfl rfl ⟨Nat.zero_le _, Nat.zero_le _⟩ ⟨by first | (rw [ff_fk hV, if_pos c]; done) | (rw [show fk V S 60 = 61 from by omega]; done), _, _, _, _, _, okZ_ff hV _ _ _ _ hS.1, rfl⟩
  ·
    rw [ff_fk hV] at c11
    have c : ¬ fk V S 60 ≤ 60 := fun q => absurd c11 (by rw [if_pos q]; exact nI_m4 (by omega))
    have c2 := fk_le V S 60
    refine g_bipush (v := nI 61) (n := 16) dX6_standsFor_14 (by decide) rfl ?_
    refine g_goto (tgt := 20) dX6_standsFor_16 (by decide) ?_
    exact g_iret (ty := .int) dX6_standsFor_20 rfl rfl ⟨Nat.zero_le _, Nat.zero_le _⟩ ⟨by first | (rw [ff_fk hV, if_pos c]; done) | (rw [show fk V S 60 = 61 from by omega]; done), _, _, _, _, _, okZ_ff hV _ _ _ _ hS.1, rfl⟩
/-- whether one first comes down behind n hours, its bay standing -/
def gwB (V : WT) (f : Nat) : Nat → ST → Bool
  | 0, _ => false
  | n + 1, S => if hb (sup (psF V S)) (nI f) then gwB V f n (psF V S) else decide (n = 0) && !hb (sfa (psF V S)) (sbo (psF V S) f)
theorem gw_kn (V : WT) (f : Nat) : ∀ (n : Nat) (S : ST), hb (sup S) (nI f) = true → gwB V f n S = (decide ((knR V f n S).1 = n) && !hb (sup (knR V f n S).2) (nI f) && !hb (sfa (knR V f n S).2) (sbo (knR V f n S).2 f))
  | 0, S, h => by rw [gwB, knR, h, Bool.not_true, Bool.and_false, Bool.false_and]
  | n + 1, S, h => by
    rw [gwB, knR, if_pos h]
    by_cases q : hb (sup (psF V S)) (nI f) = true
    · rw [if_pos q, gw_kn V f n _ q]
      rw [show decide ((knR V f n (psF V S)).1 = n) = decide ((knR V f n (psF V S)).1 + 1 = n + 1) from decide_eq_decide.mpr (by omega)]
    · rw [if_neg q]
      cases n with
      | zero => rw [knR]; rw [Bool.not_eq_true] at q; rw [q]; rfl
      | succ n => rw [knR, if_neg q]; rw [decide_eq_false (by omega), decide_eq_false (by show ¬ 0 + 1 = n + 1 + 1; omega)]; rfl

set_option maxRecDepth 20000 in
theorem lp_X6_givesWayBehind (l : Launch) (z : Nat × Nat × Nat) (hz : z.2.1 ≤ 0 ∧ z.2.2 ≤ 0) (Q : Option Value → List va_E → Prop) (V : WT) (hV : okV V) (dn : Int32) (fb : Nat → Int32) (f : Nat) (hf : f < vnf V) (m : Nat) (hm : m ≤ 40) : ∀ (n h : Nat) (S : ST) (fell : Int32) (ra lo pr : Nat → Int32) (a : Nat), h + n = m + 1 → 1 ≤ h → a + n < 2 ^ 31 → okS V S a → (∀ fell T ra lo pr, okZ T → Q (some (.int (bI (gwB V f n S)))) (tw fell T ra lo pr V dn fb)) → G l M_X6_givesWayBehind z Q 3 [some (.ref 0), some (.ref 9), some (.int (nI f)), some (.int (nI m)), some (.int (nI h))] [] (tw fell S ra lo pr V dn fb) := by
  have hV1 := hV.1
  have hV2 := hV.2.1
  have hV3 := hV.2.2
  intro n
  induction n with
  | zero =>
    intro h S fell ra lo pr a hh h1 ha hS hQ
    refine g_iload (n := 5) dX6_givesWayBehind_3 rfl rfl ?_
    refine g_iload_n (n := 6) dX6_givesWayBehind_5 rfl rfl ?_
    refine g_icmp_gt (tgt := 78) (n := 9) dX6_givesWayBehind_6 (by decide) rfl (fun c6 => ?_) (fun c6 => absurd (nI_ge (by omega) (by omega) |> fun q => Int32.not_le.mp q) c6)
    refine g_iconst (v := nI 0) (n := 79) dX6_givesWayBehind_78 (by decide) rfl ?_
    exact g_iret (ty := .boolean) dX6_givesWayBehind_79 rfl (by first | exact bI_nar _ | decide) hz (hQ _ _ _ _ _ hS.1)
  | succ n ih =>
    intro h S fell ra lo pr a hh h1 ha hS hQ
    have hQ0 := hQ
    rw [gwB] at hQ
    refine g_iload (n := 5) dX6_givesWayBehind_3 rfl rfl ?_
    refine g_iload_n (n := 6) dX6_givesWayBehind_5 rfl rfl ?_
    refine g_icmp_gt (tgt := 78) (n := 9) dX6_givesWayBehind_6 (by decide) rfl (fun c6 => absurd c6 (Int32.not_lt.mpr (nI_le (by omega) (by omega)))) (fun c6 => ?_)
    refine g_aload_n (n := 10) dX6_givesWayBehind_9 rfl rfl ?_
    refine g_get (n := 13) fl_X6_21 dX6_givesWayBehind_10 rfl rfl rfl ?_
    refine g_aload_n (n := 14) dX6_givesWayBehind_13 rfl rfl ?_
    refine g_aload_n (n := 15) dX6_givesWayBehind_14 rfl rfl ?_
    refine g_get (n := 18) fl_X6_12 dX6_givesWayBehind_15 rfl rfl rfl ?_
    refine g_cutV (ps := [5, 6, 7, 8, 9, 10, 11, 12, 13, 14, 15, 1, 2, 3, 4]) (n := 21) cv_X6_33 (t_X0_goBy l _ _ _ V hV dn fb S (hS).2.1 (hS).2.2.1 _ (by omega) (hS).2.2.2) dX6_givesWayBehind_18 rfl rfl rfl ⟨by decide, by decide, rfl, rfl, hz.1, hz.2⟩ rfl rfl rfl (Nat.le_of_ble_eq_true rfl) rfl (fun r cw18 hq18 => ?_)
    obtain ⟨rfl, rfl⟩ := hq18
    refine ⟨rfl, ?_⟩
    refine g_stN (st' := .int _ :: []) rfl ?_
    refine g_wN (w' := [_, _, _, _, _, _, _, _, _, _, _, _, _, _, _, _]) rfl ?_
    refine g_pop (n := 22) dX6_givesWayBehind_21 rfl rfl ?_
    refine g_aload_n (n := 23) dX6_givesWayBehind_22 rfl rfl ?_
    refine g_get (n := 26) fl_X6_12 dX6_givesWayBehind_23 rfl rfl rfl ?_
    refine g_iload_n (n := 27) dX6_givesWayBehind_26 rfl rfl ?_
    refine g_cutVi (ps := [1, 2, 3, 4]) (w' := [_, _, _, _, _, _, _, _, _, _, _, _, _, _, _, _]) (n := 30) cv_X6_47 (t_X3_isUp l _ _) dX6_givesWayBehind_27 rfl rfl rfl ⟨by decide, by decide, rfl, rfl, hz.1, hz.2⟩ rfl rfl rfl (Nat.le_of_ble_eq_true rfl) rfl rfl rfl ?_
    refine g_if_ne (tgt := 72) (n := 33) dX6_givesWayBehind_30 (by decide) rfl (fun c30 => ?_) (fun c30 => ?_)
    ·
      rw [if_pos (bI_n0.mp c30)] at hQ
      refine g_iincN (k := 1) (n := 75) dX6_givesWayBehind_72 rfl (by decide) rfl rfl ?_
      refine g_lsN (ls' := [_, _, _, _, _]) rfl ?_
      refine g_goto (tgt := 3) dX6_givesWayBehind_75 (by decide) ?_
      exact ih (h + 1) (psF V S) _ _ _ _ (a + 1) (by omega) (by omega) (by omega) (okS_ps hV hS) hQ
    ·
      rw [if_neg (by rw [bI_0.mp c30]; exact Bool.false_ne_true)] at hQ
      refine g_iload (n := 35) dX6_givesWayBehind_33 rfl rfl ?_
      refine g_iload_n (n := 36) dX6_givesWayBehind_35 rfl rfl ?_
      refine g_icmp_ne (tgt := 70) (n := 39) dX6_givesWayBehind_36 (by decide) rfl (fun c36 => ?_) (fun c36 => ?_)
      ·
        rw [decide_eq_false (fun q : n = 0 => c36 (by rw [show h = m from by omega])), Bool.false_and] at hQ
        refine g_iconst (v := nI 0) (n := 71) dX6_givesWayBehind_70 (by decide) rfl ?_
        exact g_iret (ty := .boolean) dX6_givesWayBehind_71 rfl (by first | exact bI_nar _ | decide) hz (hQ _ _ _ _ _ (okZ_ps hV hS.1))
      ·
        rw [decide_eq_true (show n = 0 by have := (nI_eq (by omega) (by omega)).mp c36; omega), Bool.true_and] at hQ
        refine g_aload_n (n := 40) dX6_givesWayBehind_39 rfl rfl ?_
        refine g_iload_n (n := 41) dX6_givesWayBehind_40 rfl rfl ?_
        refine g_cutVi (ps := [9, 10, 11, 12, 13, 14, 15]) (w' := [_, _, _, _, _, _, _, _, _, _, _, _, _, _, _, _]) (n := 44) cv_X6_51 (t_X7_hasButtress l V hV dn _) dX6_givesWayBehind_41 rfl rfl rfl ⟨by decide, by decide, rfl, rfl, hz.1, hz.2⟩ rfl rfl rfl (Nat.le_of_ble_eq_true rfl) rfl rfl rfl ?_
        refine g_if_eq (tgt := 70) (n := 47) dX6_givesWayBehind_44 (by decide) rfl (fun c44 => absurd c44 (bI_n0.mpr (show isB (vnf V) (nI f) = true by rw [isB_nI (by omega) (by omega)]; exact decide_eq_true hf))) (fun c44 => ?_)
        refine g_aload_n (n := 48) dX6_givesWayBehind_47 rfl rfl ?_
        refine g_get (n := 51) fl_X6_12 dX6_givesWayBehind_48 rfl rfl rfl ?_
        refine g_aload_n (n := 52) dX6_givesWayBehind_51 rfl rfl ?_
        refine g_get (n := 55) fl_X6_12 dX6_givesWayBehind_52 rfl rfl rfl ?_
        refine g_get (n := 58) fl_X6_56 dX6_givesWayBehind_55 rfl rfl rfl ?_
        refine g_iload_n (n := 59) dX6_givesWayBehind_58 rfl rfl ?_
        refine g_ialdN (n := 60) dX6_givesWayBehind_59 rfl rfl (by decide) (by omega) ?_
        refine g_cutVi (ps := [1, 2, 3, 4]) (w' := [_, _, _, _, _, _, _, _, _, _, _, _, _, _, _, _]) (n := 63) cv_X6_60 (t_X3_hasFallen l _ _) dX6_givesWayBehind_60 rfl rfl rfl ⟨by decide, by decide, rfl, rfl, hz.1, hz.2⟩ rfl rfl rfl (Nat.le_of_ble_eq_true rfl) rfl rfl rfl ?_
        refine g_if_ne (tgt := 70) (n := 66) dX6_givesWayBehind_63 (by decide) rfl (fun c63 => ?_) (fun c63 => ?_)
        ·
          rw [bI_n0.mp c63, Bool.not_true] at hQ
          refine g_iconst (v := nI 0) (n := 71) dX6_givesWayBehind_70 (by decide) rfl ?_
          exact g_iret (ty := .boolean) dX6_givesWayBehind_71 rfl (by first | exact bI_nar _ | decide) hz (hQ _ _ _ _ _ (okZ_ps hV hS.1))
        ·
          rw [bI_0.mp c63, Bool.not_false] at hQ
          refine g_iconst (v := nI 1) (n := 67) dX6_givesWayBehind_66 (by decide) rfl ?_
          refine g_goto (tgt := 71) dX6_givesWayBehind_67 (by decide) ?_
          exact g_iret (ty := .boolean) dX6_givesWayBehind_71 rfl (by first | exact bI_nar _ | decide) hz (hQ _ _ _ _ _ (okZ_ps hV hS.1))
set_option maxRecDepth 20000 in
theorem t_X6_givesWayBehind (l : Launch) (V : WT) (hV : okV V) (dn : Int32) (fb : Nat → Int32) (f : Nat) (hf : f < vnf V) (n : Nat) (hn : n ≤ 40) (S : ST) (fell : Int32) (ra lo pr : Nat → Int32) (a : Nat) (ha : a + 100 < 2 ^ 31) (hS : okS V S a) : Con l M_X6_givesWayBehind [.ref 0, .ref 9, .int (nI f), .int (nI n)] (tw fell S ra lo pr V dn fb) (fun r u => r = some (.int (bI (gwB V f n S))) ∧ ∃ fell T ra lo pr, okZ T ∧ u = tw fell T ra lo pr V dn fb) := by
  refine con_of rfl rfl (Nat.le_of_ble_eq_true rfl) ?_
  refine g_lsN (ls' := [_, _, _, _, _]) rfl ?_
  refine g_iconst (v := nI 1) (n := 1) dX6_givesWayBehind_0 (by decide) rfl ?_
  refine g_istore (n := 3) dX6_givesWayBehind_1 (by decide) rfl rfl ?_
  refine g_lsN (ls' := [_, _, _, _, _]) rfl ?_
  exact lp_X6_givesWayBehind l _ ⟨Nat.zero_le _, Nat.zero_le _⟩ _ V hV dn fb f hf n hn n 1 S fell ra lo pr a (by omega) (by omega) (by omega) hS (fun fell T ra lo pr hT => ⟨rfl, fell, T, ra, lo, pr, hT, rfl⟩)
theorem nI_lt0 {k : Nat} (h : 0 < k) (h2 : k < 2 ^ 31) : 0 < nI k := by
  rw [Int32.lt_iff_toInt_lt, nI_toInt h2, show (0 : Int32).toInt = 0 from by decide]
  omega
theorem in12 {k : Nat} (h : k < 8) (h1 : ¬ nI k = nI 1) (h2 : ¬ nI k = nI 2) : inB (nI k) (nI 1) (nI 2) = false :=
  (by decide +kernel : ∀ k, k < 8 → ¬ nI k = nI 1 → ¬ nI k = nI 2 → inB (nI k) (nI 1) (nI 2) = false) k h h1 h2
set_option maxRecDepth 20000 in
theorem t_X6_followDraw (l : Launch) (V : WT) (hV : okV V) (dn : Int32) (fb : Nat → Int32) (S : ST) (fell : Int32) (ra lo pr : Nat → Int32) (a : Nat) (ha : a + 100 < 2 ^ 31) (hS : okS V S a) (h0 : 0 < vnf V) (h1 : 0 < vnb V) (d : Nat) (hd : d < 65521) : Fn l M_X6_followDraw [.ref 0, .ref 9, .int (nI d)] (tw fell S ra lo pr V dn fb) none (tw fell (tuF V S d) ra lo pr V dn fb) := by
  have hV1 := hV.1
  have hV2 := hV.2.1
  have hV3 := hV.2.2
  have hf : d / 8 % vnf V < vnf V := Nat.mod_lt _ h0
  have hb9 : d / 64 % vnb V < vnb V := Nat.mod_lt _ h1
  have hd8 : d / 8 < 65521 := by omega
  have hd64 : d / 64 < 65521 := by omega
  refine con_of rfl rfl (Nat.le_of_ble_eq_true rfl) ?_
  refine g_lsN (ls' := [_, _, _, _, _]) rfl ?_
  refine g_aload_n (n := 1) dX6_followDraw_0 rfl rfl ?_
  refine g_get (n := 4) fl_X6_63 dX6_followDraw_1 rfl rfl rfl ?_
  refine g_if_le (tgt := 14) (n := 7) dX6_followDraw_4 (by decide) rfl (fun c4 => absurd c4 (Int32.not_le.mpr (nI_lt0 h0 (by omega)))) (fun c4 => ?_)
  refine g_aload_n (n := 8) dX6_followDraw_7 rfl rfl ?_
  refine g_get (n := 11) fl_X6_66 dX6_followDraw_8 rfl rfl rfl ?_
  refine g_if_gt (tgt := 15) (n := 14) dX6_followDraw_11 (by decide) rfl (fun c11 => ?_) (fun c11 => absurd (nI_lt0 h1 (by omega)) c11)
  refine g_iload_n (n := 16) dX6_followDraw_15 rfl rfl ?_
  refine g_bipush (v := nI 8) (n := 18) dX6_followDraw_16 (by decide) rfl ?_
  refine g_idiv (n := 19) dX6_followDraw_18 (by decide) rfl ?_
  refine g_top (pk_div (by omega) (by decide) (by decide)) ?_
  refine g_aload_n (n := 20) dX6_followDraw_19 rfl rfl ?_
  refine g_get (n := 23) fl_X6_63 dX6_followDraw_20 rfl rfl rfl ?_
  refine g_irem (n := 24) dX6_followDraw_23 (nI_ne0 h0 (by omega)) rfl ?_
  refine g_top (pk_rem (by omega) (by omega) (by omega)) ?_
  refine g_istore_n (n := 25) dX6_followDraw_24 (by decide) rfl rfl ?_
  refine g_lsN (ls' := [_, _, _, _, _]) rfl ?_
  refine g_aload_n (n := 26) dX6_followDraw_25 rfl rfl ?_
  refine g_iload_n (n := 27) dX6_followDraw_26 rfl rfl ?_
  refine g_cutVi (ps := [9, 10, 11, 12, 13, 14, 15]) (w' := [_, _, _, _, _, _, _, _, _, _, _, _, _, _, _, _]) (n := 30) cv_X6_51 (t_X7_hasButtress l V hV dn _) dX6_followDraw_27 rfl rfl rfl ⟨by decide, by decide, rfl, rfl, Nat.zero_le _, Nat.zero_le _⟩ rfl rfl rfl (Nat.le_of_ble_eq_true rfl) rfl rfl rfl ?_
  refine g_if_ne (tgt := 34) (n := 33) dX6_followDraw_30 (by decide) rfl (fun c30 => ?_) (fun c30 => absurd c30 (bI_n0.mpr (show isB (vnf V) (nI (d / 8 % vnf V)) = true by rw [isB_nI (by omega) (by omega)]; exact decide_eq_true hf)))
  refine g_iload_n (n := 35) dX6_followDraw_34 rfl rfl ?_
  refine g_bipush (v := nI 8) (n := 37) dX6_followDraw_35 (by decide) rfl ?_
  refine g_irem (n := 38) dX6_followDraw_37 (by decide) rfl ?_
  refine g_top (pk_rem (by omega) (by omega) (by omega)) ?_
  refine g_istore (n := 40) dX6_followDraw_38 (by decide) rfl rfl ?_
  refine g_lsN (ls' := [_, _, _, _, _]) rfl ?_
  refine g_iload (n := 42) dX6_followDraw_40 rfl rfl ?_
  refine g_if_ne (tgt := 68) (n := 45) dX6_followDraw_42 (by decide) rfl (fun c42 => ?_) (fun c42 => ?_)
  ·
    have b1 : (decide (d % 8 = 0) && mdF V S (d / 8 % vnf V)) = false := by rw [decide_eq_false (fun q => c42 (by rw [q]; rfl))]; rfl
    refine g_iload (n := 70) dX6_followDraw_68 rfl rfl ?_
    refine g_iconst (v := nI 1) (n := 71) dX6_followDraw_70 (by decide) rfl ?_
    refine g_icmp_eq (tgt := 80) (n := 74) dX6_followDraw_71 (by decide) rfl (fun c71 => ?_) (fun c71 => ?_)
    ·
      have a2 : inB (nI (d % 8)) (nI 1) (nI 2) = true := by rw [c71]; rfl
      refine g_aload_n (n := 81) dX6_followDraw_80 rfl rfl ?_
      refine g_get (n := 84) fl_X6_12 dX6_followDraw_81 rfl rfl rfl ?_
      refine g_aload_n (n := 85) dX6_followDraw_84 rfl rfl ?_
      refine g_iload_n (n := 86) dX6_followDraw_85 rfl rfl ?_
      refine g_cutVi (ps := [9, 10, 11, 12, 13, 14, 15, 1, 2, 3, 4]) (w' := [_, _, _, _, _, _, _, _, _, _, _, _, _, _, _, _]) (n := 89) cv_X6_77 (t_X3_canGoUp l V hV dn fb S _ hf a (by omega) hS.2.2.2) dX6_followDraw_86 rfl rfl rfl ⟨by decide, by decide, rfl, rfl, Nat.zero_le _, Nat.zero_le _⟩ rfl rfl rfl (Nat.le_of_ble_eq_true rfl) rfl rfl rfl ?_
      refine g_if_eq (tgt := 103) (n := 92) dX6_followDraw_89 (by decide) rfl (fun c89 => ?_) (fun c89 => ?_)
      ·
        have b2 : (inB (nI (d % 8)) (nI 1) (nI 2) && muF V S (d / 8 % vnf V)) = false := by rw [bI_0.mp c89, Bool.and_false]
        refine g_iload (n := 105) dX6_followDraw_103 rfl rfl ?_
        refine g_iconst (v := nI 3) (n := 106) dX6_followDraw_105 (by decide) rfl ?_
        refine g_icmp_ne (tgt := 138) (n := 109) dX6_followDraw_106 (by decide) rfl (fun c106 => ?_) (fun c106 => ?_)
        ·
          have e9 : tuF V S d = S := by unfold tuF; rw [b1, if_neg Bool.false_ne_true, b2, if_neg Bool.false_ne_true, decide_eq_false (fun q => c106 (by rw [q]))]; rfl
          exact g_vret dX6_followDraw_138 rfl ⟨Nat.zero_le _, Nat.zero_le _⟩ ⟨rfl, by first | (rw [e9]; done) | (rw [e9]; rfl)⟩
        ·
          have a3 : decide (d % 8 = 3) = true := decide_eq_true ((nI_eq (by omega) (by decide)).mp c106)
          refine g_aload_n (n := 110) dX6_followDraw_109 rfl rfl ?_
          refine g_get (n := 113) fl_X6_12 dX6_followDraw_110 rfl rfl rfl ?_
          refine g_iload_n (n := 114) dX6_followDraw_113 rfl rfl ?_
          refine g_cutVi (ps := [1, 2, 3, 4]) (w' := [_, _, _, _, _, _, _, _, _, _, _, _, _, _, _, _]) (n := 117) cv_X6_47 (t_X3_isUp l _ _) dX6_followDraw_114 rfl rfl rfl ⟨by decide, by decide, rfl, rfl, Nat.zero_le _, Nat.zero_le _⟩ rfl rfl rfl (Nat.le_of_ble_eq_true rfl) rfl rfl rfl ?_
          refine g_if_ne (tgt := 138) (n := 120) dX6_followDraw_117 (by decide) rfl (fun c117 => ?_) (fun c117 => ?_)
          ·
            have e9 : tuF V S d = S := by unfold tuF; rw [b1, if_neg Bool.false_ne_true, b2, if_neg Bool.false_ne_true, bI_n0.mp c117, Bool.not_true, Bool.and_false]; rfl
            exact g_vret dX6_followDraw_138 rfl ⟨Nat.zero_le _, Nat.zero_le _⟩ ⟨rfl, by first | (rw [e9]; done) | (rw [e9]; rfl)⟩
          ·
            have e9 : tuF V S d = sBo S (upd (sbo S) (d / 8 % vnf V) (nI (d / 64 % vnb V))) := by unfold tuF; rw [b1, if_neg Bool.false_ne_true, b2, if_neg Bool.false_ne_true, a3, bI_0.mp c117]; rfl
            refine g_aload_n (n := 121) dX6_followDraw_120 rfl rfl ?_
            refine g_get (n := 124) fl_X6_12 dX6_followDraw_121 rfl rfl rfl ?_
            refine g_get (n := 127) fl_X6_56 dX6_followDraw_124 rfl rfl rfl ?_
            refine g_iload_n (n := 128) dX6_followDraw_127 rfl rfl ?_
            refine g_iload_n (n := 129) dX6_followDraw_128 rfl rfl ?_
            refine g_bipush (v := nI 64) (n := 131) dX6_followDraw_129 (by decide) rfl ?_
            refine g_idiv (n := 132) dX6_followDraw_131 (by decide) rfl ?_
            refine g_top (pk_div (by omega) (by decide) (by decide)) ?_
            refine g_aload_n (n := 133) dX6_followDraw_132 rfl rfl ?_
            refine g_get (n := 136) fl_X6_66 dX6_followDraw_133 rfl rfl rfl ?_
            refine g_irem (n := 137) dX6_followDraw_136 (nI_ne0 h1 (by omega)) rfl ?_
            refine g_top (pk_rem (by omega) (by omega) (by omega)) ?_
            refine g_iastN (n := 138) dX6_followDraw_137 rfl rfl (by decide) (by omega) ?_
            refine g_wN (w' := [_, _, _, _, _, _, _, _, _, _, _, _, _, _, _, _]) rfl ?_
            exact g_vret dX6_followDraw_138 rfl ⟨Nat.zero_le _, Nat.zero_le _⟩ ⟨rfl, by first | (rw [e9]; done) | (rw [e9]; rfl)⟩
      ·
        have e9 : tuF V S d = sUp S (sup S ||| nI 1 <<< (nI (d / 8 % vnf V) &&& 31)) := by unfold tuF; rw [b1, if_neg Bool.false_ne_true, a2, bI_n0.mp c89]; rfl
        refine g_aload_n (n := 93) dX6_followDraw_92 rfl rfl ?_
        refine g_get (n := 96) fl_X6_12 dX6_followDraw_93 rfl rfl rfl ?_
        refine g_iload_n (n := 97) dX6_followDraw_96 rfl rfl ?_
        refine g_cutVv (ps := [1, 2, 3, 4]) (w' := [_, _, _, _, _, _, _, _, _, _, _, _, _, _, _, _]) (n := 100) cv_X6_80 (t_X3_goUp l _ _) dX6_followDraw_97 rfl rfl rfl ⟨by decide, by decide, rfl, rfl, Nat.zero_le _, Nat.zero_le _⟩ rfl rfl rfl (Nat.le_of_ble_eq_true rfl) rfl rfl rfl ?_
        refine g_goto (tgt := 138) dX6_followDraw_100 (by decide) ?_
        exact g_vret dX6_followDraw_138 rfl ⟨Nat.zero_le _, Nat.zero_le _⟩ ⟨rfl, by first | (rw [e9]; done) | (rw [e9]; rfl)⟩
    ·
      refine g_iload (n := 76) dX6_followDraw_74 rfl rfl ?_
      refine g_iconst (v := nI 2) (n := 77) dX6_followDraw_76 (by decide) rfl ?_
      refine g_icmp_ne (tgt := 103) (n := 80) dX6_followDraw_77 (by decide) rfl (fun c77 => ?_) (fun c77 => ?_)
      ·
        have b2 : (inB (nI (d % 8)) (nI 1) (nI 2) && muF V S (d / 8 % vnf V)) = false := by rw [in12 (by omega) c71 c77, Bool.false_and]
        refine g_iload (n := 105) dX6_followDraw_103 rfl rfl ?_
        refine g_iconst (v := nI 3) (n := 106) dX6_followDraw_105 (by decide) rfl ?_
        refine g_icmp_ne (tgt := 138) (n := 109) dX6_followDraw_106 (by decide) rfl (fun c106 => ?_) (fun c106 => ?_)
        ·
          have e9 : tuF V S d = S := by unfold tuF; rw [b1, if_neg Bool.false_ne_true, b2, if_neg Bool.false_ne_true, decide_eq_false (fun q => c106 (by rw [q]))]; rfl
          exact g_vret dX6_followDraw_138 rfl ⟨Nat.zero_le _, Nat.zero_le _⟩ ⟨rfl, by first | (rw [e9]; done) | (rw [e9]; rfl)⟩
        ·
          have a3 : decide (d % 8 = 3) = true := decide_eq_true ((nI_eq (by omega) (by decide)).mp c106)
          refine g_aload_n (n := 110) dX6_followDraw_109 rfl rfl ?_
          refine g_get (n := 113) fl_X6_12 dX6_followDraw_110 rfl rfl rfl ?_
          refine g_iload_n (n := 114) dX6_followDraw_113 rfl rfl ?_
          refine g_cutVi (ps := [1, 2, 3, 4]) (w' := [_, _, _, _, _, _, _, _, _, _, _, _, _, _, _, _]) (n := 117) cv_X6_47 (t_X3_isUp l _ _) dX6_followDraw_114 rfl rfl rfl ⟨by decide, by decide, rfl, rfl, Nat.zero_le _, Nat.zero_le _⟩ rfl rfl rfl (Nat.le_of_ble_eq_true rfl) rfl rfl rfl ?_
          refine g_if_ne (tgt := 138) (n := 120) dX6_followDraw_117 (by decide) rfl (fun c117 => ?_) (fun c117 => ?_)
          ·
            have e9 : tuF V S d = S := by unfold tuF; rw [b1, if_neg Bool.false_ne_true, b2, if_neg Bool.false_ne_true, bI_n0.mp c117, Bool.not_true, Bool.and_false]; rfl
            exact g_vret dX6_followDraw_138 rfl ⟨Nat.zero_le _, Nat.zero_le _⟩ ⟨rfl, by first | (rw [e9]; done) | (rw [e9]; rfl)⟩
          ·
            have e9 : tuF V S d = sBo S (upd (sbo S) (d / 8 % vnf V) (nI (d / 64 % vnb V))) := by unfold tuF; rw [b1, if_neg Bool.false_ne_true, b2, if_neg Bool.false_ne_true, a3, bI_0.mp c117]; rfl
            refine g_aload_n (n := 121) dX6_followDraw_120 rfl rfl ?_
            refine g_get (n := 124) fl_X6_12 dX6_followDraw_121 rfl rfl rfl ?_
            refine g_get (n := 127) fl_X6_56 dX6_followDraw_124 rfl rfl rfl ?_
            refine g_iload_n (n := 128) dX6_followDraw_127 rfl rfl ?_
            refine g_iload_n (n := 129) dX6_followDraw_128 rfl rfl ?_
            refine g_bipush (v := nI 64) (n := 131) dX6_followDraw_129 (by decide) rfl ?_
            refine g_idiv (n := 132) dX6_followDraw_131 (by decide) rfl ?_
            refine g_top (pk_div (by omega) (by decide) (by decide)) ?_
            refine g_aload_n (n := 133) dX6_followDraw_132 rfl rfl ?_
            refine g_get (n := 136) fl_X6_66 dX6_followDraw_133 rfl rfl rfl ?_
            refine g_irem (n := 137) dX6_followDraw_136 (nI_ne0 h1 (by omega)) rfl ?_
            refine g_top (pk_rem (by omega) (by omega) (by omega)) ?_
            refine g_iastN (n := 138) dX6_followDraw_137 rfl rfl (by decide) (by omega) ?_
            refine g_wN (w' := [_, _, _, _, _, _, _, _, _, _, _, _, _, _, _, _]) rfl ?_
            exact g_vret dX6_followDraw_138 rfl ⟨Nat.zero_le _, Nat.zero_le _⟩ ⟨rfl, by first | (rw [e9]; done) | (rw [e9]; rfl)⟩
      ·
        have a2 : inB (nI (d % 8)) (nI 1) (nI 2) = true := by rw [c77]; rfl
        refine g_aload_n (n := 81) dX6_followDraw_80 rfl rfl ?_
        refine g_get (n := 84) fl_X6_12 dX6_followDraw_81 rfl rfl rfl ?_
        refine g_aload_n (n := 85) dX6_followDraw_84 rfl rfl ?_
        refine g_iload_n (n := 86) dX6_followDraw_85 rfl rfl ?_
        refine g_cutVi (ps := [9, 10, 11, 12, 13, 14, 15, 1, 2, 3, 4]) (w' := [_, _, _, _, _, _, _, _, _, _, _, _, _, _, _, _]) (n := 89) cv_X6_77 (t_X3_canGoUp l V hV dn fb S _ hf a (by omega) hS.2.2.2) dX6_followDraw_86 rfl rfl rfl ⟨by decide, by decide, rfl, rfl, Nat.zero_le _, Nat.zero_le _⟩ rfl rfl rfl (Nat.le_of_ble_eq_true rfl) rfl rfl rfl ?_
        refine g_if_eq (tgt := 103) (n := 92) dX6_followDraw_89 (by decide) rfl (fun c89 => ?_) (fun c89 => ?_)
        ·
          have b2 : (inB (nI (d % 8)) (nI 1) (nI 2) && muF V S (d / 8 % vnf V)) = false := by rw [bI_0.mp c89, Bool.and_false]
          refine g_iload (n := 105) dX6_followDraw_103 rfl rfl ?_
          refine g_iconst (v := nI 3) (n := 106) dX6_followDraw_105 (by decide) rfl ?_
          refine g_icmp_ne (tgt := 138) (n := 109) dX6_followDraw_106 (by decide) rfl (fun c106 => ?_) (fun c106 => ?_)
          ·
            have e9 : tuF V S d = S := by unfold tuF; rw [b1, if_neg Bool.false_ne_true, b2, if_neg Bool.false_ne_true, decide_eq_false (fun q => c106 (by rw [q]))]; rfl
            exact g_vret dX6_followDraw_138 rfl ⟨Nat.zero_le _, Nat.zero_le _⟩ ⟨rfl, by first | (rw [e9]; done) | (rw [e9]; rfl)⟩
          ·
            have a3 : decide (d % 8 = 3) = true := decide_eq_true ((nI_eq (by omega) (by decide)).mp c106)
            refine g_aload_n (n := 110) dX6_followDraw_109 rfl rfl ?_
            refine g_get (n := 113) fl_X6_12 dX6_followDraw_110 rfl rfl rfl ?_
            refine g_iload_n (n := 114) dX6_followDraw_113 rfl rfl ?_
            refine g_cutVi (ps := [1, 2, 3, 4]) (w' := [_, _, _, _, _, _, _, _, _, _, _, _, _, _, _, _]) (n := 117) cv_X6_47 (t_X3_isUp l _ _) dX6_followDraw_114 rfl rfl rfl ⟨by decide, by decide, rfl, rfl, Nat.zero_le _, Nat.zero_le _⟩ rfl rfl rfl (Nat.le_of_ble_eq_true rfl) rfl rfl rfl ?_
            refine g_if_ne (tgt := 138) (n := 120) dX6_followDraw_117 (by decide) rfl (fun c117 => ?_) (fun c117 => ?_)
            ·
              have e9 : tuF V S d = S := by unfold tuF; rw [b1, if_neg Bool.false_ne_true, b2, if_neg Bool.false_ne_true, bI_n0.mp c117, Bool.not_true, Bool.and_false]; rfl
              exact g_vret dX6_followDraw_138 rfl ⟨Nat.zero_le _, Nat.zero_le _⟩ ⟨rfl, by first | (rw [e9]; done) | (rw [e9]; rfl)⟩
            ·
              have e9 : tuF V S d = sBo S (upd (sbo S) (d / 8 % vnf V) (nI (d / 64 % vnb V))) := by unfold tuF; rw [b1, if_neg Bool.false_ne_true, b2, if_neg Bool.false_ne_true, a3, bI_0.mp c117]; rfl
              refine g_aload_n (n := 121) dX6_followDraw_120 rfl rfl ?_
              refine g_get (n := 124) fl_X6_12 dX6_followDraw_121 rfl rfl rfl ?_
              refine g_get (n := 127) fl_X6_56 dX6_followDraw_124 rfl rfl rfl ?_
              refine g_iload_n (n := 128) dX6_followDraw_127 rfl rfl ?_
              refine g_iload_n (n := 129) dX6_followDraw_128 rfl rfl ?_
              refine g_bipush (v := nI 64) (n := 131) dX6_followDraw_129 (by decide) rfl ?_
              refine g_idiv (n := 132) dX6_followDraw_131 (by decide) rfl ?_
              refine g_top (pk_div (by omega) (by decide) (by decide)) ?_
              refine g_aload_n (n := 133) dX6_followDraw_132 rfl rfl ?_
              refine g_get (n := 136) fl_X6_66 dX6_followDraw_133 rfl rfl rfl ?_
              refine g_irem (n := 137) dX6_followDraw_136 (nI_ne0 h1 (by omega)) rfl ?_
              refine g_top (pk_rem (by omega) (by omega) (by omega)) ?_
              refine g_iastN (n := 138) dX6_followDraw_137 rfl rfl (by decide) (by omega) ?_
              refine g_wN (w' := [_, _, _, _, _, _, _, _, _, _, _, _, _, _, _, _]) rfl ?_
              exact g_vret dX6_followDraw_138 rfl ⟨Nat.zero_le _, Nat.zero_le _⟩ ⟨rfl, by first | (rw [e9]; done) | (rw [e9]; rfl)⟩
        ·
          have e9 : tuF V S d = sUp S (sup S ||| nI 1 <<< (nI (d / 8 % vnf V) &&& 31)) := by unfold tuF; rw [b1, if_neg Bool.false_ne_true, a2, bI_n0.mp c89]; rfl
          refine g_aload_n (n := 93) dX6_followDraw_92 rfl rfl ?_
          refine g_get (n := 96) fl_X6_12 dX6_followDraw_93 rfl rfl rfl ?_
          refine g_iload_n (n := 97) dX6_followDraw_96 rfl rfl ?_
          refine g_cutVv (ps := [1, 2, 3, 4]) (w' := [_, _, _, _, _, _, _, _, _, _, _, _, _, _, _, _]) (n := 100) cv_X6_80 (t_X3_goUp l _ _) dX6_followDraw_97 rfl rfl rfl ⟨by decide, by decide, rfl, rfl, Nat.zero_le _, Nat.zero_le _⟩ rfl rfl rfl (Nat.le_of_ble_eq_true rfl) rfl rfl rfl ?_
          refine g_goto (tgt := 138) dX6_followDraw_100 (by decide) ?_
          exact g_vret dX6_followDraw_138 rfl ⟨Nat.zero_le _, Nat.zero_le _⟩ ⟨rfl, by first | (rw [e9]; done) | (rw [e9]; rfl)⟩
  ·
    have a1 : decide (d % 8 = 0) = true := decide_eq_true (by
      rcases Nat.eq_zero_or_pos (d % 8) with q | q
      · exact q
      · exact absurd c42 (nI_ne0 q (by omega)))
    refine g_aload_n (n := 46) dX6_followDraw_45 rfl rfl ?_
    refine g_get (n := 49) fl_X6_12 dX6_followDraw_46 rfl rfl rfl ?_
    refine g_aload_n (n := 50) dX6_followDraw_49 rfl rfl ?_
    refine g_iload_n (n := 51) dX6_followDraw_50 rfl rfl ?_
    refine g_cutVi (ps := [9, 10, 11, 12, 13, 14, 15, 1, 2, 3, 4]) (w' := [_, _, _, _, _, _, _, _, _, _, _, _, _, _, _, _]) (n := 54) cv_X6_69 (t_X3_canComeDown l V hV dn fb S _ hf a (by omega) hS.2.2.2) dX6_followDraw_51 rfl rfl rfl ⟨by decide, by decide, rfl, rfl, Nat.zero_le _, Nat.zero_le _⟩ rfl rfl rfl (Nat.le_of_ble_eq_true rfl) rfl rfl rfl ?_
    refine g_if_eq (tgt := 68) (n := 57) dX6_followDraw_54 (by decide) rfl (fun c54 => ?_) (fun c54 => ?_)
    ·
      have b1 : (decide (d % 8 = 0) && mdF V S (d / 8 % vnf V)) = false := by rw [bI_0.mp c54, Bool.and_false]
      refine g_iload (n := 70) dX6_followDraw_68 rfl rfl ?_
      refine g_iconst (v := nI 1) (n := 71) dX6_followDraw_70 (by decide) rfl ?_
      refine g_icmp_eq (tgt := 80) (n := 74) dX6_followDraw_71 (by decide) rfl (fun c71 => ?_) (fun c71 => ?_)
      ·
        have a2 : inB (nI (d % 8)) (nI 1) (nI 2) = true := by rw [c71]; rfl
        refine g_aload_n (n := 81) dX6_followDraw_80 rfl rfl ?_
        refine g_get (n := 84) fl_X6_12 dX6_followDraw_81 rfl rfl rfl ?_
        refine g_aload_n (n := 85) dX6_followDraw_84 rfl rfl ?_
        refine g_iload_n (n := 86) dX6_followDraw_85 rfl rfl ?_
        refine g_cutVi (ps := [9, 10, 11, 12, 13, 14, 15, 1, 2, 3, 4]) (w' := [_, _, _, _, _, _, _, _, _, _, _, _, _, _, _, _]) (n := 89) cv_X6_77 (t_X3_canGoUp l V hV dn fb S _ hf a (by omega) hS.2.2.2) dX6_followDraw_86 rfl rfl rfl ⟨by decide, by decide, rfl, rfl, Nat.zero_le _, Nat.zero_le _⟩ rfl rfl rfl (Nat.le_of_ble_eq_true rfl) rfl rfl rfl ?_
        refine g_if_eq (tgt := 103) (n := 92) dX6_followDraw_89 (by decide) rfl (fun c89 => ?_) (fun c89 => ?_)
        ·
          have b2 : (inB (nI (d % 8)) (nI 1) (nI 2) && muF V S (d / 8 % vnf V)) = false := by rw [bI_0.mp c89, Bool.and_false]
          refine g_iload (n := 105) dX6_followDraw_103 rfl rfl ?_
          refine g_iconst (v := nI 3) (n := 106) dX6_followDraw_105 (by decide) rfl ?_
          refine g_icmp_ne (tgt := 138) (n := 109) dX6_followDraw_106 (by decide) rfl (fun c106 => ?_) (fun c106 => ?_)
          ·
            have e9 : tuF V S d = S := by unfold tuF; rw [b1, if_neg Bool.false_ne_true, b2, if_neg Bool.false_ne_true, decide_eq_false (fun q => c106 (by rw [q]))]; rfl
            exact g_vret dX6_followDraw_138 rfl ⟨Nat.zero_le _, Nat.zero_le _⟩ ⟨rfl, by first | (rw [e9]; done) | (rw [e9]; rfl)⟩
          ·
            have a3 : decide (d % 8 = 3) = true := decide_eq_true ((nI_eq (by omega) (by decide)).mp c106)
            refine g_aload_n (n := 110) dX6_followDraw_109 rfl rfl ?_
            refine g_get (n := 113) fl_X6_12 dX6_followDraw_110 rfl rfl rfl ?_
            refine g_iload_n (n := 114) dX6_followDraw_113 rfl rfl ?_
            refine g_cutVi (ps := [1, 2, 3, 4]) (w' := [_, _, _, _, _, _, _, _, _, _, _, _, _, _, _, _]) (n := 117) cv_X6_47 (t_X3_isUp l _ _) dX6_followDraw_114 rfl rfl rfl ⟨by decide, by decide, rfl, rfl, Nat.zero_le _, Nat.zero_le _⟩ rfl rfl rfl (Nat.le_of_ble_eq_true rfl) rfl rfl rfl ?_
            refine g_if_ne (tgt := 138) (n := 120) dX6_followDraw_117 (by decide) rfl (fun c117 => ?_) (fun c117 => ?_)
            ·
              have e9 : tuF V S d = S := by unfold tuF; rw [b1, if_neg Bool.false_ne_true, b2, if_neg Bool.false_ne_true, bI_n0.mp c117, Bool.not_true, Bool.and_false]; rfl
              exact g_vret dX6_followDraw_138 rfl ⟨Nat.zero_le _, Nat.zero_le _⟩ ⟨rfl, by first | (rw [e9]; done) | (rw [e9]; rfl)⟩
            ·
              have e9 : tuF V S d = sBo S (upd (sbo S) (d / 8 % vnf V) (nI (d / 64 % vnb V))) := by unfold tuF; rw [b1, if_neg Bool.false_ne_true, b2, if_neg Bool.false_ne_true, a3, bI_0.mp c117]; rfl
              refine g_aload_n (n := 121) dX6_followDraw_120 rfl rfl ?_
              refine g_get (n := 124) fl_X6_12 dX6_followDraw_121 rfl rfl rfl ?_
              refine g_get (n := 127) fl_X6_56 dX6_followDraw_124 rfl rfl rfl ?_
              refine g_iload_n (n := 128) dX6_followDraw_127 rfl rfl ?_
              refine g_iload_n (n := 129) dX6_followDraw_128 rfl rfl ?_
              refine g_bipush (v := nI 64) (n := 131) dX6_followDraw_129 (by decide) rfl ?_
              refine g_idiv (n := 132) dX6_followDraw_131 (by decide) rfl ?_
              refine g_top (pk_div (by omega) (by decide) (by decide)) ?_
              refine g_aload_n (n := 133) dX6_followDraw_132 rfl rfl ?_
              refine g_get (n := 136) fl_X6_66 dX6_followDraw_133 rfl rfl rfl ?_
              refine g_irem (n := 137) dX6_followDraw_136 (nI_ne0 h1 (by omega)) rfl ?_
              refine g_top (pk_rem (by omega) (by omega) (by omega)) ?_
              refine g_iastN (n := 138) dX6_followDraw_137 rfl rfl (by decide) (by omega) ?_
              refine g_wN (w' := [_, _, _, _, _, _, _, _, _, _, _, _, _, _, _, _]) rfl ?_
              exact g_vret dX6_followDraw_138 rfl ⟨Nat.zero_le _, Nat.zero_le _⟩ ⟨rfl, by first | (rw [e9]; done) | (rw [e9]; rfl)⟩
        ·
          have e9 : tuF V S d = sUp S (sup S ||| nI 1 <<< (nI (d / 8 % vnf V) &&& 31)) := by unfold tuF; rw [b1, if_neg Bool.false_ne_true, a2, bI_n0.mp c89]; rfl
          refine g_aload_n (n := 93) dX6_followDraw_92 rfl rfl ?_
          refine g_get (n := 96) fl_X6_12 dX6_followDraw_93 rfl rfl rfl ?_
          refine g_iload_n (n := 97) dX6_followDraw_96 rfl rfl ?_
          refine g_cutVv (ps := [1, 2, 3, 4]) (w' := [_, _, _, _, _, _, _, _, _, _, _, _, _, _, _, _]) (n := 100) cv_X6_80 (t_X3_goUp l _ _) dX6_followDraw_97 rfl rfl rfl ⟨by decide, by decide, rfl, rfl, Nat.zero_le _, Nat.zero_le _⟩ rfl rfl rfl (Nat.le_of_ble_eq_true rfl) rfl rfl rfl ?_
          refine g_goto (tgt := 138) dX6_followDraw_100 (by decide) ?_
          exact g_vret dX6_followDraw_138 rfl ⟨Nat.zero_le _, Nat.zero_le _⟩ ⟨rfl, by first | (rw [e9]; done) | (rw [e9]; rfl)⟩
      ·
        refine g_iload (n := 76) dX6_followDraw_74 rfl rfl ?_
        refine g_iconst (v := nI 2) (n := 77) dX6_followDraw_76 (by decide) rfl ?_
        refine g_icmp_ne (tgt := 103) (n := 80) dX6_followDraw_77 (by decide) rfl (fun c77 => ?_) (fun c77 => ?_)
        ·
          have b2 : (inB (nI (d % 8)) (nI 1) (nI 2) && muF V S (d / 8 % vnf V)) = false := by rw [in12 (by omega) c71 c77, Bool.false_and]
          refine g_iload (n := 105) dX6_followDraw_103 rfl rfl ?_
          refine g_iconst (v := nI 3) (n := 106) dX6_followDraw_105 (by decide) rfl ?_
          refine g_icmp_ne (tgt := 138) (n := 109) dX6_followDraw_106 (by decide) rfl (fun c106 => ?_) (fun c106 => ?_)
          ·
            have e9 : tuF V S d = S := by unfold tuF; rw [b1, if_neg Bool.false_ne_true, b2, if_neg Bool.false_ne_true, decide_eq_false (fun q => c106 (by rw [q]))]; rfl
            exact g_vret dX6_followDraw_138 rfl ⟨Nat.zero_le _, Nat.zero_le _⟩ ⟨rfl, by first | (rw [e9]; done) | (rw [e9]; rfl)⟩
          ·
            have a3 : decide (d % 8 = 3) = true := decide_eq_true ((nI_eq (by omega) (by decide)).mp c106)
            refine g_aload_n (n := 110) dX6_followDraw_109 rfl rfl ?_
            refine g_get (n := 113) fl_X6_12 dX6_followDraw_110 rfl rfl rfl ?_
            refine g_iload_n (n := 114) dX6_followDraw_113 rfl rfl ?_
            refine g_cutVi (ps := [1, 2, 3, 4]) (w' := [_, _, _, _, _, _, _, _, _, _, _, _, _, _, _, _]) (n := 117) cv_X6_47 (t_X3_isUp l _ _) dX6_followDraw_114 rfl rfl rfl ⟨by decide, by decide, rfl, rfl, Nat.zero_le _, Nat.zero_le _⟩ rfl rfl rfl (Nat.le_of_ble_eq_true rfl) rfl rfl rfl ?_
            refine g_if_ne (tgt := 138) (n := 120) dX6_followDraw_117 (by decide) rfl (fun c117 => ?_) (fun c117 => ?_)
            ·
              have e9 : tuF V S d = S := by unfold tuF; rw [b1, if_neg Bool.false_ne_true, b2, if_neg Bool.false_ne_true, bI_n0.mp c117, Bool.not_true, Bool.and_false]; rfl
              exact g_vret dX6_followDraw_138 rfl ⟨Nat.zero_le _, Nat.zero_le _⟩ ⟨rfl, by first | (rw [e9]; done) | (rw [e9]; rfl)⟩
            ·
              have e9 : tuF V S d = sBo S (upd (sbo S) (d / 8 % vnf V) (nI (d / 64 % vnb V))) := by unfold tuF; rw [b1, if_neg Bool.false_ne_true, b2, if_neg Bool.false_ne_true, a3, bI_0.mp c117]; rfl
              refine g_aload_n (n := 121) dX6_followDraw_120 rfl rfl ?_
              refine g_get (n := 124) fl_X6_12 dX6_followDraw_121 rfl rfl rfl ?_
              refine g_get (n := 127) fl_X6_56 dX6_followDraw_124 rfl rfl rfl ?_
              refine g_iload_n (n := 128) dX6_followDraw_127 rfl rfl ?_
              refine g_iload_n (n := 129) dX6_followDraw_128 rfl rfl ?_
              refine g_bipush (v := nI 64) (n := 131) dX6_followDraw_129 (by decide) rfl ?_
              refine g_idiv (n := 132) dX6_followDraw_131 (by decide) rfl ?_
              refine g_top (pk_div (by omega) (by decide) (by decide)) ?_
              refine g_aload_n (n := 133) dX6_followDraw_132 rfl rfl ?_
              refine g_get (n := 136) fl_X6_66 dX6_followDraw_133 rfl rfl rfl ?_
              refine g_irem (n := 137) dX6_followDraw_136 (nI_ne0 h1 (by omega)) rfl ?_
              refine g_top (pk_rem (by omega) (by omega) (by omega)) ?_
              refine g_iastN (n := 138) dX6_followDraw_137 rfl rfl (by decide) (by omega) ?_
              refine g_wN (w' := [_, _, _, _, _, _, _, _, _, _, _, _, _, _, _, _]) rfl ?_
              exact g_vret dX6_followDraw_138 rfl ⟨Nat.zero_le _, Nat.zero_le _⟩ ⟨rfl, by first | (rw [e9]; done) | (rw [e9]; rfl)⟩
        ·
          have a2 : inB (nI (d % 8)) (nI 1) (nI 2) = true := by rw [c77]; rfl
          refine g_aload_n (n := 81) dX6_followDraw_80 rfl rfl ?_
          refine g_get (n := 84) fl_X6_12 dX6_followDraw_81 rfl rfl rfl ?_
          refine g_aload_n (n := 85) dX6_followDraw_84 rfl rfl ?_
          refine g_iload_n (n := 86) dX6_followDraw_85 rfl rfl ?_
          refine g_cutVi (ps := [9, 10, 11, 12, 13, 14, 15, 1, 2, 3, 4]) (w' := [_, _, _, _, _, _, _, _, _, _, _, _, _, _, _, _]) (n := 89) cv_X6_77 (t_X3_canGoUp l V hV dn fb S _ hf a (by omega) hS.2.2.2) dX6_followDraw_86 rfl rfl rfl ⟨by decide, by decide, rfl, rfl, Nat.zero_le _, Nat.zero_le _⟩ rfl rfl rfl (Nat.le_of_ble_eq_true rfl) rfl rfl rfl ?_
          refine g_if_eq (tgt := 103) (n := 92) dX6_followDraw_89 (by decide) rfl (fun c89 => ?_) (fun c89 => ?_)
          ·
            have b2 : (inB (nI (d % 8)) (nI 1) (nI 2) && muF V S (d / 8 % vnf V)) = false := by rw [bI_0.mp c89, Bool.and_false]
            refine g_iload (n := 105) dX6_followDraw_103 rfl rfl ?_
            refine g_iconst (v := nI 3) (n := 106) dX6_followDraw_105 (by decide) rfl ?_
            refine g_icmp_ne (tgt := 138) (n := 109) dX6_followDraw_106 (by decide) rfl (fun c106 => ?_) (fun c106 => ?_)
            ·
              have e9 : tuF V S d = S := by unfold tuF; rw [b1, if_neg Bool.false_ne_true, b2, if_neg Bool.false_ne_true, decide_eq_false (fun q => c106 (by rw [q]))]; rfl
              exact g_vret dX6_followDraw_138 rfl ⟨Nat.zero_le _, Nat.zero_le _⟩ ⟨rfl, by first | (rw [e9]; done) | (rw [e9]; rfl)⟩
            ·
              have a3 : decide (d % 8 = 3) = true := decide_eq_true ((nI_eq (by omega) (by decide)).mp c106)
              refine g_aload_n (n := 110) dX6_followDraw_109 rfl rfl ?_
              refine g_get (n := 113) fl_X6_12 dX6_followDraw_110 rfl rfl rfl ?_
              refine g_iload_n (n := 114) dX6_followDraw_113 rfl rfl ?_
              refine g_cutVi (ps := [1, 2, 3, 4]) (w' := [_, _, _, _, _, _, _, _, _, _, _, _, _, _, _, _]) (n := 117) cv_X6_47 (t_X3_isUp l _ _) dX6_followDraw_114 rfl rfl rfl ⟨by decide, by decide, rfl, rfl, Nat.zero_le _, Nat.zero_le _⟩ rfl rfl rfl (Nat.le_of_ble_eq_true rfl) rfl rfl rfl ?_
              refine g_if_ne (tgt := 138) (n := 120) dX6_followDraw_117 (by decide) rfl (fun c117 => ?_) (fun c117 => ?_)
              ·
                have e9 : tuF V S d = S := by unfold tuF; rw [b1, if_neg Bool.false_ne_true, b2, if_neg Bool.false_ne_true, bI_n0.mp c117, Bool.not_true, Bool.and_false]; rfl
                exact g_vret dX6_followDraw_138 rfl ⟨Nat.zero_le _, Nat.zero_le _⟩ ⟨rfl, by first | (rw [e9]; done) | (rw [e9]; rfl)⟩
              ·
                have e9 : tuF V S d = sBo S (upd (sbo S) (d / 8 % vnf V) (nI (d / 64 % vnb V))) := by unfold tuF; rw [b1, if_neg Bool.false_ne_true, b2, if_neg Bool.false_ne_true, a3, bI_0.mp c117]; rfl
                refine g_aload_n (n := 121) dX6_followDraw_120 rfl rfl ?_
                refine g_get (n := 124) fl_X6_12 dX6_followDraw_121 rfl rfl rfl ?_
                refine g_get (n := 127) fl_X6_56 dX6_followDraw_124 rfl rfl rfl ?_
                refine g_iload_n (n := 128) dX6_followDraw_127 rfl rfl ?_
                refine g_iload_n (n := 129) dX6_followDraw_128 rfl rfl ?_
                refine g_bipush (v := nI 64) (n := 131) dX6_followDraw_129 (by decide) rfl ?_
                refine g_idiv (n := 132) dX6_followDraw_131 (by decide) rfl ?_
                refine g_top (pk_div (by omega) (by decide) (by decide)) ?_
                refine g_aload_n (n := 133) dX6_followDraw_132 rfl rfl ?_
                refine g_get (n := 136) fl_X6_66 dX6_followDraw_133 rfl rfl rfl ?_
                refine g_irem (n := 137) dX6_followDraw_136 (nI_ne0 h1 (by omega)) rfl ?_
                refine g_top (pk_rem (by omega) (by omega) (by omega)) ?_
                refine g_iastN (n := 138) dX6_followDraw_137 rfl rfl (by decide) (by omega) ?_
                refine g_wN (w' := [_, _, _, _, _, _, _, _, _, _, _, _, _, _, _, _]) rfl ?_
                exact g_vret dX6_followDraw_138 rfl ⟨Nat.zero_le _, Nat.zero_le _⟩ ⟨rfl, by first | (rw [e9]; done) | (rw [e9]; rfl)⟩
          ·
            have e9 : tuF V S d = sUp S (sup S ||| nI 1 <<< (nI (d / 8 % vnf V) &&& 31)) := by unfold tuF; rw [b1, if_neg Bool.false_ne_true, a2, bI_n0.mp c89]; rfl
            refine g_aload_n (n := 93) dX6_followDraw_92 rfl rfl ?_
            refine g_get (n := 96) fl_X6_12 dX6_followDraw_93 rfl rfl rfl ?_
            refine g_iload_n (n := 97) dX6_followDraw_96 rfl rfl ?_
            refine g_cutVv (ps := [1, 2, 3, 4]) (w' := [_, _, _, _, _, _, _, _, _, _, _, _, _, _, _, _]) (n := 100) cv_X6_80 (t_X3_goUp l _ _) dX6_followDraw_97 rfl rfl rfl ⟨by decide, by decide, rfl, rfl, Nat.zero_le _, Nat.zero_le _⟩ rfl rfl rfl (Nat.le_of_ble_eq_true rfl) rfl rfl rfl ?_
            refine g_goto (tgt := 138) dX6_followDraw_100 (by decide) ?_
            exact g_vret dX6_followDraw_138 rfl ⟨Nat.zero_le _, Nat.zero_le _⟩ ⟨rfl, by first | (rw [e9]; done) | (rw [e9]; rfl)⟩
    ·
      have e9 : tuF V S d = sUp S (sup S &&& ((nI 1 <<< (nI (d / 8 % vnf V) &&& 31)) ^^^ (-1))) := by unfold tuF; rw [a1, bI_n0.mp c54]; rfl
      refine g_aload_n (n := 58) dX6_followDraw_57 rfl rfl ?_
      refine g_get (n := 61) fl_X6_12 dX6_followDraw_58 rfl rfl rfl ?_
      refine g_iload_n (n := 62) dX6_followDraw_61 rfl rfl ?_
      refine g_cutVv (ps := [1, 2, 3, 4]) (w' := [_, _, _, _, _, _, _, _, _, _, _, _, _, _, _, _]) (n := 65) cv_X6_73 (t_X3_comeDown l _ _) dX6_followDraw_62 rfl rfl rfl ⟨by decide, by decide, rfl, rfl, Nat.zero_le _, Nat.zero_le _⟩ rfl rfl rfl (Nat.le_of_ble_eq_true rfl) rfl rfl rfl ?_
      refine g_goto (tgt := 138) dX6_followDraw_65 (by decide) ?_
      exact g_vret dX6_followDraw_138 rfl ⟨Nat.zero_le _, Nat.zero_le _⟩ ⟨rfl, by first | (rw [e9]; done) | (rw [e9]; rfl)⟩

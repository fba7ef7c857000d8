/-! 47.cfirst: the class's isHopeless, findFirst, hourOf, roster -/
abbrev M_X2_findFirstD : MC := (yX2_findFirst, cX2_findFirst, 4, (some .boolean), 12, 0, 0)
abbrev M_X8_rosterD : MC := (yX8_roster, cX8_roster, 3, (some .int), 13, 0, 0)
theorem cv_X8_207d : CV RX8 207 M_X2_findFirstD 3 := cv_X8_207
/-- whether a bay falls although all stay up -/
def hoL (V : WT) (u : Int32) : Nat → ST → Bool
  | 0, _ => false
  | k + 1, S => if flN V (sUp S u) (vnb V) = 0 then hoL V u k (psF V (sUp S u)) else true

theorem nI_m1n {f : Nat} (h : f < 1000) : ¬ nI f = (-1) := (by decide +kernel : ∀ f, f < 1000 → ¬ nI f = (-1)) f h
set_option maxRecDepth 20000 in
set_option maxHeartbeats 1000000 in
theorem lp_X2_isHopeless (l : Launch) (z : Nat × Nat × Nat) (hz : z.2.1 ≤ 0 ∧ z.2.2 ≤ 0) (Q : Option Value → List va_E → Prop) (V : WT) (hV : okV V) (dn : Int32) (fb : Nat → Int32) (n fk : Nat) (hn5 : n ≤ 5) (S : ST) (tl : List va_E) : ∀ (k i : Nat) (A : Nat → ST) (ra lo pr : Nat → Int32) (a : Nat), i + k = n → a + k < 2 ^ 31 → (∀ j, okZ (A j)) → okS V (A 0) a → (∀ A2 ra lo pr, (∀ j, okZ (A2 j)) → Q (some (.int (bI (hoL V (sup S) k (A 0))))) (rq n fk A2 ra lo pr V dn fb S tl)) → G l M_X2_isHopeless z Q 15 [some (.ref 0), some (.ref 5), some (.ref 37), some (.ref 13), some (.int (nI i))] [] (rq n fk A ra lo pr V dn fb S tl) := by
  intro k
  induction k with
  | zero =>
    intro i A ra lo pr a hi ha hZ hA0 hQ
    refine g_iload (n := 17) dX2_isHopeless_15 rfl rfl ?_
    refine g_aload_n (n := 18) dX2_isHopeless_17 rfl rfl ?_
    refine g_get (n := 21) fl_X2_31 dX2_isHopeless_18 rfl rfl rfl ?_
    refine g_icmp_ge (tgt := 52) (n := 24) dX2_isHopeless_21 (by decide) rfl (fun c21 => ?_) (fun c21 => absurd (nI_le (by omega) (by omega)) c21)
    refine g_iconst (v := nI 0) (n := 53) dX2_isHopeless_52 (by decide) rfl ?_
    exact g_iret (ty := .boolean) dX2_isHopeless_53 rfl (by first | exact bI_nar _ | decide) hz (hQ A _ _ _ hZ)
  | succ k ih =>
    intro i A ra lo pr a hi ha hZ hA0 hQ
    by_cases hfl : flN V (sUp (A 0) (sup S)) (vnb V) = 0
    · rw [hoL, if_pos hfl] at hQ
      refine g_iload (n := 17) dX2_isHopeless_15 rfl rfl ?_
      refine g_aload_n (n := 18) dX2_isHopeless_17 rfl rfl ?_
      refine g_get (n := 21) fl_X2_31 dX2_isHopeless_18 rfl rfl rfl ?_
      refine g_icmp_ge (tgt := 52) (n := 24) dX2_isHopeless_21 (by decide) rfl (fun c21 => absurd c21 (nI_ge (by omega) (by omega))) (fun c21 => ?_)
      refine g_aload_n (n := 25) dX2_isHopeless_24 rfl rfl ?_
      refine g_aload_n (n := 26) dX2_isHopeless_25 rfl rfl ?_
      refine g_get (n := 29) fl_X2_47 dX2_isHopeless_26 rfl rfl rfl ?_
      refine g_put (n := 32) pf_X2_47 dX2_isHopeless_29 rfl (Nat.le_of_ble_eq_true rfl) (fun _ => rfl) (fun _ => rfl) rfl ?_
      refine g_wN (w' := (_ :: _ :: _ :: _ :: _ :: _ :: _ :: _ :: _ :: _ :: _ :: _ :: _ :: _ :: _ :: _ :: _ :: _ :: _ :: _ :: _ :: _ :: _ :: _ :: _ :: _ :: _ :: _ :: _ :: _ :: _ :: _ :: _ :: _ :: _ :: _ :: _ :: _ :: _ :: _ :: _ :: _)) rfl ?_
      refine g_aload_n (n := 33) dX2_isHopeless_32 rfl rfl ?_
      refine g_get (n := 36) fl_X2_14 dX2_isHopeless_33 rfl rfl rfl ?_
      refine g_aload_n (n := 37) dX2_isHopeless_36 rfl rfl ?_
      refine g_aload_n (n := 38) dX2_isHopeless_37 rfl rfl ?_
      refine g_cutVi (ps := [1, 2, 3, 4, 5, 6, 7, 8, 9, 10, 11, 13, 14, 15, 16]) (w' := (_ :: _ :: _ :: _ :: _ :: _ :: _ :: _ :: _ :: _ :: _ :: _ :: _ :: _ :: _ :: _ :: _ :: _ :: _ :: _ :: _ :: _ :: _ :: _ :: _ :: _ :: _ :: _ :: _ :: _ :: _ :: _ :: _ :: _ :: _ :: _ :: _ :: _ :: _ :: _ :: _ :: _)) (n := 41) cv_X2_54 (t_X0_goBy l _ _ _ V hV dn fb (sUp (A 0) (sup S)) hA0.2.1 hA0.2.2.1 a (by omega) hA0.2.2.2) dX2_isHopeless_38 rfl rfl rfl ⟨by decide, by decide, rfl, rfl, hz.1, hz.2⟩ rfl rfl rfl (Nat.le_of_ble_eq_true rfl) rfl rfl rfl ?_
      refine g_if_eq (tgt := 46) (n := 44) dX2_isHopeless_41 (by decide) rfl (fun c41 => ?_) (fun c41 => absurd hfl c41)
      refine g_iincN (k := 1) (n := 49) dX2_isHopeless_46 rfl (by decide) rfl rfl ?_
      refine g_lsN (ls' := [_, _, _, _, _]) rfl ?_
      refine g_goto (tgt := 15) dX2_isHopeless_49 (by decide) ?_
      refine g_wN (w' := rq n fk (pu (pu A 0 (sUp (A 0) (sup S))) 0 (psF V (sUp (A 0) (sup S)))) _ _ _ V dn fb S tl) rfl ?_
      exact ih (i + 1) (pu (pu A 0 (sUp (A 0) (sup S))) 0 (psF V (sUp (A 0) (sup S)))) _ _ _ (a + 1) (by omega) (by omega) (okZ_pu _ (okZ_pu _ hZ (okZ_up _ (hZ 0))) (okZ_ps hV (okZ_up _ (hZ 0)))) (okS_ps hV (okS_sup _ hA0)) hQ
    · rw [hoL, if_neg hfl] at hQ
      refine g_iload (n := 17) dX2_isHopeless_15 rfl rfl ?_
      refine g_aload_n (n := 18) dX2_isHopeless_17 rfl rfl ?_
      refine g_get (n := 21) fl_X2_31 dX2_isHopeless_18 rfl rfl rfl ?_
      refine g_icmp_ge (tgt := 52) (n := 24) dX2_isHopeless_21 (by decide) rfl (fun c21 => absurd c21 (nI_ge (by omega) (by omega))) (fun c21 => ?_)
      refine g_aload_n (n := 25) dX2_isHopeless_24 rfl rfl ?_
      refine g_aload_n (n := 26) dX2_isHopeless_25 rfl rfl ?_
      refine g_get (n := 29) fl_X2_47 dX2_isHopeless_26 rfl rfl rfl ?_
      refine g_put (n := 32) pf_X2_47 dX2_isHopeless_29 rfl (Nat.le_of_ble_eq_true rfl) (fun _ => rfl) (fun _ => rfl) rfl ?_
      refine g_wN (w' := (_ :: _ :: _ :: _ :: _ :: _ :: _ :: _ :: _ :: _ :: _ :: _ :: _ :: _ :: _ :: _ :: _ :: _ :: _ :: _ :: _ :: _ :: _ :: _ :: _ :: _ :: _ :: _ :: _ :: _ :: _ :: _ :: _ :: _ :: _ :: _ :: _ :: _ :: _ :: _ :: _ :: _)) rfl ?_
      refine g_aload_n (n := 33) dX2_isHopeless_32 rfl rfl ?_
      refine g_get (n := 36) fl_X2_14 dX2_isHopeless_33 rfl rfl rfl ?_
      refine g_aload_n (n := 37) dX2_isHopeless_36 rfl rfl ?_
      refine g_aload_n (n := 38) dX2_isHopeless_37 rfl rfl ?_
      refine g_cutVi (ps := [1, 2, 3, 4, 5, 6, 7, 8, 9, 10, 11, 13, 14, 15, 16]) (w' := (_ :: _ :: _ :: _ :: _ :: _ :: _ :: _ :: _ :: _ :: _ :: _ :: _ :: _ :: _ :: _ :: _ :: _ :: _ :: _ :: _ :: _ :: _ :: _ :: _ :: _ :: _ :: _ :: _ :: _ :: _ :: _ :: _ :: _ :: _ :: _ :: _ :: _ :: _ :: _ :: _ :: _)) (n := 41) cv_X2_54 (t_X0_goBy l _ _ _ V hV dn fb (sUp (A 0) (sup S)) hA0.2.1 hA0.2.2.1 a (by omega) hA0.2.2.2) dX2_isHopeless_38 rfl rfl rfl ⟨by decide, by decide, rfl, rfl, hz.1, hz.2⟩ rfl rfl rfl (Nat.le_of_ble_eq_true rfl) rfl rfl rfl ?_
      refine g_if_eq (tgt := 46) (n := 44) dX2_isHopeless_41 (by decide) rfl (fun c41 => absurd c41 hfl) (fun c41 => ?_)
      refine g_iconst (v := nI 1) (n := 45) dX2_isHopeless_44 (by decide) rfl ?_
      exact g_iret (ty := .boolean) dX2_isHopeless_45 rfl (by first | exact bI_nar _ | decide) hz (hQ (pu (pu A 0 (sUp (A 0) (sup S))) 0 (psF V (sUp (A 0) (sup S)))) _ _ _ (okZ_pu _ (okZ_pu _ hZ (okZ_up _ (hZ 0))) (okZ_ps hV (okZ_up _ (hZ 0)))))
set_option maxRecDepth 20000 in
theorem t_X2_isHopeless (l : Launch) (V : WT) (hV : okV V) (dn : Int32) (fb : Nat → Int32) (n fk : Nat) (hn5 : n ≤ 5) (A : Nat → ST) (hZ : ∀ j, okZ (A j)) (ra lo pr : Nat → Int32) (S : ST) (tl : List va_E) (a : Nat) (ha : a + 10 < 2 ^ 31) (hS : okS V S a) : Con l M_X2_isHopeless [.ref 0, .ref 5, .ref 37] (rq n fk A ra lo pr V dn fb S tl) (fun r u => r = some (.int (bI (hoL V (sup S) n S))) ∧ ∃ A ra lo pr, (∀ j, okZ (A j)) ∧ u = rq n fk A ra lo pr V dn fb S tl) := by
  refine con_of rfl rfl (Nat.le_of_ble_eq_true rfl) ?_
  refine g_lsN (ls' := [_, _, _, _, _]) rfl ?_
  refine g_aload_n (n := 1) dX2_isHopeless_0 rfl rfl ?_
  refine g_get (n := 4) fl_X2_20 dX2_isHopeless_1 rfl rfl rfl ?_
  refine g_iconst (v := nI 0) (n := 5) dX2_isHopeless_4 (by decide) rfl ?_
  refine g_aaldN (n := 6) dX2_isHopeless_5 rfl rfl (by decide) (by omega) rfl ?_
  refine g_astore_n (n := 7) dX2_isHopeless_6 (by decide) rfl rfl ?_
  refine g_lsN (ls' := [_, _, _, _, _]) rfl ?_
  refine g_aload_n (n := 8) dX2_isHopeless_7 rfl rfl ?_
  refine g_aload_n (n := 9) dX2_isHopeless_8 rfl rfl ?_
  refine g_cutVv (ps := [13, 14, 15, 16, 37, 38, 39, 40]) (w' := (_ :: _ :: _ :: _ :: _ :: _ :: _ :: _ :: _ :: _ :: _ :: _ :: _ :: _ :: _ :: _ :: _ :: _ :: _ :: _ :: _ :: _ :: _ :: _ :: _ :: _ :: _ :: _ :: _ :: _ :: _ :: _ :: _ :: _ :: _ :: _ :: _ :: _ :: _ :: _ :: _ :: _)) (n := 12) cv_X2_43 (t_X3_takeFrom l (A 0) S (hZ 0) hS.1) dX2_isHopeless_9 rfl rfl rfl ⟨by decide, by decide, rfl, rfl, Nat.zero_le _, Nat.zero_le _⟩ rfl rfl rfl (Nat.le_of_ble_eq_true rfl) rfl rfl rfl ?_
  refine g_iconst (v := nI 0) (n := 13) dX2_isHopeless_12 (by decide) rfl ?_
  refine g_istore (n := 15) dX2_isHopeless_13 (by decide) rfl rfl ?_
  refine g_lsN (ls' := [_, _, _, _, _]) rfl ?_
  refine g_wN (w' := rq n fk (pu A 0 S) _ _ _ V dn fb S tl) rfl ?_
  exact lp_X2_isHopeless l _ ⟨Nat.zero_le _, Nat.zero_le _⟩ _ V hV dn fb n fk hn5 S tl n 0 (pu A 0 S) _ _ _ a (by omega) (by omega) (okZ_pu _ hZ hS.1) hS (fun A ra lo pr hZ => ⟨rfl, A, ra, lo, pr, hZ, rfl⟩)
theorem th_all (l : Launch) (V : WT) (hV : okV V) (dn : Int32) (fb : Nat → Int32) (N : ST) (tl : List va_E) (n : Nat) (hn5 : n ≤ 5) : TH l V dn fb N tl n 11 0 :=
  t_X2_tryHour_0 l V hV dn fb N tl n (Nat.zero_le _) hn5 (fun h1 => t_X2_tryHour_1 l V hV dn fb N tl n h1 hn5 (fun h2 => t_X2_tryHour_2 l V hV dn fb N tl n h2 hn5 (fun h3 => t_X2_tryHour_3 l V hV dn fb N tl n h3 hn5 (fun h4 => t_X2_tryHour_4 l V hV dn fb N tl n h4 hn5 (fun h5 => t_X2_tryHour_5 l V hV dn fb N tl n h5 hn5)))))
def fiB (V : WT) (S : ST) (n left : Nat) : Bool := !hoL V (sup S) n S && !decide (trH V n S left 0 262144 = 262144)
theorem min5 {n : Nat} (h : n ≤ 5) : (if nI 5 < nI n then nI 5 else nI n) = nI n := by rw [if_neg (nI_nlt (by omega) (by omega))]

set_option maxRecDepth 20000 in
set_option maxHeartbeats 1000000 in
theorem t_X2_findFirst (l : Launch) (V : WT) (hV : okV V) (dn : Int32) (fb : Nat → Int32) (m fk0 n : Nat) (hn5 : n ≤ 5) (A : Nat → ST) (hZ : ∀ j, okZ (A j)) (ra lo pr : Nat → Int32) (S : ST) (a : Nat) (ha : a + 20 < 2 ^ 31) (hS : okS V S a) (left : Nat) (hl : left < 64) (hup : sup S = nI left) (tl : List va_E) : Con l M_X2_findFirstD [.ref 0, .ref 5, .ref 37, .int (nI n)] (rq m fk0 A ra lo pr V dn fb S tl) (fun r u => r = some (.int (bI (fiB V S n left))) ∧ ∃ fk A ra lo pr, (∀ j, okZ (A j)) ∧ fk ≤ 262144 ∧ (fiB V S n left = true → fk = trH V n S left 0 262144) ∧ u = rq n fk A ra lo pr V dn fb S tl) := by
  refine con_of rfl rfl (Nat.le_of_ble_eq_true rfl) ?_
  refine g_lsN (ls' := [_, _, _, _]) rfl ?_
  refine g_aload_n (n := 1) dX2_findFirst_0 rfl rfl ?_
  refine g_iload_n (n := 2) dX2_findFirst_1 rfl rfl ?_
  refine g_iconst (v := nI 5) (n := 3) dX2_findFirst_2 (by decide) rfl ?_
  refine g_mmin (n := 6) dX2_findFirst_3 lk_X2_25 lw_min lw_math lc_min (by decide) (Nat.le_of_ble_eq_true rfl) ⟨Nat.zero_le _, Nat.zero_le _⟩ rfl ?_
  refine g_top (min5 hn5) ?_
  refine g_put (n := 9) pf_X2_31 dX2_findFirst_6 rfl (Nat.le_of_ble_eq_true rfl) (fun _ => rfl) (fun _ => rfl) rfl ?_
  refine g_wN (w' := (_ :: _ :: _ :: _ :: _ :: _ :: _ :: _ :: _ :: _ :: _ :: _ :: _ :: _ :: _ :: _ :: _ :: _ :: _ :: _ :: _ :: _ :: _ :: _ :: _ :: _ :: _ :: _ :: _ :: _ :: _ :: _ :: _ :: _ :: _ :: _ :: _ :: _ :: _ :: _ :: _ :: _)) rfl ?_
  refine g_aload_n (n := 10) dX2_findFirst_9 rfl rfl ?_
  refine g_ldc (v := 262144) (n := 12) dX2_findFirst_10 kc_X2_35 rfl ?_
  refine g_top (show (262144 : Int32) = nI 262144 from rfl) ?_
  refine g_put (n := 15) pf_X2_36 dX2_findFirst_12 rfl (Nat.le_of_ble_eq_true rfl) (fun _ => rfl) (fun _ => rfl) rfl ?_
  refine g_wN (w' := (_ :: _ :: _ :: _ :: _ :: _ :: _ :: _ :: _ :: _ :: _ :: _ :: _ :: _ :: _ :: _ :: _ :: _ :: _ :: _ :: _ :: _ :: _ :: _ :: _ :: _ :: _ :: _ :: _ :: _ :: _ :: _ :: _ :: _ :: _ :: _ :: _ :: _ :: _ :: _ :: _ :: _)) rfl ?_
  refine g_aload_n (n := 16) dX2_findFirst_15 rfl rfl ?_
  refine g_aload_n (n := 17) dX2_findFirst_16 rfl rfl ?_
  refine g_aload_n (n := 18) dX2_findFirst_17 rfl rfl ?_
  refine g_callW (n := 21) cv_X2_39 (t_X2_isHopeless l V hV dn fb n 262144 hn5 A hZ ra lo pr S tl a (by omega) hS) dX2_findFirst_18 rfl ⟨by decide, by decide, rfl, rfl, Nat.zero_le _, Nat.zero_le _⟩ rfl rfl rfl (Nat.le_of_ble_eq_true rfl) rfl (fun r cw18 hq18 => ?_)
  obtain ⟨rfl, A2, ra2, lo2, pr2, hZ2, rfl⟩ := hq18
  refine ⟨rfl, ?_⟩
  refine g_stN (st' := .int _ :: []) rfl ?_
  refine g_wN (w' := (_ :: _ :: _ :: _ :: _ :: _ :: _ :: _ :: _ :: _ :: _ :: _ :: _ :: _ :: _ :: _ :: _ :: _ :: _ :: _ :: _ :: _ :: _ :: _ :: _ :: _ :: _ :: _ :: _ :: _ :: _ :: _ :: _ :: _ :: _ :: _ :: _ :: _ :: _ :: _ :: _ :: _)) rfl ?_
  refine g_if_eq (tgt := 26) (n := 24) dX2_findFirst_21 (by decide) rfl (fun c21 => ?_) (fun c21 => ?_)
  ·
    have hh := bI_0.mp c21
    refine g_aload_n (n := 27) dX2_findFirst_26 rfl rfl ?_
    refine g_get (n := 30) fl_X2_20 dX2_findFirst_27 rfl rfl rfl ?_
    refine g_iconst (v := nI 0) (n := 31) dX2_findFirst_30 (by decide) rfl ?_
    refine g_aaldN (n := 32) dX2_findFirst_31 rfl rfl (by decide) (by omega) rfl ?_
    refine g_aload_n (n := 33) dX2_findFirst_32 rfl rfl ?_
    refine g_cutVv (ps := [13, 14, 15, 16, 37, 38, 39, 40]) (w' := (_ :: _ :: _ :: _ :: _ :: _ :: _ :: _ :: _ :: _ :: _ :: _ :: _ :: _ :: _ :: _ :: _ :: _ :: _ :: _ :: _ :: _ :: _ :: _ :: _ :: _ :: _ :: _ :: _ :: _ :: _ :: _ :: _ :: _ :: _ :: _ :: _ :: _ :: _ :: _ :: _ :: _)) (n := 36) cv_X2_43 (t_X3_takeFrom l (A2 0) S (hZ2 0) hS.1) dX2_findFirst_33 rfl rfl rfl ⟨by decide, by decide, rfl, rfl, Nat.zero_le _, Nat.zero_le _⟩ rfl rfl rfl (Nat.le_of_ble_eq_true rfl) rfl rfl rfl ?_
    refine g_aload_n (n := 37) dX2_findFirst_36 rfl rfl ?_
    refine g_aload_n (n := 38) dX2_findFirst_37 rfl rfl ?_
    refine g_iconst (v := nI 0) (n := 39) dX2_findFirst_38 (by decide) rfl ?_
    refine g_aload_n (n := 40) dX2_findFirst_39 rfl rfl ?_
    refine g_get (n := 43) fl_X2_47 dX2_findFirst_40 rfl rfl rfl ?_
    refine g_top hup ?_
    refine g_iconst (v := nI 0) (n := 44) dX2_findFirst_43 (by decide) rfl ?_
    refine g_callW (n := 47) (cv_X2_50d _) (th_all l V hV dn fb S tl n hn5 left 0 262144 (pu A2 0 S) _ _ _ a hl (Nat.zero_le _) (Nat.le_refl _) (okZ_pu _ hZ2 hS.1) hS (by omega)) dX2_findFirst_44 rfl ⟨by decide, by decide, rfl, rfl, Nat.zero_le _, Nat.zero_le _⟩ rfl rfl rfl (Nat.le_of_ble_eq_true rfl) rfl (fun r cw44 hq44 => ?_)
    obtain ⟨rfl, A3, ra3, lo3, pr3, hA3, hZ3, rfl⟩ := hq44
    refine ⟨rfl, ?_⟩
    refine g_stN (st' := []) rfl ?_
    refine g_wN (w' := (_ :: _ :: _ :: _ :: _ :: _ :: _ :: _ :: _ :: _ :: _ :: _ :: _ :: _ :: _ :: _ :: _ :: _ :: _ :: _ :: _ :: _ :: _ :: _ :: _ :: _ :: _ :: _ :: _ :: _ :: _ :: _ :: _ :: _ :: _ :: _ :: _ :: _ :: _ :: _ :: _ :: _)) rfl ?_
    refine g_aload_n (n := 48) dX2_findFirst_47 rfl rfl ?_
    refine g_get (n := 51) fl_X2_36 dX2_findFirst_48 rfl rfl rfl ?_
    refine g_ldc (v := 262144) (n := 53) dX2_findFirst_51 kc_X2_35 rfl ?_
    refine g_top (show (262144 : Int32) = nI 262144 from rfl) ?_
    refine g_icmp_eq (tgt := 60) (n := 56) dX2_findFirst_53 (by decide) rfl (fun c53 => ?_) (fun c53 => ?_)
    ·
      have h9 : trH V n S left 0 262144 = 262144 := (nI_eq (by have := trH_le V n S left 0 262144; omega) (by decide)).mp c53
      refine g_iconst (v := nI 0) (n := 61) dX2_findFirst_60 (by decide) rfl ?_
      exact g_iret (ty := .boolean) dX2_findFirst_61 rfl (by first | exact bI_nar _ | decide) ⟨Nat.zero_le _, Nat.zero_le _⟩ ⟨by first | (rw [show fiB V S n left = false from by unfold fiB; rw [decide_eq_true h9, Bool.not_true, Bool.and_false]]; rfl) | (rw [show fiB V S n left = true from by unfold fiB; rw [hh, decide_eq_false h9]; rfl]; rfl), _, A3, ra3, lo3, pr3, hZ3, trH_le V n S left 0 262144, fun _ => rfl, rfl⟩
    ·
      have h9 : ¬ trH V n S left 0 262144 = 262144 := fun q => c53 (congrArg nI q)
      refine g_iconst (v := nI 1) (n := 57) dX2_findFirst_56 (by decide) rfl ?_
      refine g_goto (tgt := 61) dX2_findFirst_57 (by decide) ?_
      exact g_iret (ty := .boolean) dX2_findFirst_61 rfl (by first | exact bI_nar _ | decide) ⟨Nat.zero_le _, Nat.zero_le _⟩ ⟨by first | (rw [show fiB V S n left = false from by unfold fiB; rw [decide_eq_true h9, Bool.not_true, Bool.and_false]]; rfl) | (rw [show fiB V S n left = true from by unfold fiB; rw [hh, decide_eq_false h9]; rfl]; rfl), _, A3, ra3, lo3, pr3, hZ3, trH_le V n S left 0 262144, fun _ => rfl, rfl⟩
  ·
    have hh := bI_n0.mp c21
    refine g_iconst (v := nI 0) (n := 25) dX2_findFirst_24 (by decide) rfl ?_
    exact g_iret (ty := .boolean) dX2_findFirst_25 rfl (by first | exact bI_nar _ | decide) ⟨Nat.zero_le _, Nat.zero_le _⟩ ⟨by rw [show fiB V S n left = false from by unfold fiB; rw [hh]; rfl]; rfl, 262144, A2, ra2, lo2, pr2, hZ2, Nat.le_refl _, (fun q => by rw [show fiB V S n left = false from by unfold fiB; rw [hh]; rfl] at q; cases q), rfl⟩
theorem fp_shr {fk f : Nat} (hfk : fk ≤ 262144) (hf : f < 6) : nI fk >>> (nI (3 * (5 - f)) &&& 31) = nI (fk / 8 ^ (5 - f)) := by
  rw [pk_shrN (by omega) _ (3 * (5 - f)) ((by decide +kernel : ∀ f, f < 6 → ((nI (3 * (5 - f)) &&& 31).toBitVec.smod 32).toNat = 3 * (5 - f)) f hf), Nat.pow_mul]
theorem fp_and {fk f : Nat} (hfk : fk ≤ 262144) (hf : f < 6) : nI (fk / 8 ^ (5 - f)) &&& nI 7 = nI (fk / 8 ^ (5 - f) % 8) := by
  have := Nat.div_le_self fk (8 ^ (5 - f))
  rw [pk_andN (by omega) 3 (by decide)]
set_option maxRecDepth 20000 in
theorem t_X2_hourOf (l : Launch) (hs : Int32) (fk f : Nat) (hfk : fk ≤ 262144) (hf : f < 6) : Fn l M_X2_hourOf [.ref 0, .int (nI f)] ([.inr (2, [.ref 1, .ref 2, .int hs, .int (nI fk)])]) (some (.int (nI (fk / 8 ^ (5 - f) % 8)))) ([.inr (2, [.ref 1, .ref 2, .int hs, .int (nI fk)])]) := by
  refine con_of rfl rfl (Nat.le_of_ble_eq_true rfl) ?_
  refine g_lsN (ls' := [_, _]) rfl ?_
  refine g_aload_n (n := 1) dX2_hourOf_0 rfl rfl ?_
  refine g_get (n := 4) fl_X2_36 dX2_hourOf_1 rfl rfl rfl ?_
  refine g_iload_n (n := 5) dX2_hourOf_4 rfl rfl ?_
  refine g_callSi (n := 8) cs_X2_58 (t_X2_figurePlace l f hf) dX2_hourOf_5 rfl rfl ⟨by decide, by decide, rfl, rfl, Nat.zero_le _, Nat.zero_le _⟩ rfl (Nat.le_of_ble_eq_true rfl) rfl ?_
  refine g_ishr (n := 9) dX2_hourOf_8 rfl ?_
  refine g_top (fp_shr hfk hf) ?_
  refine g_bipush (v := nI 7) (n := 11) dX2_hourOf_9 (by decide) rfl ?_
  refine g_iand (n := 12) dX2_hourOf_11 rfl ?_
  refine g_top (fp_and hfk hf) ?_
  exact g_iret (ty := .int) dX2_hourOf_12 rfl rfl ⟨Nat.zero_le _, Nat.zero_le _⟩ ⟨rfl, rfl⟩
abbrev xro (kc : Int32) : va_E := .inr (8, [.ref 42, .ref 43, .ref 44, .ref 45, .ref 0, .ref 37, .ref 46, .ref 47, .int kc, .ref 5, .ref 48])
abbrev xr (kc : Int32) (n fk : Nat) (A : Nat → ST) (ra lo pr : Nat → Int32) (V : WT) (dn : Int32) (fb : Nat → Int32) (N : ST) : List va_E := rq n fk A ra lo pr V dn fb N [xro kc]
theorem sup64 {V : WT} (hV : okV V) {S : ST} (hP : okP V S) : ∃ left, left < 64 ∧ sup S = nI left := by
  have h6 := hV.2.1
  have hN : okN (sup S) := okN_of (fun j h8 hj => by
    cases hx : hb (sup S) (nI j) with
    | false => rfl
    | true => have := (hP j hj hx).1; omega)
  obtain ⟨k, hk, e⟩ := hN
  refine ⟨k, ?_, e⟩
  rcases Nat.lt_or_ge k 64 with q | q
  · exact q
  · exfalso
    have h2 : k.testBit 6 = true ∨ k.testBit 7 = true := (by decide +kernel : ∀ k, k < 256 → 64 ≤ k → k.testBit 6 = true ∨ k.testBit 7 = true) k hk q
    rcases h2 with q | q
    · have := (hP 6 (by decide) (by rw [e, hb_nI k (by decide)]; exact q)).1; omega
    · have := (hP 7 (by decide) (by rw [e, hb_nI k (by decide)]; exact q)).1; omega
set_option maxRecDepth 20000 in
set_option maxHeartbeats 1000000 in
theorem t_X8_roster_bad1 (l : Launch) (kc : Int32) (V : WT) (hV : okV V) (dn : Int32) (fb : Nat → Int32) (m fk0 n : Nat) (hn5 : n ≤ 5) (A : Nat → ST) (hZ : ∀ j, okZ (A j)) (ra lo pr : Nat → Int32) (S : ST) (a : Nat) (ha : a + 20 < 2 ^ 31) (hS : okS V S a) (left : Nat) (hl : left < 64) (hup : sup S = nI left) (hm5 : m ≤ 5) (hfk0 : fk0 ≤ 262144) (x y : Int32) (h : inB x (nI 1) (nI 5) = false) : Con l M_X8_rosterD [.ref 41, .int x, .int y] (xr kc m fk0 A ra lo pr V dn fb S) (fun r u => r = some (.int (-1)) ∧ ∃ m fk A ra lo pr, m ≤ 5 ∧ fk ≤ 262144 ∧ (∀ j, okZ (A j)) ∧ u = xr kc m fk A ra lo pr V dn fb S) := by
  refine con_of rfl rfl (Nat.le_of_ble_eq_true rfl) ?_
  refine g_lsN (ls' := [_, _, _]) rfl ?_
  refine g_iload_n (n := 1) dX8_roster_0 rfl rfl ?_
  refine g_iconst (v := nI 1) (n := 2) dX8_roster_1 (by decide) rfl ?_
  refine g_icmp_lt (tgt := 26) (n := 5) dX8_roster_2 (by decide) rfl (fun c2 => ?_) (fun c2 => ?_)
  ·
    refine g_iconst (v := (-1)) (n := 27) dX8_roster_26 (by decide) rfl ?_
    exact g_iret (ty := .int) dX8_roster_27 rfl rfl ⟨Nat.zero_le _, Nat.zero_le _⟩ ⟨rfl, m, fk0, A, ra, lo, pr, hm5, hfk0, hZ, rfl⟩
  ·
    refine g_iload_n (n := 6) dX8_roster_5 rfl rfl ?_
    refine g_iconst (v := nI 5) (n := 7) dX8_roster_6 (by decide) rfl ?_
    refine g_icmp_gt (tgt := 26) (n := 10) dX8_roster_7 (by decide) rfl (fun c7 => ?_) (fun c7 => ?_)
    ·
      refine g_iconst (v := (-1)) (n := 27) dX8_roster_26 (by decide) rfl ?_
      exact g_iret (ty := .int) dX8_roster_27 rfl rfl ⟨Nat.zero_le _, Nat.zero_le _⟩ ⟨rfl, m, fk0, A, ra, lo, pr, hm5, hfk0, hZ, rfl⟩
    ·
      exact inB_x h c2 (Int32.not_lt.mp c7)
set_option maxRecDepth 20000 in
set_option maxHeartbeats 1000000 in
theorem t_X8_roster_bad2 (l : Launch) (kc : Int32) (V : WT) (hV : okV V) (dn : Int32) (fb : Nat → Int32) (m fk0 n : Nat) (hn5 : n ≤ 5) (A : Nat → ST) (hZ : ∀ j, okZ (A j)) (ra lo pr : Nat → Int32) (S : ST) (a : Nat) (ha : a + 20 < 2 ^ 31) (hS : okS V S a) (left : Nat) (hl : left < 64) (hup : sup S = nI left) (hm5 : m ≤ 5) (hfk0 : fk0 ≤ 262144) (x y : Int32) (h : inB x (nI 1) (nI 5) = true) (h1 : ¬ y = (-1)) (h2 : isB (vnf V) y = false) : Con l M_X8_rosterD [.ref 41, .int x, .int y] (xr kc m fk0 A ra lo pr V dn fb S) (fun r u => r = some (.int (-1)) ∧ ∃ m fk A ra lo pr, m ≤ 5 ∧ fk ≤ 262144 ∧ (∀ j, okZ (A j)) ∧ u = xr kc m fk A ra lo pr V dn fb S) := by
  refine con_of rfl rfl (Nat.le_of_ble_eq_true rfl) ?_
  refine g_lsN (ls' := [_, _, _]) rfl ?_
  refine g_iload_n (n := 1) dX8_roster_0 rfl rfl ?_
  refine g_iconst (v := nI 1) (n := 2) dX8_roster_1 (by decide) rfl ?_
  refine g_icmp_lt (tgt := 26) (n := 5) dX8_roster_2 (by decide) rfl (fun c2 => absurd c2 (inB_ge h)) (fun c2 => ?_)
  refine g_iload_n (n := 6) dX8_roster_5 rfl rfl ?_
  refine g_iconst (v := nI 5) (n := 7) dX8_roster_6 (by decide) rfl ?_
  refine g_icmp_gt (tgt := 26) (n := 10) dX8_roster_7 (by decide) rfl (fun c7 => absurd c7 (fun q => Int32.not_lt.mpr (inB_le h) q)) (fun c7 => ?_)
  refine g_iload_n (n := 11) dX8_roster_10 rfl rfl ?_
  refine g_iconst (v := (-1)) (n := 12) dX8_roster_11 (by decide) rfl ?_
  refine g_icmp_eq (tgt := 28) (n := 15) dX8_roster_12 (by decide) rfl (fun c12 => absurd c12 h1) (fun c12 => ?_)
  refine g_aload_n (n := 16) dX8_roster_15 rfl rfl ?_
  refine g_get (n := 19) fl_X8_65 dX8_roster_16 rfl rfl rfl ?_
  refine g_iload_n (n := 20) dX8_roster_19 rfl rfl ?_
  refine g_cutVi (ps := [5, 6, 7, 8, 9, 10, 11]) (w' := (_ :: _ :: _ :: _ :: _ :: _ :: _ :: _ :: _ :: _ :: _ :: _ :: _ :: _ :: _ :: _ :: _ :: _ :: _ :: _ :: _ :: _ :: _ :: _ :: _ :: _ :: _ :: _ :: _ :: _ :: _ :: _ :: _ :: _ :: _ :: _ :: _ :: _ :: _ :: _ :: _ :: _)) (n := 23) cv_X8_116 (t_X7_hasButtress l V hV dn _) dX8_roster_20 rfl rfl rfl ⟨by decide, by decide, rfl, rfl, Nat.zero_le _, Nat.zero_le _⟩ rfl rfl rfl (Nat.le_of_ble_eq_true rfl) rfl rfl rfl ?_
  refine g_if_ne (tgt := 28) (n := 26) dX8_roster_23 (by decide) rfl (fun c23 => absurd (bI_0.mpr h2) c23) (fun c23 => ?_)
  refine g_iconst (v := (-1)) (n := 27) dX8_roster_26 (by decide) rfl ?_
  exact g_iret (ty := .int) dX8_roster_27 rfl rfl ⟨Nat.zero_le _, Nat.zero_le _⟩ ⟨rfl, m, fk0, A, ra, lo, pr, hm5, hfk0, hZ, rfl⟩
set_option maxRecDepth 20000 in
set_option maxHeartbeats 1000000 in
theorem t_X8_roster_down (l : Launch) (kc : Int32) (V : WT) (hV : okV V) (dn : Int32) (fb : Nat → Int32) (m fk0 n : Nat) (hn5 : n ≤ 5) (A : Nat → ST) (hZ : ∀ j, okZ (A j)) (ra lo pr : Nat → Int32) (S : ST) (a : Nat) (ha : a + 20 < 2 ^ 31) (hS : okS V S a) (left : Nat) (hl : left < 64) (hup : sup S = nI left) (hm5 : m ≤ 5) (hfk0 : fk0 ≤ 262144) (h : inB (nI n) (nI 1) (nI 5) = true) (f : Nat) (hf : f < 6) (hfv : f < vnf V) (h3 : hb (sup S) (nI f) = false) : Con l M_X8_rosterD [.ref 41, .int (nI n), .int (nI f)] (xr kc m fk0 A ra lo pr V dn fb S) (fun r u => r = some (.int (-4)) ∧ ∃ m fk A ra lo pr, m ≤ 5 ∧ fk ≤ 262144 ∧ (∀ j, okZ (A j)) ∧ u = xr kc m fk A ra lo pr V dn fb S) := by
  refine con_of rfl rfl (Nat.le_of_ble_eq_true rfl) ?_
  refine g_lsN (ls' := [_, _, _]) rfl ?_
  refine g_iload_n (n := 1) dX8_roster_0 rfl rfl ?_
  refine g_iconst (v := nI 1) (n := 2) dX8_roster_1 (by decide) rfl ?_
  refine g_icmp_lt (tgt := 26) (n := 5) dX8_roster_2 (by decide) rfl (fun c2 => absurd c2 (inB_ge h)) (fun c2 => ?_)
  refine g_iload_n (n := 6) dX8_roster_5 rfl rfl ?_
  refine g_iconst (v := nI 5) (n := 7) dX8_roster_6 (by decide) rfl ?_
  refine g_icmp_gt (tgt := 26) (n := 10) dX8_roster_7 (by decide) rfl (fun c7 => absurd c7 (fun q => Int32.not_lt.mpr (inB_le h) q)) (fun c7 => ?_)
  refine g_iload_n (n := 11) dX8_roster_10 rfl rfl ?_
  refine g_iconst (v := (-1)) (n := 12) dX8_roster_11 (by decide) rfl ?_
  refine g_icmp_eq (tgt := 28) (n := 15) dX8_roster_12 (by decide) rfl (fun c12 => absurd c12 (nI_m1n (by omega))) (fun c12 => ?_)
  refine g_aload_n (n := 16) dX8_roster_15 rfl rfl ?_
  refine g_get (n := 19) fl_X8_65 dX8_roster_16 rfl rfl rfl ?_
  refine g_iload_n (n := 20) dX8_roster_19 rfl rfl ?_
  refine g_cutVi (ps := [5, 6, 7, 8, 9, 10, 11]) (w' := (_ :: _ :: _ :: _ :: _ :: _ :: _ :: _ :: _ :: _ :: _ :: _ :: _ :: _ :: _ :: _ :: _ :: _ :: _ :: _ :: _ :: _ :: _ :: _ :: _ :: _ :: _ :: _ :: _ :: _ :: _ :: _ :: _ :: _ :: _ :: _ :: _ :: _ :: _ :: _ :: _ :: _)) (n := 23) cv_X8_116 (t_X7_hasButtress l V hV dn _) dX8_roster_20 rfl rfl rfl ⟨by decide, by decide, rfl, rfl, Nat.zero_le _, Nat.zero_le _⟩ rfl rfl rfl (Nat.le_of_ble_eq_true rfl) rfl rfl rfl ?_
  refine g_if_ne (tgt := 28) (n := 26) dX8_roster_23 (by decide) rfl (fun c23 => ?_) (fun c23 => absurd c23 (bI_n0.mpr (show isB (vnf V) (nI f) = true by rw [isB_nI (by have := hV.2.1; omega) (by omega)]; exact decide_eq_true hfv)))
  refine g_iload_n (n := 29) dX8_roster_28 rfl rfl ?_
  refine g_iconst (v := (-1)) (n := 30) dX8_roster_29 (by decide) rfl ?_
  refine g_icmp_eq (tgt := 44) (n := 33) dX8_roster_30 (by decide) rfl (fun c30 => absurd c30 (nI_m1n (by omega))) (fun c30 => ?_)
  refine g_aload_n (n := 34) dX8_roster_33 rfl rfl ?_
  refine g_get (n := 37) fl_X8_47 dX8_roster_34 rfl rfl rfl ?_
  refine g_iload_n (n := 38) dX8_roster_37 rfl rfl ?_
  refine g_cutVi (ps := [37, 38, 39, 40]) (w' := (_ :: _ :: _ :: _ :: _ :: _ :: _ :: _ :: _ :: _ :: _ :: _ :: _ :: _ :: _ :: _ :: _ :: _ :: _ :: _ :: _ :: _ :: _ :: _ :: _ :: _ :: _ :: _ :: _ :: _ :: _ :: _ :: _ :: _ :: _ :: _ :: _ :: _ :: _ :: _ :: _ :: _)) (n := 41) cv_X8_134 (t_X3_isUp l _ _) dX8_roster_38 rfl rfl rfl ⟨by decide, by decide, rfl, rfl, Nat.zero_le _, Nat.zero_le _⟩ rfl rfl rfl (Nat.le_of_ble_eq_true rfl) rfl rfl rfl ?_
  refine g_if_eq (tgt := 63) (n := 44) dX8_roster_41 (by decide) rfl (fun c41 => ?_) (fun c41 => absurd (bI_0.mpr h3) c41)
  refine g_bipush (v := (-4)) (n := 65) dX8_roster_63 (by decide) rfl ?_
  exact g_iret (ty := .int) dX8_roster_65 rfl rfl ⟨Nat.zero_le _, Nat.zero_le _⟩ ⟨rfl, m, fk0, A, ra, lo, pr, hm5, hfk0, hZ, rfl⟩
set_option maxRecDepth 20000 in
set_option maxHeartbeats 1000000 in
theorem t_X8_roster_any (l : Launch) (kc : Int32) (V : WT) (hV : okV V) (dn : Int32) (fb : Nat → Int32) (m fk0 n : Nat) (hn5 : n ≤ 5) (A : Nat → ST) (hZ : ∀ j, okZ (A j)) (ra lo pr : Nat → Int32) (S : ST) (a : Nat) (ha : a + 20 < 2 ^ 31) (hS : okS V S a) (left : Nat) (hl : left < 64) (hup : sup S = nI left) (hm5 : m ≤ 5) (hfk0 : fk0 ≤ 262144) (h : inB (nI n) (nI 1) (nI 5) = true) : Con l M_X8_rosterD [.ref 41, .int (nI n), .int (-1)] (xr kc m fk0 A ra lo pr V dn fb S) (fun r u => r = some (.int (if fiB V S n left then nI 1 else (-4))) ∧ ∃ m fk A ra lo pr, m ≤ 5 ∧ fk ≤ 262144 ∧ (∀ j, okZ (A j)) ∧ u = xr kc m fk A ra lo pr V dn fb S) := by
  refine con_of rfl rfl (Nat.le_of_ble_eq_true rfl) ?_
  refine g_lsN (ls' := [_, _, _]) rfl ?_
  refine g_iload_n (n := 1) dX8_roster_0 rfl rfl ?_
  refine g_iconst (v := nI 1) (n := 2) dX8_roster_1 (by decide) rfl ?_
  refine g_icmp_lt (tgt := 26) (n := 5) dX8_roster_2 (by decide) rfl (fun c2 => absurd c2 (inB_ge h)) (fun c2 => ?_)
  refine g_iload_n (n := 6) dX8_roster_5 rfl rfl ?_
  refine g_iconst (v := nI 5) (n := 7) dX8_roster_6 (by decide) rfl ?_
  refine g_icmp_gt (tgt := 26) (n := 10) dX8_roster_7 (by decide) rfl (fun c7 => absurd c7 (fun q => Int32.not_lt.mpr (inB_le h) q)) (fun c7 => ?_)
  refine g_iload_n (n := 11) dX8_roster_10 rfl rfl ?_
  refine g_iconst (v := (-1)) (n := 12) dX8_roster_11 (by decide) rfl ?_
  refine g_icmp_eq (tgt := 28) (n := 15) dX8_roster_12 (by decide) rfl (fun c12 => ?_) (fun c12 => absurd rfl c12)
  refine g_iload_n (n := 29) dX8_roster_28 rfl rfl ?_
  refine g_iconst (v := (-1)) (n := 30) dX8_roster_29 (by decide) rfl ?_
  refine g_icmp_eq (tgt := 44) (n := 33) dX8_roster_30 (by decide) rfl (fun c30 => ?_) (fun c30 => absurd rfl c30)
  refine g_aload_n (n := 45) dX8_roster_44 rfl rfl ?_
  refine g_get (n := 48) fl_X8_40 dX8_roster_45 rfl rfl rfl ?_
  refine g_aload_n (n := 49) dX8_roster_48 rfl rfl ?_
  refine g_get (n := 52) fl_X8_65 dX8_roster_49 rfl rfl rfl ?_
  refine g_aload_n (n := 53) dX8_roster_52 rfl rfl ?_
  refine g_get (n := 56) fl_X8_47 dX8_roster_53 rfl rfl rfl ?_
  refine g_iload_n (n := 57) dX8_roster_56 rfl rfl ?_
  refine g_callW (n := 60) cv_X8_207d (t_X2_findFirst l V hV dn fb m fk0 n hn5 A hZ ra lo pr S a ha hS left hl hup [xro kc]) dX8_roster_57 rfl ⟨by decide, by decide, rfl, rfl, Nat.zero_le _, Nat.zero_le _⟩ rfl rfl rfl (Nat.le_of_ble_eq_true rfl) rfl (fun r cw57 hq57 => ?_)
  obtain ⟨rfl, fk2, A2, ra2, lo2, pr2, hZ2, hfk2, heq2, rfl⟩ := hq57
  refine ⟨rfl, ?_⟩
  refine g_stN (st' := .int _ :: []) rfl ?_
  refine g_wN (w' := (_ :: _ :: _ :: _ :: _ :: _ :: _ :: _ :: _ :: _ :: _ :: _ :: _ :: _ :: _ :: _ :: _ :: _ :: _ :: _ :: _ :: _ :: _ :: _ :: _ :: _ :: _ :: _ :: _ :: _ :: _ :: _ :: _ :: _ :: _ :: _ :: _ :: _ :: _ :: _ :: _ :: _)) rfl ?_
  refine g_if_ne (tgt := 66) (n := 63) dX8_roster_60 (by decide) rfl (fun c60 => ?_) (fun c60 => ?_)
  ·
    have h9 := bI_n0.mp c60
    rw [if_pos h9]
    refine g_iload_n (n := 67) dX8_roster_66 rfl rfl ?_
    refine g_iconst (v := (-1)) (n := 68) dX8_roster_67 (by decide) rfl ?_
    refine g_icmp_ne (tgt := 75) (n := 71) dX8_roster_68 (by decide) rfl (fun c68 => absurd rfl c68) (fun c68 => ?_)
    refine g_iconst (v := nI 1) (n := 72) dX8_roster_71 (by decide) rfl ?_
    refine g_goto (tgt := 83) dX8_roster_72 (by decide) ?_
    exact g_iret (ty := .int) dX8_roster_83 rfl rfl ⟨Nat.zero_le _, Nat.zero_le _⟩ ⟨rfl, n, fk2, A2, ra2, lo2, pr2, hn5, hfk2, hZ2, rfl⟩
  ·
    have h9 := bI_0.mp c60
    rw [if_neg (by rw [h9]; exact Bool.false_ne_true)]
    refine g_bipush (v := (-4)) (n := 65) dX8_roster_63 (by decide) rfl ?_
    exact g_iret (ty := .int) dX8_roster_65 rfl rfl ⟨Nat.zero_le _, Nat.zero_le _⟩ ⟨rfl, n, fk2, A2, ra2, lo2, pr2, hn5, hfk2, hZ2, rfl⟩
set_option maxRecDepth 20000 in
set_option maxHeartbeats 1000000 in
theorem t_X8_roster_of (l : Launch) (kc : Int32) (V : WT) (hV : okV V) (dn : Int32) (fb : Nat → Int32) (m fk0 n : Nat) (hn5 : n ≤ 5) (A : Nat → ST) (hZ : ∀ j, okZ (A j)) (ra lo pr : Nat → Int32) (S : ST) (a : Nat) (ha : a + 20 < 2 ^ 31) (hS : okS V S a) (left : Nat) (hl : left < 64) (hup : sup S = nI left) (hm5 : m ≤ 5) (hfk0 : fk0 ≤ 262144) (h : inB (nI n) (nI 1) (nI 5) = true) (f : Nat) (hf : f < 6) (hfv : f < vnf V) (h3 : hb (sup S) (nI f) = true) : Con l M_X8_rosterD [.ref 41, .int (nI n), .int (nI f)] (xr kc m fk0 A ra lo pr V dn fb S) (fun r u => r = some (.int (if fiB V S n left then nI (trH V n S left 0 262144 / 8 ^ (5 - f) % 8) else (-4))) ∧ ∃ m fk A ra lo pr, m ≤ 5 ∧ fk ≤ 262144 ∧ (∀ j, okZ (A j)) ∧ u = xr kc m fk A ra lo pr V dn fb S) := by
  refine con_of rfl rfl (Nat.le_of_ble_eq_true rfl) ?_
  refine g_lsN (ls' := [_, _, _]) rfl ?_
  refine g_iload_n (n := 1) dX8_roster_0 rfl rfl ?_
  refine g_iconst (v := nI 1) (n := 2) dX8_roster_1 (by decide) rfl ?_
  refine g_icmp_lt (tgt := 26) (n := 5) dX8_roster_2 (by decide) rfl (fun c2 => absurd c2 (inB_ge h)) (fun c2 => ?_)
  refine g_iload_n (n := 6) dX8_roster_5 rfl rfl ?_
  refine g_iconst (v := nI 5) (n := 7) dX8_roster_6 (by decide) rfl ?_
  refine g_icmp_gt (tgt := 26) (n := 10) dX8_roster_7 (by decide) rfl (fun c7 => absurd c7 (fun q => Int32.not_lt.mpr (inB_le h) q)) (fun c7 => ?_)
  refine g_iload_n (n := 11) dX8_roster_10 rfl rfl ?_
  refine g_iconst (v := (-1)) (n := 12) dX8_roster_11 (by decide) rfl ?_
  refine g_icmp_eq (tgt := 28) (n := 15) dX8_roster_12 (by decide) rfl (fun c12 => absurd c12 (nI_m1n (by omega))) (fun c12 => ?_)
  refine g_aload_n (n := 16) dX8_roster_15 rfl rfl ?_
  refine g_get (n := 19) fl_X8_65 dX8_roster_16 rfl rfl rfl ?_
  refine g_iload_n (n := 20) dX8_roster_19 rfl rfl ?_
  refine g_cutVi (ps := [5, 6, 7, 8, 9, 10, 11]) (w' := (_ :: _ :: _ :: _ :: _ :: _ :: _ :: _ :: _ :: _ :: _ :: _ :: _ :: _ :: _ :: _ :: _ :: _ :: _ :: _ :: _ :: _ :: _ :: _ :: _ :: _ :: _ :: _ :: _ :: _ :: _ :: _ :: _ :: _ :: _ :: _ :: _ :: _ :: _ :: _ :: _ :: _)) (n := 23) cv_X8_116 (t_X7_hasButtress l V hV dn _) dX8_roster_20 rfl rfl rfl ⟨by decide, by decide, rfl, rfl, Nat.zero_le _, Nat.zero_le _⟩ rfl rfl rfl (Nat.le_of_ble_eq_true rfl) rfl rfl rfl ?_
  refine g_if_ne (tgt := 28) (n := 26) dX8_roster_23 (by decide) rfl (fun c23 => ?_) (fun c23 => absurd c23 (bI_n0.mpr (show isB (vnf V) (nI f) = true by rw [isB_nI (by have := hV.2.1; omega) (by omega)]; exact decide_eq_true hfv)))
  refine g_iload_n (n := 29) dX8_roster_28 rfl rfl ?_
  refine g_iconst (v := (-1)) (n := 30) dX8_roster_29 (by decide) rfl ?_
  refine g_icmp_eq (tgt := 44) (n := 33) dX8_roster_30 (by decide) rfl (fun c30 => absurd c30 (nI_m1n (by omega))) (fun c30 => ?_)
  refine g_aload_n (n := 34) dX8_roster_33 rfl rfl ?_
  refine g_get (n := 37) fl_X8_47 dX8_roster_34 rfl rfl rfl ?_
  refine g_iload_n (n := 38) dX8_roster_37 rfl rfl ?_
  refine g_cutVi (ps := [37, 38, 39, 40]) (w' := (_ :: _ :: _ :: _ :: _ :: _ :: _ :: _ :: _ :: _ :: _ :: _ :: _ :: _ :: _ :: _ :: _ :: _ :: _ :: _ :: _ :: _ :: _ :: _ :: _ :: _ :: _ :: _ :: _ :: _ :: _ :: _ :: _ :: _ :: _ :: _ :: _ :: _ :: _ :: _ :: _ :: _)) (n := 41) cv_X8_134 (t_X3_isUp l _ _) dX8_roster_38 rfl rfl rfl ⟨by decide, by decide, rfl, rfl, Nat.zero_le _, Nat.zero_le _⟩ rfl rfl rfl (Nat.le_of_ble_eq_true rfl) rfl rfl rfl ?_
  refine g_if_eq (tgt := 63) (n := 44) dX8_roster_41 (by decide) rfl (fun c41 => absurd c41 (bI_n0.mpr h3)) (fun c41 => ?_)
  refine g_aload_n (n := 45) dX8_roster_44 rfl rfl ?_
  refine g_get (n := 48) fl_X8_40 dX8_roster_45 rfl rfl rfl ?_
  refine g_aload_n (n := 49) dX8_roster_48 rfl rfl ?_
  refine g_get (n := 52) fl_X8_65 dX8_roster_49 rfl rfl rfl ?_
  refine g_aload_n (n := 53) dX8_roster_52 rfl rfl ?_
  refine g_get (n := 56) fl_X8_47 dX8_roster_53 rfl rfl rfl ?_
  refine g_iload_n (n := 57) dX8_roster_56 rfl rfl ?_
  refine g_callW (n := 60) cv_X8_207d (t_X2_findFirst l V hV dn fb m fk0 n hn5 A hZ ra lo pr S a ha hS left hl hup [xro kc]) dX8_roster_57 rfl ⟨by decide, by decide, rfl, rfl, Nat.zero_le _, Nat.zero_le _⟩ rfl rfl rfl (Nat.le_of_ble_eq_true rfl) rfl (fun r cw57 hq57 => ?_)
  obtain ⟨rfl, fk2, A2, ra2, lo2, pr2, hZ2, hfk2, heq2, rfl⟩ := hq57
  refine ⟨rfl, ?_⟩
  refine g_stN (st' := .int _ :: []) rfl ?_
  refine g_wN (w' := (_ :: _ :: _ :: _ :: _ :: _ :: _ :: _ :: _ :: _ :: _ :: _ :: _ :: _ :: _ :: _ :: _ :: _ :: _ :: _ :: _ :: _ :: _ :: _ :: _ :: _ :: _ :: _ :: _ :: _ :: _ :: _ :: _ :: _ :: _ :: _ :: _ :: _ :: _ :: _ :: _ :: _)) rfl ?_
  refine g_if_ne (tgt := 66) (n := 63) dX8_roster_60 (by decide) rfl (fun c60 => ?_) (fun c60 => ?_)
  ·
    have h9 := bI_n0.mp c60
    rw [if_pos h9, ← heq2 h9]
    refine g_iload_n (n := 67) dX8_roster_66 rfl rfl ?_
    refine g_iconst (v := (-1)) (n := 68) dX8_roster_67 (by decide) rfl ?_
    refine g_icmp_ne (tgt := 75) (n := 71) dX8_roster_68 (by decide) rfl (fun c68 => ?_) (fun c68 => absurd c68 (nI_m1n (by omega)))
    refine g_aload_n (n := 76) dX8_roster_75 rfl rfl ?_
    refine g_get (n := 79) fl_X8_40 dX8_roster_76 rfl rfl rfl ?_
    refine g_iload_n (n := 80) dX8_roster_79 rfl rfl ?_
    refine g_cutVi (ps := [0, 1, 12]) (w' := (_ :: _ :: _ :: _ :: _ :: _ :: _ :: _ :: _ :: _ :: _ :: _ :: _ :: _ :: _ :: _ :: _ :: _ :: _ :: _ :: _ :: _ :: _ :: _ :: _ :: _ :: _ :: _ :: _ :: _ :: _ :: _ :: _ :: _ :: _ :: _ :: _ :: _ :: _ :: _ :: _ :: _)) (n := 83) cv_X8_211 (t_X2_hourOf l _ fk2 f hfk2 hf) dX8_roster_80 rfl rfl rfl ⟨by decide, by decide, rfl, rfl, Nat.zero_le _, Nat.zero_le _⟩ rfl rfl rfl (Nat.le_of_ble_eq_true rfl) rfl rfl rfl ?_
    exact g_iret (ty := .int) dX8_roster_83 rfl rfl ⟨Nat.zero_le _, Nat.zero_le _⟩ ⟨rfl, n, fk2, A2, ra2, lo2, pr2, hn5, hfk2, hZ2, rfl⟩
  ·
    have h9 := bI_0.mp c60
    rw [if_neg (by rw [h9]; exact Bool.false_ne_true)]
    refine g_bipush (v := (-4)) (n := 65) dX8_roster_63 (by decide) rfl ?_
    exact g_iret (ty := .int) dX8_roster_65 rfl rfl ⟨Nat.zero_le _, Nat.zero_le _⟩ ⟨rfl, n, fk2, A2, ra2, lo2, pr2, hn5, hfk2, hZ2, rfl⟩

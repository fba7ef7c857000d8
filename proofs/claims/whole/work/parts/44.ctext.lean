/-! 44.ctext: the class reads items, a whole text -/
/-- what an item leaves -/
def QI (n : Nat) (tf : Nat → Int32) (R : RT) : Option Value → List va_E → Prop := fun r u => r = some (.int (bI R.1)) ∧ ∃ nm nx, u = rw11 nm nx n tf R.2.1 R.2.2.2.1 R.2.2.1 ∧ (R.1 = true → nx = nI R.2.2.2.2)
theorem QI_no {n : Nat} {tf : Nat → Int32} {R : RT} {V : WT} {fb : Nat → Int32} {dn : Int32} (h : FlR R V fb dn) (nm : Nat → Int32) (nx : Int32) : QI n tf R (some (.int (nI 0))) (rw11 nm nx n tf V dn fb) := by
  obtain ⟨f1, f2, f3, f4⟩ := h
  refine ⟨by rw [f1]; rfl, nm, nx, by rw [f2, f3, f4], fun x => by rw [f1] at x; cases x⟩
theorem QI_ok {n p : Nat} {tf : Nat → Int32} {R : RT} {V : WT} {fb : Nat → Int32} {dn : Int32} (h : R = (true, V, fb, dn, p)) (nm : Nat → Int32) : QI n tf R (some (.int (nI 1))) (rw11 nm (nI p) n tf V dn fb) := by
  subst h
  exact ⟨rfl, nm, nI p, rfl, fun _ => rfl⟩

set_option maxRecDepth 20000 in
theorem t_X1_readItem_b (l : Launch) (nm : Nat → Int32) (n : Nat) (tf : Nat → Int32) (ta : Nat → Nat) (hT : TC tf ta n) (V : WT) (hV : okV V) (dn : Int32) (fb : Nat → Int32) (p : Nat) (hp : p < n) (ha : ta p = 98) : Con l M_X1_readItem [.ref 0, .ref 2, .ref 4] (rw11 nm (nI p) n tf V dn fb) (QI n tf (riF ta n (p + 1) 98 V fb dn)) := by
  have hT1 := hT.1
  refine con_of rfl rfl (Nat.le_of_ble_eq_true rfl) ?_
  refine g_lsN (ls' := [_, _, _, _, _, _]) rfl ?_
  refine g_aload_n (n := 1) dX1_readItem_0 rfl rfl ?_
  refine g_aload_n (n := 2) dX1_readItem_1 rfl rfl ?_
  refine g_get (n := 5) fl_X1_20 dX1_readItem_2 rfl rfl rfl ?_
  refine g_cutVi (ps := [2, 3]) (w' := [_, _, _, _, _, _, _, _, _, _, _]) (n := 8) cv_X1_33 (t_X4_letterAt l n tf ta hT p (by omega)) dX1_readItem_5 rfl rfl rfl ⟨by decide, by decide, rfl, rfl, Nat.zero_le _, Nat.zero_le _⟩ rfl rfl rfl (Nat.le_of_ble_eq_true rfl) rfl rfl rfl ?_
  refine g_top ((ltc_t hp).trans (congrArg nI ha)) ?_
  refine g_istore_n (n := 9) dX1_readItem_8 (by decide) rfl rfl ?_
  refine g_lsN (ls' := [_, _, _, _, _, _]) rfl ?_
  refine g_aload_n (n := 10) dX1_readItem_9 rfl rfl ?_
  refine g_dup (n := 11) dX1_readItem_10 rfl rfl ?_
  refine g_get (n := 14) fl_X1_20 dX1_readItem_11 rfl rfl rfl ?_
  refine g_iconst (v := nI 1) (n := 15) dX1_readItem_14 (by decide) rfl ?_
  refine g_iaddN (n := 16) dX1_readItem_15 rfl ?_
  refine g_put (n := 19) pf_X1_20 dX1_readItem_16 rfl (Nat.le_of_ble_eq_true rfl) (fun _ => rfl) (fun _ => rfl) rfl ?_
  refine g_wN (w' := [_, _, _, _, _, _, _, _, _, _, _]) rfl ?_
  refine g_iload_n (n := 20) dX1_readItem_19 rfl rfl ?_
  refine g_callSi (n := 23) cs_X1_37 (t_X1_numbersBehind_98 l) dX1_readItem_20 rfl rfl ⟨by decide, by decide, rfl, rfl, Nat.zero_le _, Nat.zero_le _⟩ rfl (Nat.le_of_ble_eq_true rfl) rfl ?_
  refine g_istore (n := 25) dX1_readItem_23 (by decide) rfl rfl ?_
  refine g_lsN (ls' := [_, _, _, _, _, _]) rfl ?_
  refine g_iload (n := 27) dX1_readItem_25 rfl rfl ?_
  refine g_if_ne (tgt := 32) (n := 30) dX1_readItem_27 (by decide) rfl (fun c27 => ?_) (fun c27 => absurd c27 (by decide))
  refine g_iconst (v := nI 0) (n := 33) dX1_readItem_32 (by decide) rfl ?_
  refine g_istore (n := 35) dX1_readItem_33 (by decide) rfl rfl ?_
  refine g_lsN (ls' := [_, _, _, _, _, _]) rfl ?_
  refine lp_X1_readItem l _ ⟨Nat.zero_le _, Nat.zero_le _⟩ _ n tf ta hT V dn fb 98 2 (by decide) 2 0 (p + 1) nm rfl (by omega) (fun h nm2 nx => QI_no ((it_b hV fb dn nm).1 h) nm2 nx) (fun nm2 p2 h => ?_)
  obtain ⟨t, hh, e0, e1, l0, l1, hno, hok⟩ := (it_b hV fb dn nm).2 nm2 p2 h
  by_cases c : vnb V < 8 ∧ hh ≤ 20
  ·
    refine g_aload_n (n := 98) dX1_readItem_97 rfl rfl ?_
    refine g_iload_n (n := 99) dX1_readItem_98 rfl rfl ?_
    refine g_aload_n (n := 100) dX1_readItem_99 rfl rfl ?_
    refine g_cutVi (ps := [0, 1, 4, 5, 6, 7, 8, 9, 10]) (w' := [_, _, _, _, _, _, _, _, _, _, _]) (n := 103) cv_X1_45 (t_X1_takeItem_b1 l nm2 _ V hV dn fb t hh e0 e1 l0 c.2 c.1) dX1_readItem_100 rfl rfl rfl ⟨by decide, by decide, rfl, rfl, Nat.zero_le _, Nat.zero_le _⟩ rfl rfl rfl (Nat.le_of_ble_eq_true rfl) rfl rfl rfl ?_
    exact g_iret (ty := .boolean) dX1_readItem_103 rfl (by first | exact bI_nar _ | decide) ⟨Nat.zero_le _, Nat.zero_le _⟩ (QI_ok (hok c.1 c.2) nm2)
  ·
    refine g_aload_n (n := 98) dX1_readItem_97 rfl rfl ?_
    refine g_iload_n (n := 99) dX1_readItem_98 rfl rfl ?_
    refine g_aload_n (n := 100) dX1_readItem_99 rfl rfl ?_
    refine g_cutVi (ps := [0, 1, 4, 5, 6, 7, 8, 9, 10]) (w' := [_, _, _, _, _, _, _, _, _, _, _]) (n := 103) cv_X1_45 (t_X1_takeItem_b0 l nm2 _ V hV dn fb t hh e0 e1 l0 l1 c) dX1_readItem_100 rfl rfl rfl ⟨by decide, by decide, rfl, rfl, Nat.zero_le _, Nat.zero_le _⟩ rfl rfl rfl (Nat.le_of_ble_eq_true rfl) rfl rfl rfl ?_
    exact g_iret (ty := .boolean) dX1_readItem_103 rfl (by first | exact bI_nar _ | decide) ⟨Nat.zero_le _, Nat.zero_le _⟩ (QI_no (hno c) nm2 _)
set_option maxRecDepth 20000 in
theorem t_X1_readItem_f (l : Launch) (nm : Nat → Int32) (n : Nat) (tf : Nat → Int32) (ta : Nat → Nat) (hT : TC tf ta n) (V : WT) (hV : okV V) (dn : Int32) (fb : Nat → Int32) (p : Nat) (hp : p < n) (ha : ta p = 102) : Con l M_X1_readItem [.ref 0, .ref 2, .ref 4] (rw11 nm (nI p) n tf V dn fb) (QI n tf (riF ta n (p + 1) 102 V fb dn)) := by
  have hT1 := hT.1
  refine con_of rfl rfl (Nat.le_of_ble_eq_true rfl) ?_
  refine g_lsN (ls' := [_, _, _, _, _, _]) rfl ?_
  refine g_aload_n (n := 1) dX1_readItem_0 rfl rfl ?_
  refine g_aload_n (n := 2) dX1_readItem_1 rfl rfl ?_
  refine g_get (n := 5) fl_X1_20 dX1_readItem_2 rfl rfl rfl ?_
  refine g_cutVi (ps := [2, 3]) (w' := [_, _, _, _, _, _, _, _, _, _, _]) (n := 8) cv_X1_33 (t_X4_letterAt l n tf ta hT p (by omega)) dX1_readItem_5 rfl rfl rfl ⟨by decide, by decide, rfl, rfl, Nat.zero_le _, Nat.zero_le _⟩ rfl rfl rfl (Nat.le_of_ble_eq_true rfl) rfl rfl rfl ?_
  refine g_top ((ltc_t hp).trans (congrArg nI ha)) ?_
  refine g_istore_n (n := 9) dX1_readItem_8 (by decide) rfl rfl ?_
  refine g_lsN (ls' := [_, _, _, _, _, _]) rfl ?_
  refine g_aload_n (n := 10) dX1_readItem_9 rfl rfl ?_
  refine g_dup (n := 11) dX1_readItem_10 rfl rfl ?_
  refine g_get (n := 14) fl_X1_20 dX1_readItem_11 rfl rfl rfl ?_
  refine g_iconst (v := nI 1) (n := 15) dX1_readItem_14 (by decide) rfl ?_
  refine g_iaddN (n := 16) dX1_readItem_15 rfl ?_
  refine g_put (n := 19) pf_X1_20 dX1_readItem_16 rfl (Nat.le_of_ble_eq_true rfl) (fun _ => rfl) (fun _ => rfl) rfl ?_
  refine g_wN (w' := [_, _, _, _, _, _, _, _, _, _, _]) rfl ?_
  refine g_iload_n (n := 20) dX1_readItem_19 rfl rfl ?_
  refine g_callSi (n := 23) cs_X1_37 (t_X1_numbersBehind_102 l) dX1_readItem_20 rfl rfl ⟨by decide, by decide, rfl, rfl, Nat.zero_le _, Nat.zero_le _⟩ rfl (Nat.le_of_ble_eq_true rfl) rfl ?_
  refine g_istore (n := 25) dX1_readItem_23 (by decide) rfl rfl ?_
  refine g_lsN (ls' := [_, _, _, _, _, _]) rfl ?_
  refine g_iload (n := 27) dX1_readItem_25 rfl rfl ?_
  refine g_if_ne (tgt := 32) (n := 30) dX1_readItem_27 (by decide) rfl (fun c27 => ?_) (fun c27 => absurd c27 (by decide))
  refine g_iconst (v := nI 0) (n := 33) dX1_readItem_32 (by decide) rfl ?_
  refine g_istore (n := 35) dX1_readItem_33 (by decide) rfl rfl ?_
  refine g_lsN (ls' := [_, _, _, _, _, _]) rfl ?_
  refine lp_X1_readItem l _ ⟨Nat.zero_le _, Nat.zero_le _⟩ _ n tf ta hT V dn fb 102 4 (by decide) 4 0 (p + 1) nm rfl (by omega) (fun h nm2 nx => QI_no ((it_f hV fb dn nm).1 h) nm2 nx) (fun nm2 p2 h => ?_)
  obtain ⟨k, s, x, t, e0, e1, e2, e3, ⟨l0, l1, l2, l3⟩, hno, hok⟩ := (it_f hV fb dn nm).2 nm2 p2 h
  by_cases c : k ≤ 3 ∧ 1 ≤ s ∧ x < vnb V ∧ 1 ≤ t ∧ t ≤ 30 ∧ vnf V < 6
  ·
    refine g_aload_n (n := 98) dX1_readItem_97 rfl rfl ?_
    refine g_iload_n (n := 99) dX1_readItem_98 rfl rfl ?_
    refine g_aload_n (n := 100) dX1_readItem_99 rfl rfl ?_
    refine g_cutVi (ps := [0, 1, 4, 5, 6, 7, 8, 9, 10]) (w' := [_, _, _, _, _, _, _, _, _, _, _]) (n := 103) cv_X1_45 (t_X1_takeItem_f1 l nm2 _ V hV dn fb k s x t e0 e1 e2 e3 l0 l1 l2 l3 c.1 c.2.1 c.2.2.1 c.2.2.2.1 c.2.2.2.2.1 c.2.2.2.2.2) dX1_readItem_100 rfl rfl rfl ⟨by decide, by decide, rfl, rfl, Nat.zero_le _, Nat.zero_le _⟩ rfl rfl rfl (Nat.le_of_ble_eq_true rfl) rfl rfl rfl ?_
    exact g_iret (ty := .boolean) dX1_readItem_103 rfl (by first | exact bI_nar _ | decide) ⟨Nat.zero_le _, Nat.zero_le _⟩ (QI_ok (hok c.1 c.2.1 c.2.2.1 c.2.2.2.1 c.2.2.2.2.1 c.2.2.2.2.2) nm2)
  ·
    refine g_aload_n (n := 98) dX1_readItem_97 rfl rfl ?_
    refine g_iload_n (n := 99) dX1_readItem_98 rfl rfl ?_
    refine g_aload_n (n := 100) dX1_readItem_99 rfl rfl ?_
    refine g_cutVi (ps := [0, 1, 4, 5, 6, 7, 8, 9, 10]) (w' := [_, _, _, _, _, _, _, _, _, _, _]) (n := 103) cv_X1_45 (t_X1_takeItem_f0 l nm2 _ V hV dn fb k s x t e0 e1 e2 e3 l0 l1 l2 l3 c) dX1_readItem_100 rfl rfl rfl ⟨by decide, by decide, rfl, rfl, Nat.zero_le _, Nat.zero_le _⟩ rfl rfl rfl (Nat.le_of_ble_eq_true rfl) rfl rfl rfl ?_
    exact g_iret (ty := .boolean) dX1_readItem_103 rfl (by first | exact bI_nar _ | decide) ⟨Nat.zero_le _, Nat.zero_le _⟩ (QI_no (hno c) nm2 _)
set_option maxRecDepth 20000 in
theorem t_X1_readItem_c (l : Launch) (nm : Nat → Int32) (n : Nat) (tf : Nat → Int32) (ta : Nat → Nat) (hT : TC tf ta n) (V : WT) (hV : okV V) (dn : Int32) (fb : Nat → Int32) (p : Nat) (hp : p < n) (ha : ta p = 99) : Con l M_X1_readItem [.ref 0, .ref 2, .ref 4] (rw11 nm (nI p) n tf V dn fb) (QI n tf (riF ta n (p + 1) 99 V fb dn)) := by
  have hT1 := hT.1
  refine con_of rfl rfl (Nat.le_of_ble_eq_true rfl) ?_
  refine g_lsN (ls' := [_, _, _, _, _, _]) rfl ?_
  refine g_aload_n (n := 1) dX1_readItem_0 rfl rfl ?_
  refine g_aload_n (n := 2) dX1_readItem_1 rfl rfl ?_
  refine g_get (n := 5) fl_X1_20 dX1_readItem_2 rfl rfl rfl ?_
  refine g_cutVi (ps := [2, 3]) (w' := [_, _, _, _, _, _, _, _, _, _, _]) (n := 8) cv_X1_33 (t_X4_letterAt l n tf ta hT p (by omega)) dX1_readItem_5 rfl rfl rfl ⟨by decide, by decide, rfl, rfl, Nat.zero_le _, Nat.zero_le _⟩ rfl rfl rfl (Nat.le_of_ble_eq_true rfl) rfl rfl rfl ?_
  refine g_top ((ltc_t hp).trans (congrArg nI ha)) ?_
  refine g_istore_n (n := 9) dX1_readItem_8 (by decide) rfl rfl ?_
  refine g_lsN (ls' := [_, _, _, _, _, _]) rfl ?_
  refine g_aload_n (n := 10) dX1_readItem_9 rfl rfl ?_
  refine g_dup (n := 11) dX1_readItem_10 rfl rfl ?_
  refine g_get (n := 14) fl_X1_20 dX1_readItem_11 rfl rfl rfl ?_
  refine g_iconst (v := nI 1) (n := 15) dX1_readItem_14 (by decide) rfl ?_
  refine g_iaddN (n := 16) dX1_readItem_15 rfl ?_
  refine g_put (n := 19) pf_X1_20 dX1_readItem_16 rfl (Nat.le_of_ble_eq_true rfl) (fun _ => rfl) (fun _ => rfl) rfl ?_
  refine g_wN (w' := [_, _, _, _, _, _, _, _, _, _, _]) rfl ?_
  refine g_iload_n (n := 20) dX1_readItem_19 rfl rfl ?_
  refine g_callSi (n := 23) cs_X1_37 (t_X1_numbersBehind_99 l) dX1_readItem_20 rfl rfl ⟨by decide, by decide, rfl, rfl, Nat.zero_le _, Nat.zero_le _⟩ rfl (Nat.le_of_ble_eq_true rfl) rfl ?_
  refine g_istore (n := 25) dX1_readItem_23 (by decide) rfl rfl ?_
  refine g_lsN (ls' := [_, _, _, _, _, _]) rfl ?_
  refine g_iload (n := 27) dX1_readItem_25 rfl rfl ?_
  refine g_if_ne (tgt := 32) (n := 30) dX1_readItem_27 (by decide) rfl (fun c27 => ?_) (fun c27 => absurd c27 (by decide))
  refine g_iconst (v := nI 0) (n := 33) dX1_readItem_32 (by decide) rfl ?_
  refine g_istore (n := 35) dX1_readItem_33 (by decide) rfl rfl ?_
  refine g_lsN (ls' := [_, _, _, _, _, _]) rfl ?_
  refine lp_X1_readItem l _ ⟨Nat.zero_le _, Nat.zero_le _⟩ _ n tf ta hT V dn fb 99 1 (by decide) 1 0 (p + 1) nm rfl (by omega) (fun h nm2 nx => QI_no ((it_c hV fb dn nm).1 h) nm2 nx) (fun nm2 p2 h => ?_)
  obtain ⟨k, e0, l0, hno, hok⟩ := (it_c hV fb dn nm).2 nm2 p2 h
  by_cases c : vnc V < 12 ∧ k ≤ 1
  ·
    refine g_aload_n (n := 98) dX1_readItem_97 rfl rfl ?_
    refine g_iload_n (n := 99) dX1_readItem_98 rfl rfl ?_
    refine g_aload_n (n := 100) dX1_readItem_99 rfl rfl ?_
    refine g_cutVi (ps := [0, 1, 4, 5, 6, 7, 8, 9, 10]) (w' := [_, _, _, _, _, _, _, _, _, _, _]) (n := 103) cv_X1_45 (t_X1_takeItem_c1 l nm2 _ V hV dn fb k e0 c.2 c.1) dX1_readItem_100 rfl rfl rfl ⟨by decide, by decide, rfl, rfl, Nat.zero_le _, Nat.zero_le _⟩ rfl rfl rfl (Nat.le_of_ble_eq_true rfl) rfl rfl rfl ?_
    exact g_iret (ty := .boolean) dX1_readItem_103 rfl (by first | exact bI_nar _ | decide) ⟨Nat.zero_le _, Nat.zero_le _⟩ (QI_ok (hok c.1 c.2) nm2)
  ·
    refine g_aload_n (n := 98) dX1_readItem_97 rfl rfl ?_
    refine g_iload_n (n := 99) dX1_readItem_98 rfl rfl ?_
    refine g_aload_n (n := 100) dX1_readItem_99 rfl rfl ?_
    refine g_cutVi (ps := [0, 1, 4, 5, 6, 7, 8, 9, 10]) (w' := [_, _, _, _, _, _, _, _, _, _, _]) (n := 103) cv_X1_45 (t_X1_takeItem_c0 l nm2 _ V hV dn fb k e0 l0 c) dX1_readItem_100 rfl rfl rfl ⟨by decide, by decide, rfl, rfl, Nat.zero_le _, Nat.zero_le _⟩ rfl rfl rfl (Nat.le_of_ble_eq_true rfl) rfl rfl rfl ?_
    exact g_iret (ty := .boolean) dX1_readItem_103 rfl (by first | exact bI_nar _ | decide) ⟨Nat.zero_le _, Nat.zero_le _⟩ (QI_no (hno c) nm2 _)
set_option maxRecDepth 20000 in
theorem t_X1_readItem_d (l : Launch) (nm : Nat → Int32) (n : Nat) (tf : Nat → Int32) (ta : Nat → Nat) (hT : TC tf ta n) (V : WT) (hV : okV V) (dn : Int32) (fb : Nat → Int32) (p : Nat) (hp : p < n) (ha : ta p = 100) : Con l M_X1_readItem [.ref 0, .ref 2, .ref 4] (rw11 nm (nI p) n tf V dn fb) (QI n tf (riF ta n (p + 1) 100 V fb dn)) := by
  have hT1 := hT.1
  refine con_of rfl rfl (Nat.le_of_ble_eq_true rfl) ?_
  refine g_lsN (ls' := [_, _, _, _, _, _]) rfl ?_
  refine g_aload_n (n := 1) dX1_readItem_0 rfl rfl ?_
  refine g_aload_n (n := 2) dX1_readItem_1 rfl rfl ?_
  refine g_get (n := 5) fl_X1_20 dX1_readItem_2 rfl rfl rfl ?_
  refine g_cutVi (ps := [2, 3]) (w' := [_, _, _, _, _, _, _, _, _, _, _]) (n := 8) cv_X1_33 (t_X4_letterAt l n tf ta hT p (by omega)) dX1_readItem_5 rfl rfl rfl ⟨by decide, by decide, rfl, rfl, Nat.zero_le _, Nat.zero_le _⟩ rfl rfl rfl (Nat.le_of_ble_eq_true rfl) rfl rfl rfl ?_
  refine g_top ((ltc_t hp).trans (congrArg nI ha)) ?_
  refine g_istore_n (n := 9) dX1_readItem_8 (by decide) rfl rfl ?_
  refine g_lsN (ls' := [_, _, _, _, _, _]) rfl ?_
  refine g_aload_n (n := 10) dX1_readItem_9 rfl rfl ?_
  refine g_dup (n := 11) dX1_readItem_10 rfl rfl ?_
  refine g_get (n := 14) fl_X1_20 dX1_readItem_11 rfl rfl rfl ?_
  refine g_iconst (v := nI 1) (n := 15) dX1_readItem_14 (by decide) rfl ?_
  refine g_iaddN (n := 16) dX1_readItem_15 rfl ?_
  refine g_put (n := 19) pf_X1_20 dX1_readItem_16 rfl (Nat.le_of_ble_eq_true rfl) (fun _ => rfl) (fun _ => rfl) rfl ?_
  refine g_wN (w' := [_, _, _, _, _, _, _, _, _, _, _]) rfl ?_
  refine g_iload_n (n := 20) dX1_readItem_19 rfl rfl ?_
  refine g_callSi (n := 23) cs_X1_37 (t_X1_numbersBehind_100 l) dX1_readItem_20 rfl rfl ⟨by decide, by decide, rfl, rfl, Nat.zero_le _, Nat.zero_le _⟩ rfl (Nat.le_of_ble_eq_true rfl) rfl ?_
  refine g_istore (n := 25) dX1_readItem_23 (by decide) rfl rfl ?_
  refine g_lsN (ls' := [_, _, _, _, _, _]) rfl ?_
  refine g_iload (n := 27) dX1_readItem_25 rfl rfl ?_
  refine g_if_ne (tgt := 32) (n := 30) dX1_readItem_27 (by decide) rfl (fun c27 => ?_) (fun c27 => absurd c27 (by decide))
  refine g_iconst (v := nI 0) (n := 33) dX1_readItem_32 (by decide) rfl ?_
  refine g_istore (n := 35) dX1_readItem_33 (by decide) rfl rfl ?_
  refine g_lsN (ls' := [_, _, _, _, _, _]) rfl ?_
  refine lp_X1_readItem l _ ⟨Nat.zero_le _, Nat.zero_le _⟩ _ n tf ta hT V dn fb 100 1 (by decide) 1 0 (p + 1) nm rfl (by omega) (fun h nm2 nx => QI_no ((it_d hV fb dn nm).1 h) nm2 nx) (fun nm2 p2 h => ?_)
  obtain ⟨x, e0, l0, hno, hok⟩ := (it_d hV fb dn nm).2 nm2 p2 h
  by_cases c : x < vnf V
  ·
    refine g_aload_n (n := 98) dX1_readItem_97 rfl rfl ?_
    refine g_iload_n (n := 99) dX1_readItem_98 rfl rfl ?_
    refine g_aload_n (n := 100) dX1_readItem_99 rfl rfl ?_
    refine g_cutVi (ps := [0, 1, 4, 5, 6, 7, 8, 9, 10]) (w' := [_, _, _, _, _, _, _, _, _, _, _]) (n := 103) cv_X1_45 (t_X1_takeItem_d1 l nm2 _ V hV dn fb x e0 c) dX1_readItem_100 rfl rfl rfl ⟨by decide, by decide, rfl, rfl, Nat.zero_le _, Nat.zero_le _⟩ rfl rfl rfl (Nat.le_of_ble_eq_true rfl) rfl rfl rfl ?_
    exact g_iret (ty := .boolean) dX1_readItem_103 rfl (by first | exact bI_nar _ | decide) ⟨Nat.zero_le _, Nat.zero_le _⟩ (QI_ok (hok c) nm2)
  ·
    refine g_aload_n (n := 98) dX1_readItem_97 rfl rfl ?_
    refine g_iload_n (n := 99) dX1_readItem_98 rfl rfl ?_
    refine g_aload_n (n := 100) dX1_readItem_99 rfl rfl ?_
    refine g_cutVi (ps := [0, 1, 4, 5, 6, 7, 8, 9, 10]) (w' := [_, _, _, _, _, _, _, _, _, _, _]) (n := 103) cv_X1_45 (t_X1_takeItem_d0 l nm2 _ V hV dn fb x e0 l0 c) dX1_readItem_100 rfl rfl rfl ⟨by decide, by decide, rfl, rfl, Nat.zero_le _, Nat.zero_le _⟩ rfl rfl rfl (Nat.le_of_ble_eq_true rfl) rfl rfl rfl ?_
    exact g_iret (ty := .boolean) dX1_readItem_103 rfl (by first | exact bI_nar _ | decide) ⟨Nat.zero_le _, Nat.zero_le _⟩ (QI_no (hno c) nm2 _)
set_option maxRecDepth 20000 in
theorem t_X1_readItem_o (l : Launch) (nm : Nat → Int32) (n : Nat) (tf : Nat → Int32) (ta : Nat → Nat) (hT : TC tf ta n) (V : WT) (hV : okV V) (dn : Int32) (fb : Nat → Int32) (p : Nat) (hp : p < n) (h1 : ¬ ta p = 98) (h2 : ¬ ta p = 102) (h3 : ¬ ta p = 99) (h4 : ¬ ta p = 100) : Con l M_X1_readItem [.ref 0, .ref 2, .ref 4] (rw11 nm (nI p) n tf V dn fb) (QI n tf (riF ta n (p + 1) (ta p) V fb dn)) := by
  have hT1 := hT.1
  have hTp := (hT.2 p hp).2.2
  have e9 : nbh (ta p) = 0 := by unfold nbh; rw [if_neg h1, if_neg h2, if_neg h3, if_neg h4]
  refine con_of rfl rfl (Nat.le_of_ble_eq_true rfl) ?_
  refine g_lsN (ls' := [_, _, _, _, _, _]) rfl ?_
  refine g_aload_n (n := 1) dX1_readItem_0 rfl rfl ?_
  refine g_aload_n (n := 2) dX1_readItem_1 rfl rfl ?_
  refine g_get (n := 5) fl_X1_20 dX1_readItem_2 rfl rfl rfl ?_
  refine g_cutVi (ps := [2, 3]) (w' := [_, _, _, _, _, _, _, _, _, _, _]) (n := 8) cv_X1_33 (t_X4_letterAt l n tf ta hT p (by omega)) dX1_readItem_5 rfl rfl rfl ⟨by decide, by decide, rfl, rfl, Nat.zero_le _, Nat.zero_le _⟩ rfl rfl rfl (Nat.le_of_ble_eq_true rfl) rfl rfl rfl ?_
  refine g_top (ltc_t hp) ?_
  refine g_istore_n (n := 9) dX1_readItem_8 (by decide) rfl rfl ?_
  refine g_lsN (ls' := [_, _, _, _, _, _]) rfl ?_
  refine g_aload_n (n := 10) dX1_readItem_9 rfl rfl ?_
  refine g_dup (n := 11) dX1_readItem_10 rfl rfl ?_
  refine g_get (n := 14) fl_X1_20 dX1_readItem_11 rfl rfl rfl ?_
  refine g_iconst (v := nI 1) (n := 15) dX1_readItem_14 (by decide) rfl ?_
  refine g_iaddN (n := 16) dX1_readItem_15 rfl ?_
  refine g_put (n := 19) pf_X1_20 dX1_readItem_16 rfl (Nat.le_of_ble_eq_true rfl) (fun _ => rfl) (fun _ => rfl) rfl ?_
  refine g_wN (w' := [_, _, _, _, _, _, _, _, _, _, _]) rfl ?_
  refine g_iload_n (n := 20) dX1_readItem_19 rfl rfl ?_
  refine g_callSi (n := 23) cs_X1_37 (t_X1_numbersBehind l (ta p) (by omega)) dX1_readItem_20 rfl rfl ⟨by decide, by decide, rfl, rfl, Nat.zero_le _, Nat.zero_le _⟩ rfl (Nat.le_of_ble_eq_true rfl) rfl ?_
  refine g_top (congrArg nI e9) ?_
  refine g_istore (n := 25) dX1_readItem_23 (by decide) rfl rfl ?_
  refine g_lsN (ls' := [_, _, _, _, _, _]) rfl ?_
  refine g_iload (n := 27) dX1_readItem_25 rfl rfl ?_
  refine g_if_ne (tgt := 32) (n := 30) dX1_readItem_27 (by decide) rfl (fun c27 => absurd rfl c27) (fun c27 => ?_)
  refine g_iconst (v := nI 0) (n := 31) dX1_readItem_30 (by decide) rfl ?_
  exact g_iret (ty := .boolean) dX1_readItem_31 rfl (by first | exact bI_nar _ | decide) ⟨Nat.zero_le _, Nat.zero_le _⟩ (QI_no (by rw [riF_o h1 h2 h3 h4]; exact ⟨rfl, rfl, rfl, rfl⟩) nm _)
theorem t_X1_readItem (l : Launch) (nm : Nat → Int32) (n : Nat) (tf : Nat → Int32) (ta : Nat → Nat) (hT : TC tf ta n) (V : WT) (hV : okV V) (dn : Int32) (fb : Nat → Int32) (p : Nat) (hp : p < n) : Con l M_X1_readItem [.ref 0, .ref 2, .ref 4] (rw11 nm (nI p) n tf V dn fb) (QI n tf (riF ta n (p + 1) (ta p) V fb dn)) := by
  by_cases h1 : ta p = 98
  · rw [h1]; exact t_X1_readItem_b l nm n tf ta hT V hV dn fb p hp h1
  by_cases h2 : ta p = 102
  · rw [h2]; exact t_X1_readItem_f l nm n tf ta hT V hV dn fb p hp h2
  by_cases h3 : ta p = 99
  · rw [h3]; exact t_X1_readItem_c l nm n tf ta hT V hV dn fb p hp h3
  by_cases h4 : ta p = 100
  · rw [h4]; exact t_X1_readItem_d l nm n tf ta hT V hV dn fb p hp h4
  exact t_X1_readItem_o l nm n tf ta hT V hV dn fb p hp h1 h2 h3 h4
abbrev clV (U : WT) : WT := (0, 0, 0, nI 0, vth U, vpa U, vki U, vsg U, vkn U)
theorem okV_cl (U : WT) : okV (clV U) := ⟨Nat.zero_le _, Nat.zero_le _, Nat.zero_le _⟩
set_option maxRecDepth 20000 in
theorem t_X7_clear (l : Launch) (U : WT) (un : Int32) : Fn l M_X7_clear [.ref 0] ([wo U un 0]) none ([wo (clV U) (nI 0) 0]) := by
  refine con_of rfl rfl (Nat.le_of_ble_eq_true rfl) ?_
  refine g_lsN (ls' := [_]) rfl ?_
  refine g_aload_n (n := 1) dX7_clear_0 rfl rfl ?_
  refine g_iconst (v := nI 0) (n := 2) dX7_clear_1 (by decide) rfl ?_
  refine g_put (n := 5) pf_X7_30 dX7_clear_2 rfl (Nat.le_of_ble_eq_true rfl) (fun _ => rfl) (fun _ => rfl) rfl ?_
  refine g_wN (w' := [_]) rfl ?_
  refine g_aload_n (n := 6) dX7_clear_5 rfl rfl ?_
  refine g_iconst (v := nI 0) (n := 7) dX7_clear_6 (by decide) rfl ?_
  refine g_put (n := 10) pf_X7_34 dX7_clear_7 rfl (Nat.le_of_ble_eq_true rfl) (fun _ => rfl) (fun _ => rfl) rfl ?_
  refine g_wN (w' := [_]) rfl ?_
  refine g_aload_n (n := 11) dX7_clear_10 rfl rfl ?_
  refine g_iconst (v := nI 0) (n := 12) dX7_clear_11 (by decide) rfl ?_
  refine g_put (n := 15) pf_X7_37 dX7_clear_12 rfl (Nat.le_of_ble_eq_true rfl) (fun _ => rfl) (fun _ => rfl) rfl ?_
  refine g_wN (w' := [_]) rfl ?_
  refine g_aload_n (n := 16) dX7_clear_15 rfl rfl ?_
  refine g_iconst (v := nI 0) (n := 17) dX7_clear_16 (by decide) rfl ?_
  refine g_put (n := 20) pf_X7_40 dX7_clear_17 rfl (Nat.le_of_ble_eq_true rfl) (fun _ => rfl) (fun _ => rfl) rfl ?_
  refine g_wN (w' := [_]) rfl ?_
  refine g_aload_n (n := 21) dX7_clear_20 rfl rfl ?_
  refine g_iconst (v := nI 0) (n := 22) dX7_clear_21 (by decide) rfl ?_
  refine g_put (n := 25) pf_X7_43 dX7_clear_22 rfl (Nat.le_of_ble_eq_true rfl) (fun _ => rfl) (fun _ => rfl) rfl ?_
  refine g_wN (w' := [_]) rfl ?_
  exact g_vret dX7_clear_25 rfl ⟨Nat.zero_le _, Nat.zero_le _⟩ ⟨rfl, rfl⟩
set_option maxRecDepth 20000 in
theorem lp_X1_readWall (l : Launch) (z : Nat × Nat × Nat) (hz : z.2.1 ≤ 0 ∧ z.2.2 ≤ 0) (Q : Option Value → List va_E → Prop) (n : Nat) (tf : Nat → Int32) (ta : Nat → Nat) (hT : TC tf ta n) : ∀ (k i p : Nat) (V : WT) (fb : Nat → Int32) (dn : Int32) (nm : Nat → Int32) (o4 : Option Value), i + k = 200 → n ≤ p + k → p ≤ 300 → okV V → (∀ nm nx, Q (some (.int (rdR ta n k p V fb dn).1)) (rw11 nm nx n tf (rdR ta n k p V fb dn).2.1 (rdR ta n k p V fb dn).2.2.2.1 (rdR ta n k p V fb dn).2.2.1)) → G l M_X1_readWall z Q 11 [some (.ref 0), some (.ref 2), some (.ref 4), some (.int (nI i)), o4] [] (rw11 nm (nI p) n tf V dn fb) := by
  have hT1 := hT.1
  intro k
  induction k with
  | zero =>
    intro i p V fb dn nm o4 hi hnp hp3 hV hQ
    refine g_iload_n (n := 12) dX1_readWall_11 rfl rfl ?_
    refine g_sipush (v := nI 200) (n := 15) dX1_readWall_12 (by decide) rfl ?_
    refine g_icmp_ge (tgt := 53) (n := 18) dX1_readWall_15 (by decide) rfl (fun c15 => ?_) (fun c15 => absurd (nI_le (by omega) (by omega)) c15)
    refine g_bipush (v := (-4)) (n := 55) dX1_readWall_53 (by decide) rfl ?_
    exact g_iret (ty := .int) dX1_readWall_55 rfl rfl hz (hQ nm _)
  | succ k ih =>
    intro i p V fb dn nm o4 hi hnp hp3 hV hQ
    by_cases hpn : p < n
    · rw [rdR, if_pos hpn] at hQ
      have okR := riF_ok ta n (p + 1) (ta p) V fb dn hV
      have leR := riF_le ta n (p + 1) (ta p) V fb dn
      have okR2 := okR.2
      refine g_iload_n (n := 12) dX1_readWall_11 rfl rfl ?_
      refine g_sipush (v := nI 200) (n := 15) dX1_readWall_12 (by decide) rfl ?_
      refine g_icmp_ge (tgt := 53) (n := 18) dX1_readWall_15 (by decide) rfl (fun c15 => absurd c15 (nI_ge (by omega) (by omega))) (fun c15 => ?_)
      refine g_aload_n (n := 19) dX1_readWall_18 rfl rfl ?_
      refine g_get (n := 22) fl_X1_20 dX1_readWall_19 rfl rfl rfl ?_
      refine g_aload_n (n := 23) dX1_readWall_22 rfl rfl ?_
      refine g_get (n := 26) fl_X1_24 dX1_readWall_23 rfl rfl rfl ?_
      refine g_icmp_ge (tgt := 53) (n := 29) dX1_readWall_26 (by decide) rfl (fun c26 => absurd c26 (nI_ge hpn (by omega))) (fun c26 => ?_)
      refine g_aload_n (n := 30) dX1_readWall_29 rfl rfl ?_
      refine g_get (n := 33) fl_X1_20 dX1_readWall_30 rfl rfl rfl ?_
      refine g_istore (n := 35) dX1_readWall_33 (by decide) rfl rfl ?_
      refine g_lsN (ls' := [_, _, _, _, _]) rfl ?_
      refine g_aload_n (n := 36) dX1_readWall_35 rfl rfl ?_
      refine g_aload_n (n := 37) dX1_readWall_36 rfl rfl ?_
      refine g_aload_n (n := 38) dX1_readWall_37 rfl rfl ?_
      refine g_callW (n := 41) cv_X1_29 (t_X1_readItem l nm n tf ta hT V hV dn fb p hpn) dX1_readWall_38 rfl ⟨by decide, by decide, rfl, rfl, hz.1, hz.2⟩ rfl rfl rfl (Nat.le_of_ble_eq_true rfl) rfl (fun r cw38 hq38 => ?_)
      obtain ⟨rfl, nm2, nx2, rfl, hnx⟩ := hq38
      refine ⟨rfl, ?_⟩
      refine g_stN (st' := .int _ :: []) rfl ?_
      refine g_wN (w' := [_, _, _, _, _, _, _, _, _, _, _]) rfl ?_
      refine g_if_ne (tgt := 47) (n := 44) dX1_readWall_41 (by decide) rfl (fun c41 => ?_) (fun c41 => ?_)
      ·
        have hR := bI_n0.mp c41
        rw [if_pos hR] at hQ
        have hn2 := hnx hR
        subst hn2
        refine g_iincN (k := 1) (n := 50) dX1_readWall_47 rfl (by decide) rfl rfl ?_
        refine g_lsN (ls' := [_, _, _, _, _]) rfl ?_
        refine g_goto (tgt := 11) dX1_readWall_50 (by decide) ?_
        exact ih (i + 1) _ _ _ _ nm2 _ (by omega) (by omega) (by omega) okR.1 hQ
      ·
        have hR := bI_0.mp c41
        rw [if_neg (by rw [hR]; exact Bool.false_ne_true)] at hQ
        refine g_iload (n := 46) dX1_readWall_44 rfl rfl ?_
        exact g_iret (ty := .int) dX1_readWall_46 rfl rfl hz (hQ nm2 nx2)
    · rw [rdR, if_neg hpn] at hQ
      refine g_iload_n (n := 12) dX1_readWall_11 rfl rfl ?_
      refine g_sipush (v := nI 200) (n := 15) dX1_readWall_12 (by decide) rfl ?_
      refine g_icmp_ge (tgt := 53) (n := 18) dX1_readWall_15 (by decide) rfl (fun c15 => absurd c15 (nI_ge (by omega) (by omega))) (fun c15 => ?_)
      refine g_aload_n (n := 19) dX1_readWall_18 rfl rfl ?_
      refine g_get (n := 22) fl_X1_20 dX1_readWall_19 rfl rfl rfl ?_
      refine g_aload_n (n := 23) dX1_readWall_22 rfl rfl ?_
      refine g_get (n := 26) fl_X1_24 dX1_readWall_23 rfl rfl rfl ?_
      refine g_icmp_ge (tgt := 53) (n := 29) dX1_readWall_26 (by decide) rfl (fun c26 => ?_) (fun c26 => absurd (nI_le (by omega) (by omega)) c26)
      refine g_bipush (v := (-4)) (n := 55) dX1_readWall_53 (by decide) rfl ?_
      exact g_iret (ty := .int) dX1_readWall_55 rfl rfl hz (hQ nm _)
set_option maxRecDepth 20000 in
theorem t_X1_readWall (l : Launch) (nm : Nat → Int32) (nx : Int32) (n : Nat) (tf : Nat → Int32) (ta : Nat → Nat) (hT : TC tf ta n) (U : WT) (un : Int32) (ub : Nat → Int32) : Con l M_X1_readWall [.ref 0, .ref 2, .ref 4] (rw11 nm nx n tf U un ub) (fun r u => r = some (.int (rdR ta n 200 0 (clV U) ub (nI 0)).1) ∧ ∃ nm nx, u = rw11 nm nx n tf (rdR ta n 200 0 (clV U) ub (nI 0)).2.1 (rdR ta n 200 0 (clV U) ub (nI 0)).2.2.2.1 (rdR ta n 200 0 (clV U) ub (nI 0)).2.2.1) := by
  refine con_of rfl rfl (Nat.le_of_ble_eq_true rfl) ?_
  refine g_lsN (ls' := [_, _, _, _, _]) rfl ?_
  refine g_aload_n (n := 1) dX1_readWall_0 rfl rfl ?_
  refine g_cutVv (ps := [4, 5, 6, 7, 8, 9, 10]) (w' := [_, _, _, _, _, _, _, _, _, _, _]) (n := 4) cv_X1_15 (t_X7_clear l U un) dX1_readWall_1 rfl rfl rfl ⟨by decide, by decide, rfl, rfl, Nat.zero_le _, Nat.zero_le _⟩ rfl rfl rfl (Nat.le_of_ble_eq_true rfl) rfl rfl rfl ?_
  refine g_aload_n (n := 5) dX1_readWall_4 rfl rfl ?_
  refine g_iconst (v := nI 0) (n := 6) dX1_readWall_5 (by decide) rfl ?_
  refine g_put (n := 9) pf_X1_20 dX1_readWall_6 rfl (Nat.le_of_ble_eq_true rfl) (fun _ => rfl) (fun _ => rfl) rfl ?_
  refine g_wN (w' := [_, _, _, _, _, _, _, _, _, _, _]) rfl ?_
  refine g_iconst (v := nI 0) (n := 10) dX1_readWall_9 (by decide) rfl ?_
  refine g_istore_n (n := 11) dX1_readWall_10 (by decide) rfl rfl ?_
  refine g_lsN (ls' := [_, _, _, _, _]) rfl ?_
  exact lp_X1_readWall l _ ⟨Nat.zero_le _, Nat.zero_le _⟩ _ n tf ta hT 200 0 0 (clV U) ub (nI 0) nm _ rfl (by have := hT.1; omega) (by omega) (okV_cl U) (fun nm nx => ⟨rfl, nm, nx, rfl⟩)
abbrev bw (S : ST) (V : WT) (dn : Int32) (fb : Nat → Int32) : List va_E := [so S 0, a6 (sbo S), a6 (sti S), a8 (sun S), wo V dn 4, a8 (vth V), a8 (vpa V), a6 (vki V), a6 (vsg V), a6 fb, a6 (vkn V)]
def cyU (V : WT) (dn : Int32) : Int32 := (nI (2 ^ vnf V) - nI 1) &&& (dn ^^^ (-1))
abbrev bgS (S : ST) (V : WT) (dn : Int32) (fb : Nat → Int32) (f b : Nat) : ST := (nI 0, cyU V dn, nI 0, mix (fun _ => nI 0) (sti S) f, mix fb (sbo S) f, mix (fun _ => nI 0) (sun S) b)
/-- how things stand when a wall has been laid -/
def cyS (V : WT) (dn : Int32) (fb : Nat → Int32) : ST := (nI 0, cyU V dn, nI 0, fun _ => nI 0, fb, fun _ => nI 0)
theorem mix_full {a b : Nat → Int32} {k : Nat} (h : ∀ j, k ≤ j → a j = b j) : mix a b k = a := by
  funext j
  unfold mix
  split
  · rfl
  · next q => exact (h j (by omega)).symm
theorem bg_cy {S : ST} {V : WT} {dn : Int32} {fb : Nat → Int32} (hS : okZ S) (hf : ∀ j, 6 ≤ j → fb j = 0) : bgS S V dn fb 6 8 = cyS V dn fb := by
  unfold bgS cyS
  rw [mix_full (a := fun _ => nI 0) (b := sti S) (k := 6) (fun j hj => (hS.1 j hj).symm), mix_full (a := fb) (k := 6) (fun j hj => by rw [hf j hj]; exact (hS.2.1 j hj).symm), mix_full (a := fun _ => nI 0) (b := sun S) (k := 8) (fun j hj => (hS.2.2 j hj).symm)]

set_option maxRecDepth 20000 in
theorem lp2_X3_begin (l : Launch) (z : Nat × Nat × Nat) (hz : z.2.1 ≤ 0 ∧ z.2.2 ≤ 0) (Q : Option Value → List va_E → Prop) (V : WT) (hV : okV V) (dn : Int32) (fb : Nat → Int32) (S : ST) (hQ : Q none (bw (bgS S V dn fb 6 8) V dn fb)) : ∀ b, b ≤ 8 → G l M_X3_begin z Q 60 [some (.ref 0), some (.ref 4), some (.int (nI b))] [] (bw (bgS S V dn fb 6 b) V dn fb) := by
  refine loopN 8 ?_ (fun b hb ih => ?_)
  ·
    refine g_iload_n (n := 61) dX3_begin_60 rfl rfl ?_
    refine g_bipush (v := nI 8) (n := 63) dX3_begin_61 (by decide) rfl ?_
    refine g_icmp_ge (tgt := 79) (n := 66) dX3_begin_63 (by decide) rfl (fun c63 => ?_) (fun c63 => absurd (nI_le (Nat.le_refl _) (by decide)) c63)
    exact g_vret dX3_begin_79 rfl hz hQ
  ·
    refine g_iload_n (n := 61) dX3_begin_60 rfl rfl ?_
    refine g_bipush (v := nI 8) (n := 63) dX3_begin_61 (by decide) rfl ?_
    refine g_icmp_ge (tgt := 79) (n := 66) dX3_begin_63 (by decide) rfl (fun c63 => absurd c63 (nI_ge hb (by decide))) (fun c63 => ?_)
    refine g_aload_n (n := 67) dX3_begin_66 rfl rfl ?_
    refine g_get (n := 70) fl_X3_18 dX3_begin_67 rfl rfl rfl ?_
    refine g_iload_n (n := 71) dX3_begin_70 rfl rfl ?_
    refine g_iconst (v := nI 0) (n := 72) dX3_begin_71 (by decide) rfl ?_
    refine g_iastN (n := 73) dX3_begin_72 rfl rfl (by decide) (by omega) ?_
    refine g_wN (w' := [_, _, _, _, _, _, _, _, _, _, _]) rfl ?_
    rw [mix_s (fun _ => nI 0) (sun S) b]
    refine g_iincN (k := 1) (n := 76) dX3_begin_73 rfl (by decide) rfl rfl ?_
    refine g_lsN (ls' := [_, _, _]) rfl ?_
    refine g_goto (tgt := 60) dX3_begin_76 (by decide) ?_
    exact ih
set_option maxRecDepth 20000 in
theorem lp1_X3_begin (l : Launch) (z : Nat × Nat × Nat) (hz : z.2.1 ≤ 0 ∧ z.2.2 ≤ 0) (Q : Option Value → List va_E → Prop) (V : WT) (hV : okV V) (dn : Int32) (fb : Nat → Int32) (S : ST) (hQ : Q none (bw (bgS S V dn fb 6 8) V dn fb)) : ∀ f, f ≤ 6 → G l M_X3_begin z Q 27 [some (.ref 0), some (.ref 4), some (.int (nI f))] [] (bw (bgS S V dn fb f 0) V dn fb) := by
  refine loopN 6 ?_ (fun f hf ih => ?_)
  ·
    refine g_iload_n (n := 28) dX3_begin_27 rfl rfl ?_
    refine g_bipush (v := nI 6) (n := 30) dX3_begin_28 (by decide) rfl ?_
    refine g_icmp_ge (tgt := 58) (n := 33) dX3_begin_30 (by decide) rfl (fun c30 => ?_) (fun c30 => absurd (nI_le (Nat.le_refl _) (by decide)) c30)
    refine g_iconst (v := nI 0) (n := 59) dX3_begin_58 (by decide) rfl ?_
    refine g_istore_n (n := 60) dX3_begin_59 (by decide) rfl rfl ?_
    refine g_lsN (ls' := [_, _, _]) rfl ?_
    exact lp2_X3_begin l z hz Q V hV dn fb S hQ 0 (Nat.zero_le _)
  ·
    refine g_iload_n (n := 28) dX3_begin_27 rfl rfl ?_
    refine g_bipush (v := nI 6) (n := 30) dX3_begin_28 (by decide) rfl ?_
    refine g_icmp_ge (tgt := 58) (n := 33) dX3_begin_30 (by decide) rfl (fun c30 => absurd c30 (nI_ge hf (by decide))) (fun c30 => ?_)
    refine g_aload_n (n := 34) dX3_begin_33 rfl rfl ?_
    refine g_get (n := 37) fl_X3_9 dX3_begin_34 rfl rfl rfl ?_
    refine g_iload_n (n := 38) dX3_begin_37 rfl rfl ?_
    refine g_aload_n (n := 39) dX3_begin_38 rfl rfl ?_
    refine g_get (n := 42) fl_X3_40 dX3_begin_39 rfl rfl rfl ?_
    refine g_iload_n (n := 43) dX3_begin_42 rfl rfl ?_
    refine g_ialdN (n := 44) dX3_begin_43 rfl rfl (by decide) (by omega) ?_
    refine g_iastN (n := 45) dX3_begin_44 rfl rfl (by decide) (by omega) ?_
    refine g_wN (w' := [_, _, _, _, _, _, _, _, _, _, _]) rfl ?_
    rw [mix_s fb (sbo S) f]
    refine g_aload_n (n := 46) dX3_begin_45 rfl rfl ?_
    refine g_get (n := 49) fl_X3_15 dX3_begin_46 rfl rfl rfl ?_
    refine g_iload_n (n := 50) dX3_begin_49 rfl rfl ?_
    refine g_iconst (v := nI 0) (n := 51) dX3_begin_50 (by decide) rfl ?_
    refine g_iastN (n := 52) dX3_begin_51 rfl rfl (by decide) (by omega) ?_
    refine g_wN (w' := [_, _, _, _, _, _, _, _, _, _, _]) rfl ?_
    rw [mix_s (fun _ => nI 0) (sti S) f]
    refine g_iincN (k := 1) (n := 55) dX3_begin_52 rfl (by decide) rfl rfl ?_
    refine g_lsN (ls' := [_, _, _]) rfl ?_
    refine g_goto (tgt := 27) dX3_begin_55 (by decide) ?_
    exact ih
set_option maxRecDepth 20000 in
theorem t_X3_begin (l : Launch) (V : WT) (hV : okV V) (dn : Int32) (fb : Nat → Int32) (S : ST) (hS : okZ S) (hf : ∀ j, 6 ≤ j → fb j = 0) : Fn l M_X3_begin [.ref 0, .ref 4] (bw S V dn fb) none (bw (cyS V dn fb) V dn fb) := by
  rw [← bg_cy hS hf]
  refine con_of rfl rfl (Nat.le_of_ble_eq_true rfl) ?_
  refine g_lsN (ls' := [_, _, _]) rfl ?_
  refine g_aload_n (n := 1) dX3_begin_0 rfl rfl ?_
  refine g_iconst (v := nI 0) (n := 2) dX3_begin_1 (by decide) rfl ?_
  refine g_put (n := 5) pf_X3_21 dX3_begin_2 rfl (Nat.le_of_ble_eq_true rfl) (fun _ => rfl) (fun _ => rfl) rfl ?_
  refine g_wN (w' := [_, _, _, _, _, _, _, _, _, _, _]) rfl ?_
  refine g_aload_n (n := 6) dX3_begin_5 rfl rfl ?_
  refine g_aload_n (n := 7) dX3_begin_6 rfl rfl ?_
  refine g_cutVi (ps := [4, 5, 6, 7, 8, 9, 10]) (w' := [_, _, _, _, _, _, _, _, _, _, _]) (n := 10) cv_X3_25 (t_X7_allButtresses l V hV dn) dX3_begin_7 rfl rfl rfl ⟨by decide, by decide, rfl, rfl, Nat.zero_le _, Nat.zero_le _⟩ rfl rfl rfl (Nat.le_of_ble_eq_true rfl) rfl rfl rfl ?_
  refine g_aload_n (n := 11) dX3_begin_10 rfl rfl ?_
  refine g_get (n := 14) fl_X3_31 dX3_begin_11 rfl rfl rfl ?_
  refine g_iconst (v := (-1)) (n := 15) dX3_begin_14 (by decide) rfl ?_
  refine g_ixor (n := 16) dX3_begin_15 rfl ?_
  refine g_iand (n := 17) dX3_begin_16 rfl ?_
  refine g_put (n := 20) pf_X3_34 dX3_begin_17 rfl (Nat.le_of_ble_eq_true rfl) (fun _ => rfl) (fun _ => rfl) rfl ?_
  refine g_wN (w' := [_, _, _, _, _, _, _, _, _, _, _]) rfl ?_
  refine g_aload_n (n := 21) dX3_begin_20 rfl rfl ?_
  refine g_iconst (v := nI 0) (n := 22) dX3_begin_21 (by decide) rfl ?_
  refine g_put (n := 25) pf_X3_37 dX3_begin_22 rfl (Nat.le_of_ble_eq_true rfl) (fun _ => rfl) (fun _ => rfl) rfl ?_
  refine g_wN (w' := [_, _, _, _, _, _, _, _, _, _, _]) rfl ?_
  refine g_iconst (v := nI 0) (n := 26) dX3_begin_25 (by decide) rfl ?_
  refine g_istore_n (n := 27) dX3_begin_26 (by decide) rfl rfl ?_
  refine g_lsN (ls' := [_, _, _]) rfl ?_
  refine g_wN (w' := bw (bgS S V dn fb 0 0) V dn fb) (by show _ = bw (nI 0, cyU V dn, nI 0, mix (fun _ => nI 0) (sti S) 0, mix fb (sbo S) 0, mix (fun _ => nI 0) (sun S) 0) V dn fb; rw [mix_0, mix_0, mix_0]; rfl) ?_
  exact lp1_X3_begin l _ ⟨Nat.zero_le _, Nat.zero_le _⟩ _ V hV dn fb S ⟨rfl, rfl⟩ 0 (Nat.zero_le _)

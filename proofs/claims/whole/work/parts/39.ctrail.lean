/-! 39.ctrail: the class's trail -/
def sref (base n : Nat) : Nat → Option Nat := fun j => if j < n then some (base + 4 * j) else none
abbrev sarr (base n : Nat) : va_E := .inl (2, n, .inr (.inr (.inr (.inr (sref base n)))))
/-- 0 the trail, 1 its row, 2-33 its states, 34-37 a state -/
abbrev rw_ (nx sz : Int32) (P : Nat → ST) (S : ST) : List va_E := [.inr (5, [.ref 1, .int nx, .int sz]), sarr 2 8, so (P 0) 2, a6 (sbo (P 0)), a6 (sti (P 0)), a8 (sun (P 0)), so (P 1) 6, a6 (sbo (P 1)), a6 (sti (P 1)), a8 (sun (P 1)), so (P 2) 10, a6 (sbo (P 2)), a6 (sti (P 2)), a8 (sun (P 2)), so (P 3) 14, a6 (sbo (P 3)), a6 (sti (P 3)), a8 (sun (P 3)), so (P 4) 18, a6 (sbo (P 4)), a6 (sti (P 4)), a8 (sun (P 4)), so (P 5) 22, a6 (sbo (P 5)), a6 (sti (P 5)), a8 (sun (P 5)), so (P 6) 26, a6 (sbo (P 6)), a6 (sti (P 6)), a8 (sun (P 6)), so (P 7) 30, a6 (sbo (P 7)), a6 (sti (P 7)), a8 (sun (P 7)), so S 34, a6 (sbo S), a6 (sti S), a8 (sun S)]
def pu (P : Nat → ST) (j : Nat) (S : ST) : Nat → ST := fun i => if i = j then S else P i
theorem okZ_pu {P : Nat → ST} {S : ST} (j : Nat) (h : ∀ i, okZ (P i)) (hS : okZ S) : ∀ i, okZ (pu P j S i) := fun i => by
  unfold pu
  split
  · exact hS
  · exact h i
theorem min8 {k : Nat} (h : k ≤ 8) : (if nI 8 < nI (k + 1) then nI 8 else nI (k + 1)) = nI (kpK k) := (by decide +kernel : ∀ k, k ≤ 8 → (if nI 8 < nI (k + 1) then nI 8 else nI (k + 1)) = nI (kpK k)) k h

set_option maxRecDepth 20000 in
theorem t_X5_remember_0 (l : Launch) (sz : Nat) (hsz : sz ≤ 8) (P : Nat → ST) (hP : ∀ i, okZ (P i)) (S : ST) (hS : okZ S) : Fn l M_X5_remember [.ref 0, .ref 34] (rw_ (nI 0) (nI sz) P S) none (rw_ (nI ((0 + 1) % 8)) (nI (kpK sz)) (pu P 0 S) S) := by
  refine con_of rfl rfl (Nat.le_of_ble_eq_true rfl) ?_
  refine g_lsN (ls' := [_, _]) rfl ?_
  refine g_aload_n (n := 1) dX5_remember_0 rfl rfl ?_
  refine g_get (n := 4) fl_X5_11 dX5_remember_1 rfl rfl rfl ?_
  refine g_aload_n (n := 5) dX5_remember_4 rfl rfl ?_
  refine g_get (n := 8) fl_X5_18 dX5_remember_5 rfl rfl rfl ?_
  refine g_aaldN (n := 9) dX5_remember_8 rfl rfl (by decide) (by omega) rfl ?_
  refine g_aload_n (n := 10) dX5_remember_9 rfl rfl ?_
  refine g_cutVv (ps := [2, 3, 4, 5, 34, 35, 36, 37]) (w' := [_, _, _, _, _, _, _, _, _, _, _, _, _, _, _, _, _, _, _, _, _, _, _, _, _, _, _, _, _, _, _, _, _, _, _, _, _, _]) (n := 13) cv_X5_22 (t_X3_takeFrom l (P 0) S (hP 0) hS) dX5_remember_10 rfl rfl rfl ⟨by decide, by decide, rfl, rfl, Nat.zero_le _, Nat.zero_le _⟩ rfl rfl rfl (Nat.le_of_ble_eq_true rfl) rfl rfl rfl ?_
  refine g_aload_n (n := 14) dX5_remember_13 rfl rfl ?_
  refine g_aload_n (n := 15) dX5_remember_14 rfl rfl ?_
  refine g_get (n := 18) fl_X5_18 dX5_remember_15 rfl rfl rfl ?_
  refine g_iconst (v := nI 1) (n := 19) dX5_remember_18 (by decide) rfl ?_
  refine g_iaddN (n := 20) dX5_remember_19 rfl ?_
  refine g_bipush (v := nI 8) (n := 22) dX5_remember_20 (by decide) rfl ?_
  refine g_irem (n := 23) dX5_remember_22 (by decide) rfl ?_
  refine g_top (pk_rem (by decide) (by decide) (by decide)) ?_
  refine g_put (n := 26) pf_X5_18 dX5_remember_23 rfl (Nat.le_of_ble_eq_true rfl) (fun _ => rfl) (fun _ => rfl) rfl ?_
  refine g_wN (w' := [_, _, _, _, _, _, _, _, _, _, _, _, _, _, _, _, _, _, _, _, _, _, _, _, _, _, _, _, _, _, _, _, _, _, _, _, _, _]) rfl ?_
  refine g_aload_n (n := 27) dX5_remember_26 rfl rfl ?_
  refine g_aload_n (n := 28) dX5_remember_27 rfl rfl ?_
  refine g_get (n := 31) fl_X5_26 dX5_remember_28 rfl rfl rfl ?_
  refine g_iconst (v := nI 1) (n := 32) dX5_remember_31 (by decide) rfl ?_
  refine g_iaddN (n := 33) dX5_remember_32 rfl ?_
  refine g_bipush (v := nI 8) (n := 35) dX5_remember_33 (by decide) rfl ?_
  refine g_mmin (n := 38) dX5_remember_35 lk_X5_29 lw_min lw_math lc_min (by decide) (Nat.le_of_ble_eq_true rfl) ⟨Nat.zero_le _, Nat.zero_le _⟩ rfl ?_
  refine g_top (min8 hsz) ?_
  refine g_put (n := 41) pf_X5_26 dX5_remember_38 rfl (Nat.le_of_ble_eq_true rfl) (fun _ => rfl) (fun _ => rfl) rfl ?_
  refine g_wN (w' := [_, _, _, _, _, _, _, _, _, _, _, _, _, _, _, _, _, _, _, _, _, _, _, _, _, _, _, _, _, _, _, _, _, _, _, _, _, _]) rfl ?_
  exact g_vret dX5_remember_41 rfl ⟨Nat.zero_le _, Nat.zero_le _⟩ ⟨rfl, rfl⟩
set_option maxRecDepth 20000 in
theorem t_X5_restore_0 (l : Launch) (sz : Nat) (h0 : 0 < sz) (hsz : sz ≤ 8) (P : Nat → ST) (hP : ∀ i, okZ (P i)) (S : ST) (hS : okZ S) : Fn l M_X5_restore [.ref 0, .ref 34] (rw_ (nI 0) (nI sz) P S) (some (.int (nI 1))) (rw_ (nI ((0 + 7) % 8)) (nI (sz - 1)) P (P ((0 + 7) % 8))) := by
  refine con_of rfl rfl (Nat.le_of_ble_eq_true rfl) ?_
  refine g_lsN (ls' := [_, _]) rfl ?_
  refine g_aload_n (n := 1) dX5_restore_0 rfl rfl ?_
  refine g_get (n := 4) fl_X5_26 dX5_restore_1 rfl rfl rfl ?_
  refine g_if_gt (tgt := 9) (n := 7) dX5_restore_4 (by decide) rfl (fun c4 => ?_) (fun c4 => absurd (nI_lt0 h0 (by omega)) c4)
  refine g_aload_n (n := 10) dX5_restore_9 rfl rfl ?_
  refine g_aload_n (n := 11) dX5_restore_10 rfl rfl ?_
  refine g_get (n := 14) fl_X5_18 dX5_restore_11 rfl rfl rfl ?_
  refine g_bipush (v := nI 8) (n := 16) dX5_restore_14 (by decide) rfl ?_
  refine g_iaddN (n := 17) dX5_restore_16 rfl ?_
  refine g_iconst (v := nI 1) (n := 18) dX5_restore_17 (by decide) rfl ?_
  refine g_isubN (n := 19) dX5_restore_18 rfl (by decide) ?_
  refine g_bipush (v := nI 8) (n := 21) dX5_restore_19 (by decide) rfl ?_
  refine g_irem (n := 22) dX5_restore_21 (by decide) rfl ?_
  refine g_top (pk_rem (by decide) (by decide) (by decide)) ?_
  refine g_put (n := 25) pf_X5_18 dX5_restore_22 rfl (Nat.le_of_ble_eq_true rfl) (fun _ => rfl) (fun _ => rfl) rfl ?_
  refine g_wN (w' := [_, _, _, _, _, _, _, _, _, _, _, _, _, _, _, _, _, _, _, _, _, _, _, _, _, _, _, _, _, _, _, _, _, _, _, _, _, _]) rfl ?_
  refine g_aload_n (n := 26) dX5_restore_25 rfl rfl ?_
  refine g_dup (n := 27) dX5_restore_26 rfl rfl ?_
  refine g_get (n := 30) fl_X5_26 dX5_restore_27 rfl rfl rfl ?_
  refine g_iconst (v := nI 1) (n := 31) dX5_restore_30 (by decide) rfl ?_
  refine g_isubN (n := 32) dX5_restore_31 rfl h0 ?_
  refine g_put (n := 35) pf_X5_26 dX5_restore_32 rfl (Nat.le_of_ble_eq_true rfl) (fun _ => rfl) (fun _ => rfl) rfl ?_
  refine g_wN (w' := [_, _, _, _, _, _, _, _, _, _, _, _, _, _, _, _, _, _, _, _, _, _, _, _, _, _, _, _, _, _, _, _, _, _, _, _, _, _]) rfl ?_
  refine g_aload_n (n := 36) dX5_restore_35 rfl rfl ?_
  refine g_aload_n (n := 37) dX5_restore_36 rfl rfl ?_
  refine g_get (n := 40) fl_X5_11 dX5_restore_37 rfl rfl rfl ?_
  refine g_aload_n (n := 41) dX5_restore_40 rfl rfl ?_
  refine g_get (n := 44) fl_X5_18 dX5_restore_41 rfl rfl rfl ?_
  refine g_aaldN (n := 45) dX5_restore_44 rfl rfl (by decide) (by omega) rfl ?_
  refine g_cutVv (ps := [34, 35, 36, 37, 30, 31, 32, 33]) (w' := [_, _, _, _, _, _, _, _, _, _, _, _, _, _, _, _, _, _, _, _, _, _, _, _, _, _, _, _, _, _, _, _, _, _, _, _, _, _]) (n := 48) cv_X5_22 (t_X3_takeFrom l S (P 7) hS (hP 7)) dX5_restore_45 rfl rfl rfl ⟨by decide, by decide, rfl, rfl, Nat.zero_le _, Nat.zero_le _⟩ rfl rfl rfl (Nat.le_of_ble_eq_true rfl) rfl rfl rfl ?_
  refine g_iconst (v := nI 1) (n := 49) dX5_restore_48 (by decide) rfl ?_
  exact g_iret (ty := .boolean) dX5_restore_49 rfl (by first | exact bI_nar _ | decide) ⟨Nat.zero_le _, Nat.zero_le _⟩ ⟨rfl, rfl⟩
set_option maxRecDepth 20000 in
theorem t_X5_remember_1 (l : Launch) (sz : Nat) (hsz : sz ≤ 8) (P : Nat → ST) (hP : ∀ i, okZ (P i)) (S : ST) (hS : okZ S) : Fn l M_X5_remember [.ref 0, .ref 34] (rw_ (nI 1) (nI sz) P S) none (rw_ (nI ((1 + 1) % 8)) (nI (kpK sz)) (pu P 1 S) S) := by
  refine con_of rfl rfl (Nat.le_of_ble_eq_true rfl) ?_
  refine g_lsN (ls' := [_, _]) rfl ?_
  refine g_aload_n (n := 1) dX5_remember_0 rfl rfl ?_
  refine g_get (n := 4) fl_X5_11 dX5_remember_1 rfl rfl rfl ?_
  refine g_aload_n (n := 5) dX5_remember_4 rfl rfl ?_
  refine g_get (n := 8) fl_X5_18 dX5_remember_5 rfl rfl rfl ?_
  refine g_aaldN (n := 9) dX5_remember_8 rfl rfl (by decide) (by omega) rfl ?_
  refine g_aload_n (n := 10) dX5_remember_9 rfl rfl ?_
  refine g_cutVv (ps := [6, 7, 8, 9, 34, 35, 36, 37]) (w' := [_, _, _, _, _, _, _, _, _, _, _, _, _, _, _, _, _, _, _, _, _, _, _, _, _, _, _, _, _, _, _, _, _, _, _, _, _, _]) (n := 13) cv_X5_22 (t_X3_takeFrom l (P 1) S (hP 1) hS) dX5_remember_10 rfl rfl rfl ⟨by decide, by decide, rfl, rfl, Nat.zero_le _, Nat.zero_le _⟩ rfl rfl rfl (Nat.le_of_ble_eq_true rfl) rfl rfl rfl ?_
  refine g_aload_n (n := 14) dX5_remember_13 rfl rfl ?_
  refine g_aload_n (n := 15) dX5_remember_14 rfl rfl ?_
  refine g_get (n := 18) fl_X5_18 dX5_remember_15 rfl rfl rfl ?_
  refine g_iconst (v := nI 1) (n := 19) dX5_remember_18 (by decide) rfl ?_
  refine g_iaddN (n := 20) dX5_remember_19 rfl ?_
  refine g_bipush (v := nI 8) (n := 22) dX5_remember_20 (by decide) rfl ?_
  refine g_irem (n := 23) dX5_remember_22 (by decide) rfl ?_
  refine g_top (pk_rem (by decide) (by decide) (by decide)) ?_
  refine g_put (n := 26) pf_X5_18 dX5_remember_23 rfl (Nat.le_of_ble_eq_true rfl) (fun _ => rfl) (fun _ => rfl) rfl ?_
  refine g_wN (w' := [_, _, _, _, _, _, _, _, _, _, _, _, _, _, _, _, _, _, _, _, _, _, _, _, _, _, _, _, _, _, _, _, _, _, _, _, _, _]) rfl ?_
  refine g_aload_n (n := 27) dX5_remember_26 rfl rfl ?_
  refine g_aload_n (n := 28) dX5_remember_27 rfl rfl ?_
  refine g_get (n := 31) fl_X5_26 dX5_remember_28 rfl rfl rfl ?_
  refine g_iconst (v := nI 1) (n := 32) dX5_remember_31 (by decide) rfl ?_
  refine g_iaddN (n := 33) dX5_remember_32 rfl ?_
  refine g_bipush (v := nI 8) (n := 35) dX5_remember_33 (by decide) rfl ?_
  refine g_mmin (n := 38) dX5_remember_35 lk_X5_29 lw_min lw_math lc_min (by decide) (Nat.le_of_ble_eq_true rfl) ⟨Nat.zero_le _, Nat.zero_le _⟩ rfl ?_
  refine g_top (min8 hsz) ?_
  refine g_put (n := 41) pf_X5_26 dX5_remember_38 rfl (Nat.le_of_ble_eq_true rfl) (fun _ => rfl) (fun _ => rfl) rfl ?_
  refine g_wN (w' := [_, _, _, _, _, _, _, _, _, _, _, _, _, _, _, _, _, _, _, _, _, _, _, _, _, _, _, _, _, _, _, _, _, _, _, _, _, _]) rfl ?_
  exact g_vret dX5_remember_41 rfl ⟨Nat.zero_le _, Nat.zero_le _⟩ ⟨rfl, rfl⟩
set_option maxRecDepth 20000 in
theorem t_X5_restore_1 (l : Launch) (sz : Nat) (h0 : 0 < sz) (hsz : sz ≤ 8) (P : Nat → ST) (hP : ∀ i, okZ (P i)) (S : ST) (hS : okZ S) : Fn l M_X5_restore [.ref 0, .ref 34] (rw_ (nI 1) (nI sz) P S) (some (.int (nI 1))) (rw_ (nI ((1 + 7) % 8)) (nI (sz - 1)) P (P ((1 + 7) % 8))) := by
  refine con_of rfl rfl (Nat.le_of_ble_eq_true rfl) ?_
  refine g_lsN (ls' := [_, _]) rfl ?_
  refine g_aload_n (n := 1) dX5_restore_0 rfl rfl ?_
  refine g_get (n := 4) fl_X5_26 dX5_restore_1 rfl rfl rfl ?_
  refine g_if_gt (tgt := 9) (n := 7) dX5_restore_4 (by decide) rfl (fun c4 => ?_) (fun c4 => absurd (nI_lt0 h0 (by omega)) c4)
  refine g_aload_n (n := 10) dX5_restore_9 rfl rfl ?_
  refine g_aload_n (n := 11) dX5_restore_10 rfl rfl ?_
  refine g_get (n := 14) fl_X5_18 dX5_restore_11 rfl rfl rfl ?_
  refine g_bipush (v := nI 8) (n := 16) dX5_restore_14 (by decide) rfl ?_
  refine g_iaddN (n := 17) dX5_restore_16 rfl ?_
  refine g_iconst (v := nI 1) (n := 18) dX5_restore_17 (by decide) rfl ?_
  refine g_isubN (n := 19) dX5_restore_18 rfl (by decide) ?_
  refine g_bipush (v := nI 8) (n := 21) dX5_restore_19 (by decide) rfl ?_
  refine g_irem (n := 22) dX5_restore_21 (by decide) rfl ?_
  refine g_top (pk_rem (by decide) (by decide) (by decide)) ?_
  refine g_put (n := 25) pf_X5_18 dX5_restore_22 rfl (Nat.le_of_ble_eq_true rfl) (fun _ => rfl) (fun _ => rfl) rfl ?_
  refine g_wN (w' := [_, _, _, _, _, _, _, _, _, _, _, _, _, _, _, _, _, _, _, _, _, _, _, _, _, _, _, _, _, _, _, _, _, _, _, _, _, _]) rfl ?_
  refine g_aload_n (n := 26) dX5_restore_25 rfl rfl ?_
  refine g_dup (n := 27) dX5_restore_26 rfl rfl ?_
  refine g_get (n := 30) fl_X5_26 dX5_restore_27 rfl rfl rfl ?_
  refine g_iconst (v := nI 1) (n := 31) dX5_restore_30 (by decide) rfl ?_
  refine g_isubN (n := 32) dX5_restore_31 rfl h0 ?_
  refine g_put (n := 35) pf_X5_26 dX5_restore_32 rfl (Nat.le_of_ble_eq_true rfl) (fun _ => rfl) (fun _ => rfl) rfl ?_
  refine g_wN (w' := [_, _, _, _, _, _, _, _, _, _, _, _, _, _, _, _, _, _, _, _, _, _, _, _, _, _, _, _, _, _, _, _, _, _, _, _, _, _]) rfl ?_
  refine g_aload_n (n := 36) dX5_restore_35 rfl rfl ?_
  refine g_aload_n (n := 37) dX5_restore_36 rfl rfl ?_
  refine g_get (n := 40) fl_X5_11 dX5_restore_37 rfl rfl rfl ?_
  refine g_aload_n (n := 41) dX5_restore_40 rfl rfl ?_
  refine g_get (n := 44) fl_X5_18 dX5_restore_41 rfl rfl rfl ?_
  refine g_aaldN (n := 45) dX5_restore_44 rfl rfl (by decide) (by omega) rfl ?_
  refine g_cutVv (ps := [34, 35, 36, 37, 2, 3, 4, 5]) (w' := [_, _, _, _, _, _, _, _, _, _, _, _, _, _, _, _, _, _, _, _, _, _, _, _, _, _, _, _, _, _, _, _, _, _, _, _, _, _]) (n := 48) cv_X5_22 (t_X3_takeFrom l S (P 0) hS (hP 0)) dX5_restore_45 rfl rfl rfl ⟨by decide, by decide, rfl, rfl, Nat.zero_le _, Nat.zero_le _⟩ rfl rfl rfl (Nat.le_of_ble_eq_true rfl) rfl rfl rfl ?_
  refine g_iconst (v := nI 1) (n := 49) dX5_restore_48 (by decide) rfl ?_
  exact g_iret (ty := .boolean) dX5_restore_49 rfl (by first | exact bI_nar _ | decide) ⟨Nat.zero_le _, Nat.zero_le _⟩ ⟨rfl, rfl⟩
set_option maxRecDepth 20000 in
theorem t_X5_remember_2 (l : Launch) (sz : Nat) (hsz : sz ≤ 8) (P : Nat → ST) (hP : ∀ i, okZ (P i)) (S : ST) (hS : okZ S) : Fn l M_X5_remember [.ref 0, .ref 34] (rw_ (nI 2) (nI sz) P S) none (rw_ (nI ((2 + 1) % 8)) (nI (kpK sz)) (pu P 2 S) S) := by
  refine con_of rfl rfl (Nat.le_of_ble_eq_true rfl) ?_
  refine g_lsN (ls' := [_, _]) rfl ?_
  refine g_aload_n (n := 1) dX5_remember_0 rfl rfl ?_
  refine g_get (n := 4) fl_X5_11 dX5_remember_1 rfl rfl rfl ?_
  refine g_aload_n (n := 5) dX5_remember_4 rfl rfl ?_
  refine g_get (n := 8) fl_X5_18 dX5_remember_5 rfl rfl rfl ?_
  refine g_aaldN (n := 9) dX5_remember_8 rfl rfl (by decide) (by omega) rfl ?_
  refine g_aload_n (n := 10) dX5_remember_9 rfl rfl ?_
  refine g_cutVv (ps := [10, 11, 12, 13, 34, 35, 36, 37]) (w' := [_, _, _, _, _, _, _, _, _, _, _, _, _, _, _, _, _, _, _, _, _, _, _, _, _, _, _, _, _, _, _, _, _, _, _, _, _, _]) (n := 13) cv_X5_22 (t_X3_takeFrom l (P 2) S (hP 2) hS) dX5_remember_10 rfl rfl rfl ⟨by decide, by decide, rfl, rfl, Nat.zero_le _, Nat.zero_le _⟩ rfl rfl rfl (Nat.le_of_ble_eq_true rfl) rfl rfl rfl ?_
  refine g_aload_n (n := 14) dX5_remember_13 rfl rfl ?_
  refine g_aload_n (n := 15) dX5_remember_14 rfl rfl ?_
  refine g_get (n := 18) fl_X5_18 dX5_remember_15 rfl rfl rfl ?_
  refine g_iconst (v := nI 1) (n := 19) dX5_remember_18 (by decide) rfl ?_
  refine g_iaddN (n := 20) dX5_remember_19 rfl ?_
  refine g_bipush (v := nI 8) (n := 22) dX5_remember_20 (by decide) rfl ?_
  refine g_irem (n := 23) dX5_remember_22 (by decide) rfl ?_
  refine g_top (pk_rem (by decide) (by decide) (by decide)) ?_
  refine g_put (n := 26) pf_X5_18 dX5_remember_23 rfl (Nat.le_of_ble_eq_true rfl) (fun _ => rfl) (fun _ => rfl) rfl ?_
  refine g_wN (w' := [_, _, _, _, _, _, _, _, _, _, _, _, _, _, _, _, _, _, _, _, _, _, _, _, _, _, _, _, _, _, _, _, _, _, _, _, _, _]) rfl ?_
  refine g_aload_n (n := 27) dX5_remember_26 rfl rfl ?_
  refine g_aload_n (n := 28) dX5_remember_27 rfl rfl ?_
  refine g_get (n := 31) fl_X5_26 dX5_remember_28 rfl rfl rfl ?_
  refine g_iconst (v := nI 1) (n := 32) dX5_remember_31 (by decide) rfl ?_
  refine g_iaddN (n := 33) dX5_remember_32 rfl ?_
  refine g_bipush (v := nI 8) (n := 35) dX5_remember_33 (by decide) rfl ?_
  refine g_mmin (n := 38) dX5_remember_35 lk_X5_29 lw_min lw_math lc_min (by decide) (Nat.le_of_ble_eq_true rfl) ⟨Nat.zero_le _, Nat.zero_le _⟩ rfl ?_
  refine g_top (min8 hsz) ?_
  refine g_put (n := 41) pf_X5_26 dX5_remember_38 rfl (Nat.le_of_ble_eq_true rfl) (fun _ => rfl) (fun _ => rfl) rfl ?_
  refine g_wN (w' := [_, _, _, _, _, _, _, _, _, _, _, _, _, _, _, _, _, _, _, _, _, _, _, _, _, _, _, _, _, _, _, _, _, _, _, _, _, _]) rfl ?_
  exact g_vret dX5_remember_41 rfl ⟨Nat.zero_le _, Nat.zero_le _⟩ ⟨rfl, rfl⟩
set_option maxRecDepth 20000 in
theorem t_X5_restore_2 (l : Launch) (sz : Nat) (h0 : 0 < sz) (hsz : sz ≤ 8) (P : Nat → ST) (hP : ∀ i, okZ (P i)) (S : ST) (hS : okZ S) : Fn l M_X5_restore [.ref 0, .ref 34] (rw_ (nI 2) (nI sz) P S) (some (.int (nI 1))) (rw_ (nI ((2 + 7) % 8)) (nI (sz - 1)) P (P ((2 + 7) % 8))) := by
  refine con_of rfl rfl (Nat.le_of_ble_eq_true rfl) ?_
  refine g_lsN (ls' := [_, _]) rfl ?_
  refine g_aload_n (n := 1) dX5_restore_0 rfl rfl ?_
  refine g_get (n := 4) fl_X5_26 dX5_restore_1 rfl rfl rfl ?_
  refine g_if_gt (tgt := 9) (n := 7) dX5_restore_4 (by decide) rfl (fun c4 => ?_) (fun c4 => absurd (nI_lt0 h0 (by omega)) c4)
  refine g_aload_n (n := 10) dX5_restore_9 rfl rfl ?_
  refine g_aload_n (n := 11) dX5_restore_10 rfl rfl ?_
  refine g_get (n := 14) fl_X5_18 dX5_restore_11 rfl rfl rfl ?_
  refine g_bipush (v := nI 8) (n := 16) dX5_restore_14 (by decide) rfl ?_
  refine g_iaddN (n := 17) dX5_restore_16 rfl ?_
  refine g_iconst (v := nI 1) (n := 18) dX5_restore_17 (by decide) rfl ?_
  refine g_isubN (n := 19) dX5_restore_18 rfl (by decide) ?_
  refine g_bipush (v := nI 8) (n := 21) dX5_restore_19 (by decide) rfl ?_
  refine g_irem (n := 22) dX5_restore_21 (by decide) rfl ?_
  refine g_top (pk_rem (by decide) (by decide) (by decide)) ?_
  refine g_put (n := 25) pf_X5_18 dX5_restore_22 rfl (Nat.le_of_ble_eq_true rfl) (fun _ => rfl) (fun _ => rfl) rfl ?_
  refine g_wN (w' := [_, _, _, _, _, _, _, _, _, _, _, _, _, _, _, _, _, _, _, _, _, _, _, _, _, _, _, _, _, _, _, _, _, _, _, _, _, _]) rfl ?_
  refine g_aload_n (n := 26) dX5_restore_25 rfl rfl ?_
  refine g_dup (n := 27) dX5_restore_26 rfl rfl ?_
  refine g_get (n := 30) fl_X5_26 dX5_restore_27 rfl rfl rfl ?_
  refine g_iconst (v := nI 1) (n := 31) dX5_restore_30 (by decide) rfl ?_
  refine g_isubN (n := 32) dX5_restore_31 rfl h0 ?_
  refine g_put (n := 35) pf_X5_26 dX5_restore_32 rfl (Nat.le_of_ble_eq_true rfl) (fun _ => rfl) (fun _ => rfl) rfl ?_
  refine g_wN (w' := [_, _, _, _, _, _, _, _, _, _, _, _, _, _, _, _, _, _, _, _, _, _, _, _, _, _, _, _, _, _, _, _, _, _, _, _, _, _]) rfl ?_
  refine g_aload_n (n := 36) dX5_restore_35 rfl rfl ?_
  refine g_aload_n (n := 37) dX5_restore_36 rfl rfl ?_
  refine g_get (n := 40) fl_X5_11 dX5_restore_37 rfl rfl rfl ?_
  refine g_aload_n (n := 41) dX5_restore_40 rfl rfl ?_
  refine g_get (n := 44) fl_X5_18 dX5_restore_41 rfl rfl rfl ?_
  refine g_aaldN (n := 45) dX5_restore_44 rfl rfl (by decide) (by omega) rfl ?_
  refine g_cutVv (ps := [34, 35, 36, 37, 6, 7, 8, 9]) (w' := [_, _, _, _, _, _, _, _, _, _, _, _, _, _, _, _, _, _, _, _, _, _, _, _, _, _, _, _, _, _, _, _, _, _, _, _, _, _]) (n := 48) cv_X5_22 (t_X3_takeFrom l S (P 1) hS (hP 1)) dX5_restore_45 rfl rfl rfl ⟨by decide, by decide, rfl, rfl, Nat.zero_le _, Nat.zero_le _⟩ rfl rfl rfl (Nat.le_of_ble_eq_true rfl) rfl rfl rfl ?_
  refine g_iconst (v := nI 1) (n := 49) dX5_restore_48 (by decide) rfl ?_
  exact g_iret (ty := .boolean) dX5_restore_49 rfl (by first | exact bI_nar _ | decide) ⟨Nat.zero_le _, Nat.zero_le _⟩ ⟨rfl, rfl⟩
set_option maxRecDepth 20000 in
theorem t_X5_remember_3 (l : Launch) (sz : Nat) (hsz : sz ≤ 8) (P : Nat → ST) (hP : ∀ i, okZ (P i)) (S : ST) (hS : okZ S) : Fn l M_X5_remember [.ref 0, .ref 34] (rw_ (nI 3) (nI sz) P S) none (rw_ (nI ((3 + 1) % 8)) (nI (kpK sz)) (pu P 3 S) S) := by
  refine con_of rfl rfl (Nat.le_of_ble_eq_true rfl) ?_
  refine g_lsN (ls' := [_, _]) rfl ?_
  refine g_aload_n (n := 1) dX5_remember_0 rfl rfl ?_
  refine g_get (n := 4) fl_X5_11 dX5_remember_1 rfl rfl rfl ?_
  refine g_aload_n (n := 5) dX5_remember_4 rfl rfl ?_
  refine g_get (n := 8) fl_X5_18 dX5_remember_5 rfl rfl rfl ?_
  refine g_aaldN (n := 9) dX5_remember_8 rfl rfl (by decide) (by omega) rfl ?_
  refine g_aload_n (n := 10) dX5_remember_9 rfl rfl ?_
  refine g_cutVv (ps := [14, 15, 16, 17, 34, 35, 36, 37]) (w' := [_, _, _, _, _, _, _, _, _, _, _, _, _, _, _, _, _, _, _, _, _, _, _, _, _, _, _, _, _, _, _, _, _, _, _, _, _, _]) (n := 13) cv_X5_22 (t_X3_takeFrom l (P 3) S (hP 3) hS) dX5_remember_10 rfl rfl rfl ⟨by decide, by decide, rfl, rfl, Nat.zero_le _, Nat.zero_le _⟩ rfl rfl rfl (Nat.le_of_ble_eq_true rfl) rfl rfl rfl ?_
  refine g_aload_n (n := 14) dX5_remember_13 rfl rfl ?_
  refine g_aload_n (n := 15) dX5_remember_14 rfl rfl ?_
  refine g_get (n := 18) fl_X5_18 dX5_remember_15 rfl rfl rfl ?_
  refine g_iconst (v := nI 1) (n := 19) dX5_remember_18 (by decide) rfl ?_
  refine g_iaddN (n := 20) dX5_remember_19 rfl ?_
  refine g_bipush (v := nI 8) (n := 22) dX5_remember_20 (by decide) rfl ?_
  refine g_irem (n := 23) dX5_remember_22 (by decide) rfl ?_
  refine g_top (pk_rem (by decide) (by decide) (by decide)) ?_
  refine g_put (n := 26) pf_X5_18 dX5_remember_23 rfl (Nat.le_of_ble_eq_true rfl) (fun _ => rfl) (fun _ => rfl) rfl ?_
  refine g_wN (w' := [_, _, _, _, _, _, _, _, _, _, _, _, _, _, _, _, _, _, _, _, _, _, _, _, _, _, _, _, _, _, _, _, _, _, _, _, _, _]) rfl ?_
  refine g_aload_n (n := 27) dX5_remember_26 rfl rfl ?_
  refine g_aload_n (n := 28) dX5_remember_27 rfl rfl ?_
  refine g_get (n := 31) fl_X5_26 dX5_remember_28 rfl rfl rfl ?_
  refine g_iconst (v := nI 1) (n := 32) dX5_remember_31 (by decide) rfl ?_
  refine g_iaddN (n := 33) dX5_remember_32 rfl ?_
  refine g_bipush (v := nI 8) (n := 35) dX5_remember_33 (by decide) rfl ?_
  refine g_mmin (n := 38) dX5_remember_35 lk_X5_29 lw_min lw_math lc_min (by decide) (Nat.le_of_ble_eq_true rfl) ⟨Nat.zero_le _, Nat.zero_le _⟩ rfl ?_
  refine g_top (min8 hsz) ?_
  refine g_put (n := 41) pf_X5_26 dX5_remember_38 rfl (Nat.le_of_ble_eq_true rfl) (fun _ => rfl) (fun _ => rfl) rfl ?_
  refine g_wN (w' := [_, _, _, _, _, _, _, _, _, _, _, _, _, _, _, _, _, _, _, _, _, _, _, _, _, _, _, _, _, _, _, _, _, _, _, _, _, _]) rfl ?_
  exact g_vret dX5_remember_41 rfl ⟨Nat.zero_le _, Nat.zero_le _⟩ ⟨rfl, rfl⟩
set_option maxRecDepth 20000 in
theorem t_X5_restore_3 (l : Launch) (sz : Nat) (h0 : 0 < sz) (hsz : sz ≤ 8) (P : Nat → ST) (hP : ∀ i, okZ (P i)) (S : ST) (hS : okZ S) : Fn l M_X5_restore [.ref 0, .ref 34] (rw_ (nI 3) (nI sz) P S) (some (.int (nI 1))) (rw_ (nI ((3 + 7) % 8)) (nI (sz - 1)) P (P ((3 + 7) % 8))) := by
  refine con_of rfl rfl (Nat.le_of_ble_eq_true rfl) ?_
  refine g_lsN (ls' := [_, _]) rfl ?_
  refine g_aload_n (n := 1) dX5_restore_0 rfl rfl ?_
  refine g_get (n := 4) fl_X5_26 dX5_restore_1 rfl rfl rfl ?_
  refine g_if_gt (tgt := 9) (n := 7) dX5_restore_4 (by decide) rfl (fun c4 => ?_) (fun c4 => absurd (nI_lt0 h0 (by omega)) c4)
  refine g_aload_n (n := 10) dX5_restore_9 rfl rfl ?_
  refine g_aload_n (n := 11) dX5_restore_10 rfl rfl ?_
  refine g_get (n := 14) fl_X5_18 dX5_restore_11 rfl rfl rfl ?_
  refine g_bipush (v := nI 8) (n := 16) dX5_restore_14 (by decide) rfl ?_
  refine g_iaddN (n := 17) dX5_restore_16 rfl ?_
  refine g_iconst (v := nI 1) (n := 18) dX5_restore_17 (by decide) rfl ?_
  refine g_isubN (n := 19) dX5_restore_18 rfl (by decide) ?_
  refine g_bipush (v := nI 8) (n := 21) dX5_restore_19 (by decide) rfl ?_
  refine g_irem (n := 22) dX5_restore_21 (by decide) rfl ?_
  refine g_top (pk_rem (by decide) (by decide) (by decide)) ?_
  refine g_put (n := 25) pf_X5_18 dX5_restore_22 rfl (Nat.le_of_ble_eq_true rfl) (fun _ => rfl) (fun _ => rfl) rfl ?_
  refine g_wN (w' := [_, _, _, _, _, _, _, _, _, _, _, _, _, _, _, _, _, _, _, _, _, _, _, _, _, _, _, _, _, _, _, _, _, _, _, _, _, _]) rfl ?_
  refine g_aload_n (n := 26) dX5_restore_25 rfl rfl ?_
  refine g_dup (n := 27) dX5_restore_26 rfl rfl ?_
  refine g_get (n := 30) fl_X5_26 dX5_restore_27 rfl rfl rfl ?_
  refine g_iconst (v := nI 1) (n := 31) dX5_restore_30 (by decide) rfl ?_
  refine g_isubN (n := 32) dX5_restore_31 rfl h0 ?_
  refine g_put (n := 35) pf_X5_26 dX5_restore_32 rfl (Nat.le_of_ble_eq_true rfl) (fun _ => rfl) (fun _ => rfl) rfl ?_
  refine g_wN (w' := [_, _, _, _, _, _, _, _, _, _, _, _, _, _, _, _, _, _, _, _, _, _, _, _, _, _, _, _, _, _, _, _, _, _, _, _, _, _]) rfl ?_
  refine g_aload_n (n := 36) dX5_restore_35 rfl rfl ?_
  refine g_aload_n (n := 37) dX5_restore_36 rfl rfl ?_
  refine g_get (n := 40) fl_X5_11 dX5_restore_37 rfl rfl rfl ?_
  refine g_aload_n (n := 41) dX5_restore_40 rfl rfl ?_
  refine g_get (n := 44) fl_X5_18 dX5_restore_41 rfl rfl rfl ?_
  refine g_aaldN (n := 45) dX5_restore_44 rfl rfl (by decide) (by omega) rfl ?_
  refine g_cutVv (ps := [34, 35, 36, 37, 10, 11, 12, 13]) (w' := [_, _, _, _, _, _, _, _, _, _, _, _, _, _, _, _, _, _, _, _, _, _, _, _, _, _, _, _, _, _, _, _, _, _, _, _, _, _]) (n := 48) cv_X5_22 (t_X3_takeFrom l S (P 2) hS (hP 2)) dX5_restore_45 rfl rfl rfl ⟨by decide, by decide, rfl, rfl, Nat.zero_le _, Nat.zero_le _⟩ rfl rfl rfl (Nat.le_of_ble_eq_true rfl) rfl rfl rfl ?_
  refine g_iconst (v := nI 1) (n := 49) dX5_restore_48 (by decide) rfl ?_
  exact g_iret (ty := .boolean) dX5_restore_49 rfl (by first | exact bI_nar _ | decide) ⟨Nat.zero_le _, Nat.zero_le _⟩ ⟨rfl, rfl⟩
set_option maxRecDepth 20000 in
theorem t_X5_remember_4 (l : Launch) (sz : Nat) (hsz : sz ≤ 8) (P : Nat → ST) (hP : ∀ i, okZ (P i)) (S : ST) (hS : okZ S) : Fn l M_X5_remember [.ref 0, .ref 34] (rw_ (nI 4) (nI sz) P S) none (rw_ (nI ((4 + 1) % 8)) (nI (kpK sz)) (pu P 4 S) S) := by
  refine con_of rfl rfl (Nat.le_of_ble_eq_true rfl) ?_
  refine g_lsN (ls' := [_, _]) rfl ?_
  refine g_aload_n (n := 1) dX5_remember_0 rfl rfl ?_
  refine g_get (n := 4) fl_X5_11 dX5_remember_1 rfl rfl rfl ?_
  refine g_aload_n (n := 5) dX5_remember_4 rfl rfl ?_
  refine g_get (n := 8) fl_X5_18 dX5_remember_5 rfl rfl rfl ?_
  refine g_aaldN (n := 9) dX5_remember_8 rfl rfl (by decide) (by omega) rfl ?_
  refine g_aload_n (n := 10) dX5_remember_9 rfl rfl ?_
  refine g_cutVv (ps := [18, 19, 20, 21, 34, 35, 36, 37]) (w' := [_, _, _, _, _, _, _, _, _, _, _, _, _, _, _, _, _, _, _, _, _, _, _, _, _, _, _, _, _, _, _, _, _, _, _, _, _, _]) (n := 13) cv_X5_22 (t_X3_takeFrom l (P 4) S (hP 4) hS) dX5_remember_10 rfl rfl rfl ⟨by decide, by decide, rfl, rfl, Nat.zero_le _, Nat.zero_le _⟩ rfl rfl rfl (Nat.le_of_ble_eq_true rfl) rfl rfl rfl ?_
  refine g_aload_n (n := 14) dX5_remember_13 rfl rfl ?_
  refine g_aload_n (n := 15) dX5_remember_14 rfl rfl ?_
  refine g_get (n := 18) fl_X5_18 dX5_remember_15 rfl rfl rfl ?_
  refine g_iconst (v := nI 1) (n := 19) dX5_remember_18 (by decide) rfl ?_
  refine g_iaddN (n := 20) dX5_remember_19 rfl ?_
  refine g_bipush (v := nI 8) (n := 22) dX5_remember_20 (by decide) rfl ?_
  refine g_irem (n := 23) dX5_remember_22 (by decide) rfl ?_
  refine g_top (pk_rem (by decide) (by decide) (by decide)) ?_
  refine g_put (n := 26) pf_X5_18 dX5_remember_23 rfl (Nat.le_of_ble_eq_true rfl) (fun _ => rfl) (fun _ => rfl) rfl ?_
  refine g_wN (w' := [_, _, _, _, _, _, _, _, _, _, _, _, _, _, _, _, _, _, _, _, _, _, _, _, _, _, _, _, _, _, _, _, _, _, _, _, _, _]) rfl ?_
  refine g_aload_n (n := 27) dX5_remember_26 rfl rfl ?_
  refine g_aload_n (n := 28) dX5_remember_27 rfl rfl ?_
  refine g_get (n := 31) fl_X5_26 dX5_remember_28 rfl rfl rfl ?_
  refine g_iconst (v := nI 1) (n := 32) dX5_remember_31 (by decide) rfl ?_
  refine g_iaddN (n := 33) dX5_remember_32 rfl ?_
  refine g_bipush (v := nI 8) (n := 35) dX5_remember_33 (by decide) rfl ?_
  refine g_mmin (n := 38) dX5_remember_35 lk_X5_29 lw_min lw_math lc_min (by decide) (Nat.le_of_ble_eq_true rfl) ⟨Nat.zero_le _, Nat.zero_le _⟩ rfl ?_
  refine g_top (min8 hsz) ?_
  refine g_put (n := 41) pf_X5_26 dX5_remember_38 rfl (Nat.le_of_ble_eq_true rfl) (fun _ => rfl) (fun _ => rfl) rfl ?_
  refine g_wN (w' := [_, _, _, _, _, _, _, _, _, _, _, _, _, _, _, _, _, _, _, _, _, _, _, _, _, _, _, _, _, _, _, _, _, _, _, _, _, _]) rfl ?_
  exact g_vret dX5_remember_41 rfl ⟨Nat.zero_le _, Nat.zero_le _⟩ ⟨rfl, rfl⟩
set_option maxRecDepth 20000 in
theorem t_X5_restore_4 (l : Launch) (sz : Nat) (h0 : 0 < sz) (hsz : sz ≤ 8) (P : Nat → ST) (hP : ∀ i, okZ (P i)) (S : ST) (hS : okZ S) : Fn l M_X5_restore [.ref 0, .ref 34] (rw_ (nI 4) (nI sz) P S) (some (.int (nI 1))) (rw_ (nI ((4 + 7) % 8)) (nI (sz - 1)) P (P ((4 + 7) % 8))) := by
  refine con_of rfl rfl (Nat.le_of_ble_eq_true rfl) ?_
  refine g_lsN (ls' := [_, _]) rfl ?_
  refine g_aload_n (n := 1) dX5_restore_0 rfl rfl ?_
  refine g_get (n := 4) fl_X5_26 dX5_restore_1 rfl rfl rfl ?_
  refine g_if_gt (tgt := 9) (n := 7) dX5_restore_4 (by decide) rfl (fun c4 => ?_) (fun c4 => absurd (nI_lt0 h0 (by omega)) c4)
  refine g_aload_n (n := 10) dX5_restore_9 rfl rfl ?_
  refine g_aload_n (n := 11) dX5_restore_10 rfl rfl ?_
  refine g_get (n := 14) fl_X5_18 dX5_restore_11 rfl rfl rfl ?_
  refine g_bipush (v := nI 8) (n := 16) dX5_restore_14 (by decide) rfl ?_
  refine g_iaddN (n := 17) dX5_restore_16 rfl ?_
  refine g_iconst (v := nI 1) (n := 18) dX5_restore_17 (by decide) rfl ?_
  refine g_isubN (n := 19) dX5_restore_18 rfl (by decide) ?_
  refine g_bipush (v := nI 8) (n := 21) dX5_restore_19 (by decide) rfl ?_
  refine g_irem (n := 22) dX5_restore_21 (by decide) rfl ?_
  refine g_top (pk_rem (by decide) (by decide) (by decide)) ?_
  refine g_put (n := 25) pf_X5_18 dX5_restore_22 rfl (Nat.le_of_ble_eq_true rfl) (fun _ => rfl) (fun _ => rfl) rfl ?_
  refine g_wN (w' := [_, _, _, _, _, _, _, _, _, _, _, _, _, _, _, _, _, _, _, _, _, _, _, _, _, _, _, _, _, _, _, _, _, _, _, _, _, _]) rfl ?_
  refine g_aload_n (n := 26) dX5_restore_25 rfl rfl ?_
  refine g_dup (n := 27) dX5_restore_26 rfl rfl ?_
  refine g_get (n := 30) fl_X5_26 dX5_restore_27 rfl rfl rfl ?_
  refine g_iconst (v := nI 1) (n := 31) dX5_restore_30 (by decide) rfl ?_
  refine g_isubN (n := 32) dX5_restore_31 rfl h0 ?_
  refine g_put (n := 35) pf_X5_26 dX5_restore_32 rfl (Nat.le_of_ble_eq_true rfl) (fun _ => rfl) (fun _ => rfl) rfl ?_
  refine g_wN (w' := [_, _, _, _, _, _, _, _, _, _, _, _, _, _, _, _, _, _, _, _, _, _, _, _, _, _, _, _, _, _, _, _, _, _, _, _, _, _]) rfl ?_
  refine g_aload_n (n := 36) dX5_restore_35 rfl rfl ?_
  refine g_aload_n (n := 37) dX5_restore_36 rfl rfl ?_
  refine g_get (n := 40) fl_X5_11 dX5_restore_37 rfl rfl rfl ?_
  refine g_aload_n (n := 41) dX5_restore_40 rfl rfl ?_
  refine g_get (n := 44) fl_X5_18 dX5_restore_41 rfl rfl rfl ?_
  refine g_aaldN (n := 45) dX5_restore_44 rfl rfl (by decide) (by omega) rfl ?_
  refine g_cutVv (ps := [34, 35, 36, 37, 14, 15, 16, 17]) (w' := [_, _, _, _, _, _, _, _, _, _, _, _, _, _, _, _, _, _, _, _, _, _, _, _, _, _, _, _, _, _, _, _, _, _, _, _, _, _]) (n := 48) cv_X5_22 (t_X3_takeFrom l S (P 3) hS (hP 3)) dX5_restore_45 rfl rfl rfl ⟨by decide, by decide, rfl, rfl, Nat.zero_le _, Nat.zero_le _⟩ rfl rfl rfl (Nat.le_of_ble_eq_true rfl) rfl rfl rfl ?_
  refine g_iconst (v := nI 1) (n := 49) dX5_restore_48 (by decide) rfl ?_
  exact g_iret (ty := .boolean) dX5_restore_49 rfl (by first | exact bI_nar _ | decide) ⟨Nat.zero_le _, Nat.zero_le _⟩ ⟨rfl, rfl⟩
set_option maxRecDepth 20000 in
theorem t_X5_remember_5 (l : Launch) (sz : Nat) (hsz : sz ≤ 8) (P : Nat → ST) (hP : ∀ i, okZ (P i)) (S : ST) (hS : okZ S) : Fn l M_X5_remember [.ref 0, .ref 34] (rw_ (nI 5) (nI sz) P S) none (rw_ (nI ((5 + 1) % 8)) (nI (kpK sz)) (pu P 5 S) S) := by
  refine con_of rfl rfl (Nat.le_of_ble_eq_true rfl) ?_
  refine g_lsN (ls' := [_, _]) rfl ?_
  refine g_aload_n (n := 1) dX5_remember_0 rfl rfl ?_
  refine g_get (n := 4) fl_X5_11 dX5_remember_1 rfl rfl rfl ?_
  refine g_aload_n (n := 5) dX5_remember_4 rfl rfl ?_
  refine g_get (n := 8) fl_X5_18 dX5_remember_5 rfl rfl rfl ?_
  refine g_aaldN (n := 9) dX5_remember_8 rfl rfl (by decide) (by omega) rfl ?_
  refine g_aload_n (n := 10) dX5_remember_9 rfl rfl ?_
  refine g_cutVv (ps := [22, 23, 24, 25, 34, 35, 36, 37]) (w' := [_, _, _, _, _, _, _, _, _, _, _, _, _, _, _, _, _, _, _, _, _, _, _, _, _, _, _, _, _, _, _, _, _, _, _, _, _, _]) (n := 13) cv_X5_22 (t_X3_takeFrom l (P 5) S (hP 5) hS) dX5_remember_10 rfl rfl rfl ⟨by decide, by decide, rfl, rfl, Nat.zero_le _, Nat.zero_le _⟩ rfl rfl rfl (Nat.le_of_ble_eq_true rfl) rfl rfl rfl ?_
  refine g_aload_n (n := 14) dX5_remember_13 rfl rfl ?_
  refine g_aload_n (n := 15) dX5_remember_14 rfl rfl ?_
  refine g_get (n := 18) fl_X5_18 dX5_remember_15 rfl rfl rfl ?_
  refine g_iconst (v := nI 1) (n := 19) dX5_remember_18 (by decide) rfl ?_
  refine g_iaddN (n := 20) dX5_remember_19 rfl ?_
  refine g_bipush (v := nI 8) (n := 22) dX5_remember_20 (by decide) rfl ?_
  refine g_irem (n := 23) dX5_remember_22 (by decide) rfl ?_
  refine g_top (pk_rem (by decide) (by decide) (by decide)) ?_
  refine g_put (n := 26) pf_X5_18 dX5_remember_23 rfl (Nat.le_of_ble_eq_true rfl) (fun _ => rfl) (fun _ => rfl) rfl ?_
  refine g_wN (w' := [_, _, _, _, _, _, _, _, _, _, _, _, _, _, _, _, _, _, _, _, _, _, _, _, _, _, _, _, _, _, _, _, _, _, _, _, _, _]) rfl ?_
  refine g_aload_n (n := 27) dX5_remember_26 rfl rfl ?_
  refine g_aload_n (n := 28) dX5_remember_27 rfl rfl ?_
  refine g_get (n := 31) fl_X5_26 dX5_remember_28 rfl rfl rfl ?_
  refine g_iconst (v := nI 1) (n := 32) dX5_remember_31 (by decide) rfl ?_
  refine g_iaddN (n := 33) dX5_remember_32 rfl ?_
  refine g_bipush (v := nI 8) (n := 35) dX5_remember_33 (by decide) rfl ?_
  refine g_mmin (n := 38) dX5_remember_35 lk_X5_29 lw_min lw_math lc_min (by decide) (Nat.le_of_ble_eq_true rfl) ⟨Nat.zero_le _, Nat.zero_le _⟩ rfl ?_
  refine g_top (min8 hsz) ?_
  refine g_put (n := 41) pf_X5_26 dX5_remember_38 rfl (Nat.le_of_ble_eq_true rfl) (fun _ => rfl) (fun _ => rfl) rfl ?_
  refine g_wN (w' := [_, _, _, _, _, _, _, _, _, _, _, _, _, _, _, _, _, _, _, _, _, _, _, _, _, _, _, _, _, _, _, _, _, _, _, _, _, _]) rfl ?_
  exact g_vret dX5_remember_41 rfl ⟨Nat.zero_le _, Nat.zero_le _⟩ ⟨rfl, rfl⟩
set_option maxRecDepth 20000 in
theorem t_X5_restore_5 (l : Launch) (sz : Nat) (h0 : 0 < sz) (hsz : sz ≤ 8) (P : Nat → ST) (hP : ∀ i, okZ (P i)) (S : ST) (hS : okZ S) : Fn l M_X5_restore [.ref 0, .ref 34] (rw_ (nI 5) (nI sz) P S) (some (.int (nI 1))) (rw_ (nI ((5 + 7) % 8)) (nI (sz - 1)) P (P ((5 + 7) % 8))) := by
  refine con_of rfl rfl (Nat.le_of_ble_eq_true rfl) ?_
  refine g_lsN (ls' := [_, _]) rfl ?_
  refine g_aload_n (n := 1) dX5_restore_0 rfl rfl ?_
  refine g_get (n := 4) fl_X5_26 dX5_restore_1 rfl rfl rfl ?_
  refine g_if_gt (tgt := 9) (n := 7) dX5_restore_4 (by decide) rfl (fun c4 => ?_) (fun c4 => absurd (nI_lt0 h0 (by omega)) c4)
  refine g_aload_n (n := 10) dX5_restore_9 rfl rfl ?_
  refine g_aload_n (n := 11) dX5_restore_10 rfl rfl ?_
  refine g_get (n := 14) fl_X5_18 dX5_restore_11 rfl rfl rfl ?_
  refine g_bipush (v := nI 8) (n := 16) dX5_restore_14 (by decide) rfl ?_
  refine g_iaddN (n := 17) dX5_restore_16 rfl ?_
  refine g_iconst (v := nI 1) (n := 18) dX5_restore_17 (by decide) rfl ?_
  refine g_isubN (n := 19) dX5_restore_18 rfl (by decide) ?_
  refine g_bipush (v := nI 8) (n := 21) dX5_restore_19 (by decide) rfl ?_
  refine g_irem (n := 22) dX5_restore_21 (by decide) rfl ?_
  refine g_top (pk_rem (by decide) (by decide) (by decide)) ?_
  refine g_put (n := 25) pf_X5_18 dX5_restore_22 rfl (Nat.le_of_ble_eq_true rfl) (fun _ => rfl) (fun _ => rfl) rfl ?_
  refine g_wN (w' := [_, _, _, _, _, _, _, _, _, _, _, _, _, _, _, _, _, _, _, _, _, _, _, _, _, _, _, _, _, _, _, _, _, _, _, _, _, _]) rfl ?_
  refine g_aload_n (n := 26) dX5_restore_25 rfl rfl ?_
  refine g_dup (n := 27) dX5_restore_26 rfl rfl ?_
  refine g_get (n := 30) fl_X5_26 dX5_restore_27 rfl rfl rfl ?_
  refine g_iconst (v := nI 1) (n := 31) dX5_restore_30 (by decide) rfl ?_
  refine g_isubN (n := 32) dX5_restore_31 rfl h0 ?_
  refine g_put (n := 35) pf_X5_26 dX5_restore_32 rfl (Nat.le_of_ble_eq_true rfl) (fun _ => rfl) (fun _ => rfl) rfl ?_
  refine g_wN (w' := [_, _, _, _, _, _, _, _, _, _, _, _, _, _, _, _, _, _, _, _, _, _, _, _, _, _, _, _, _, _, _, _, _, _, _, _, _, _]) rfl ?_
  refine g_aload_n (n := 36) dX5_restore_35 rfl rfl ?_
  refine g_aload_n (n := 37) dX5_restore_36 rfl rfl ?_
  refine g_get (n := 40) fl_X5_11 dX5_restore_37 rfl rfl rfl ?_
  refine g_aload_n (n := 41) dX5_restore_40 rfl rfl ?_
  refine g_get (n := 44) fl_X5_18 dX5_restore_41 rfl rfl rfl ?_
  refine g_aaldN (n := 45) dX5_restore_44 rfl rfl (by decide) (by omega) rfl ?_
  refine g_cutVv (ps := [34, 35, 36, 37, 18, 19, 20, 21]) (w' := [_, _, _, _, _, _, _, _, _, _, _, _, _, _, _, _, _, _, _, _, _, _, _, _, _, _, _, _, _, _, _, _, _, _, _, _, _, _]) (n := 48) cv_X5_22 (t_X3_takeFrom l S (P 4) hS (hP 4)) dX5_restore_45 rfl rfl rfl ⟨by decide, by decide, rfl, rfl, Nat.zero_le _, Nat.zero_le _⟩ rfl rfl rfl (Nat.le_of_ble_eq_true rfl) rfl rfl rfl ?_
  refine g_iconst (v := nI 1) (n := 49) dX5_restore_48 (by decide) rfl ?_
  exact g_iret (ty := .boolean) dX5_restore_49 rfl (by first | exact bI_nar _ | decide) ⟨Nat.zero_le _, Nat.zero_le _⟩ ⟨rfl, rfl⟩
set_option maxRecDepth 20000 in
theorem t_X5_remember_6 (l : Launch) (sz : Nat) (hsz : sz ≤ 8) (P : Nat → ST) (hP : ∀ i, okZ (P i)) (S : ST) (hS : okZ S) : Fn l M_X5_remember [.ref 0, .ref 34] (rw_ (nI 6) (nI sz) P S) none (rw_ (nI ((6 + 1) % 8)) (nI (kpK sz)) (pu P 6 S) S) := by
  refine con_of rfl rfl (Nat.le_of_ble_eq_true rfl) ?_
  refine g_lsN (ls' := [_, _]) rfl ?_
  refine g_aload_n (n := 1) dX5_remember_0 rfl rfl ?_
  refine g_get (n := 4) fl_X5_11 dX5_remember_1 rfl rfl rfl ?_
  refine g_aload_n (n := 5) dX5_remember_4 rfl rfl ?_
  refine g_get (n := 8) fl_X5_18 dX5_remember_5 rfl rfl rfl ?_
  refine g_aaldN (n := 9) dX5_remember_8 rfl rfl (by decide) (by omega) rfl ?_
  refine g_aload_n (n := 10) dX5_remember_9 rfl rfl ?_
  refine g_cutVv (ps := [26, 27, 28, 29, 34, 35, 36, 37]) (w' := [_, _, _, _, _, _, _, _, _, _, _, _, _, _, _, _, _, _, _, _, _, _, _, _, _, _, _, _, _, _, _, _, _, _, _, _, _, _]) (n := 13) cv_X5_22 (t_X3_takeFrom l (P 6) S (hP 6) hS) dX5_remember_10 rfl rfl rfl ⟨by decide, by decide, rfl, rfl, Nat.zero_le _, Nat.zero_le _⟩ rfl rfl rfl (Nat.le_of_ble_eq_true rfl) rfl rfl rfl ?_
  refine g_aload_n (n := 14) dX5_remember_13 rfl rfl ?_
  refine g_aload_n (n := 15) dX5_remember_14 rfl rfl ?_
  refine g_get (n := 18) fl_X5_18 dX5_remember_15 rfl rfl rfl ?_
  refine g_iconst (v := nI 1) (n := 19) dX5_remember_18 (by decide) rfl ?_
  refine g_iaddN (n := 20) dX5_remember_19 rfl ?_
  refine g_bipush (v := nI 8) (n := 22) dX5_remember_20 (by decide) rfl ?_
  refine g_irem (n := 23) dX5_remember_22 (by decide) rfl ?_
  refine g_top (pk_rem (by decide) (by decide) (by decide)) ?_
  refine g_put (n := 26) pf_X5_18 dX5_remember_23 rfl (Nat.le_of_ble_eq_true rfl) (fun _ => rfl) (fun _ => rfl) rfl ?_
  refine g_wN (w' := [_, _, _, _, _, _, _, _, _, _, _, _, _, _, _, _, _, _, _, _, _, _, _, _, _, _, _, _, _, _, _, _, _, _, _, _, _, _]) rfl ?_
  refine g_aload_n (n := 27) dX5_remember_26 rfl rfl ?_
  refine g_aload_n (n := 28) dX5_remember_27 rfl rfl ?_
  refine g_get (n := 31) fl_X5_26 dX5_remember_28 rfl rfl rfl ?_
  refine g_iconst (v := nI 1) (n := 32) dX5_remember_31 (by decide) rfl ?_
  refine g_iaddN (n := 33) dX5_remember_32 rfl ?_
  refine g_bipush (v := nI 8) (n := 35) dX5_remember_33 (by decide) rfl ?_
  refine g_mmin (n := 38) dX5_remember_35 lk_X5_29 lw_min lw_math lc_min (by decide) (Nat.le_of_ble_eq_true rfl) ⟨Nat.zero_le _, Nat.zero_le _⟩ rfl ?_
  refine g_top (min8 hsz) ?_
  refine g_put (n := 41) pf_X5_26 dX5_remember_38 rfl (Nat.le_of_ble_eq_true rfl) (fun _ => rfl) (fun _ => rfl) rfl ?_
  refine g_wN (w' := [_, _, _, _, _, _, _, _, _, _, _, _, _, _, _, _, _, _, _, _, _, _, _, _, _, _, _, _, _, _, _, _, _, _, _, _, _, _]) rfl ?_
  exact g_vret dX5_remember_41 rfl ⟨Nat.zero_le _, Nat.zero_le _⟩ ⟨rfl, rfl⟩
set_option maxRecDepth 20000 in
theorem t_X5_restore_6 (l : Launch) (sz : Nat) (h0 : 0 < sz) (hsz : sz ≤ 8) (P : Nat → ST) (hP : ∀ i, okZ (P i)) (S : ST) (hS : okZ S) : Fn l M_X5_restore [.ref 0, .ref 34] (rw_ (nI 6) (nI sz) P S) (some (.int (nI 1))) (rw_ (nI ((6 + 7) % 8)) (nI (sz - 1)) P (P ((6 + 7) % 8))) := by
  refine con_of rfl rfl (Nat.le_of_ble_eq_true rfl) ?_
  refine g_lsN (ls' := [_, _]) rfl ?_
  refine g_aload_n (n := 1) dX5_restore_0 rfl rfl ?_
  refine g_get (n := 4) fl_X5_26 dX5_restore_1 rfl rfl rfl ?_
  refine g_if_gt (tgt := 9) (n := 7) dX5_restore_4 (by decide) rfl (fun c4 => ?_) (fun c4 => absurd (nI_lt0 h0 (by omega)) c4)
  refine g_aload_n (n := 10) dX5_restore_9 rfl rfl ?_
  refine g_aload_n (n := 11) dX5_restore_10 rfl rfl ?_
  refine g_get (n := 14) fl_X5_18 dX5_restore_11 rfl rfl rfl ?_
  refine g_bipush (v := nI 8) (n := 16) dX5_restore_14 (by decide) rfl ?_
  refine g_iaddN (n := 17) dX5_restore_16 rfl ?_
  refine g_iconst (v := nI 1) (n := 18) dX5_restore_17 (by decide) rfl ?_
  refine g_isubN (n := 19) dX5_restore_18 rfl (by decide) ?_
  refine g_bipush (v := nI 8) (n := 21) dX5_restore_19 (by decide) rfl ?_
  refine g_irem (n := 22) dX5_restore_21 (by decide) rfl ?_
  refine g_top (pk_rem (by decide) (by decide) (by decide)) ?_
  refine g_put (n := 25) pf_X5_18 dX5_restore_22 rfl (Nat.le_of_ble_eq_true rfl) (fun _ => rfl) (fun _ => rfl) rfl ?_
  refine g_wN (w' := [_, _, _, _, _, _, _, _, _, _, _, _, _, _, _, _, _, _, _, _, _, _, _, _, _, _, _, _, _, _, _, _, _, _, _, _, _, _]) rfl ?_
  refine g_aload_n (n := 26) dX5_restore_25 rfl rfl ?_
  refine g_dup (n := 27) dX5_restore_26 rfl rfl ?_
  refine g_get (n := 30) fl_X5_26 dX5_restore_27 rfl rfl rfl ?_
  refine g_iconst (v := nI 1) (n := 31) dX5_restore_30 (by decide) rfl ?_
  refine g_isubN (n := 32) dX5_restore_31 rfl h0 ?_
  refine g_put (n := 35) pf_X5_26 dX5_restore_32 rfl (Nat.le_of_ble_eq_true rfl) (fun _ => rfl) (fun _ => rfl) rfl ?_
  refine g_wN (w' := [_, _, _, _, _, _, _, _, _, _, _, _, _, _, _, _, _, _, _, _, _, _, _, _, _, _, _, _, _, _, _, _, _, _, _, _, _, _]) rfl ?_
  refine g_aload_n (n := 36) dX5_restore_35 rfl rfl ?_
  refine g_aload_n (n := 37) dX5_restore_36 rfl rfl ?_
  refine g_get (n := 40) fl_X5_11 dX5_restore_37 rfl rfl rfl ?_
  refine g_aload_n (n := 41) dX5_restore_40 rfl rfl ?_
  refine g_get (n := 44) fl_X5_18 dX5_restore_41 rfl rfl rfl ?_
  refine g_aaldN (n := 45) dX5_restore_44 rfl rfl (by decide) (by omega) rfl ?_
  refine g_cutVv (ps := [34, 35, 36, 37, 22, 23, 24, 25]) (w' := [_, _, _, _, _, _, _, _, _, _, _, _, _, _, _, _, _, _, _, _, _, _, _, _, _, _, _, _, _, _, _, _, _, _, _, _, _, _]) (n := 48) cv_X5_22 (t_X3_takeFrom l S (P 5) hS (hP 5)) dX5_restore_45 rfl rfl rfl ⟨by decide, by decide, rfl, rfl, Nat.zero_le _, Nat.zero_le _⟩ rfl rfl rfl (Nat.le_of_ble_eq_true rfl) rfl rfl rfl ?_
  refine g_iconst (v := nI 1) (n := 49) dX5_restore_48 (by decide) rfl ?_
  exact g_iret (ty := .boolean) dX5_restore_49 rfl (by first | exact bI_nar _ | decide) ⟨Nat.zero_le _, Nat.zero_le _⟩ ⟨rfl, rfl⟩
set_option maxRecDepth 20000 in
theorem t_X5_remember_7 (l : Launch) (sz : Nat) (hsz : sz ≤ 8) (P : Nat → ST) (hP : ∀ i, okZ (P i)) (S : ST) (hS : okZ S) : Fn l M_X5_remember [.ref 0, .ref 34] (rw_ (nI 7) (nI sz) P S) none (rw_ (nI ((7 + 1) % 8)) (nI (kpK sz)) (pu P 7 S) S) := by
  refine con_of rfl rfl (Nat.le_of_ble_eq_true rfl) ?_
  refine g_lsN (ls' := [_, _]) rfl ?_
  refine g_aload_n (n := 1) dX5_remember_0 rfl rfl ?_
  refine g_get (n := 4) fl_X5_11 dX5_remember_1 rfl rfl rfl ?_
  refine g_aload_n (n := 5) dX5_remember_4 rfl rfl ?_
  refine g_get (n := 8) fl_X5_18 dX5_remember_5 rfl rfl rfl ?_
  refine g_aaldN (n := 9) dX5_remember_8 rfl rfl (by decide) (by omega) rfl ?_
  refine g_aload_n (n := 10) dX5_remember_9 rfl rfl ?_
  refine g_cutVv (ps := [30, 31, 32, 33, 34, 35, 36, 37]) (w' := [_, _, _, _, _, _, _, _, _, _, _, _, _, _, _, _, _, _, _, _, _, _, _, _, _, _, _, _, _, _, _, _, _, _, _, _, _, _]) (n := 13) cv_X5_22 (t_X3_takeFrom l (P 7) S (hP 7) hS) dX5_remember_10 rfl rfl rfl ⟨by decide, by decide, rfl, rfl, Nat.zero_le _, Nat.zero_le _⟩ rfl rfl rfl (Nat.le_of_ble_eq_true rfl) rfl rfl rfl ?_
  refine g_aload_n (n := 14) dX5_remember_13 rfl rfl ?_
  refine g_aload_n (n := 15) dX5_remember_14 rfl rfl ?_
  refine g_get (n := 18) fl_X5_18 dX5_remember_15 rfl rfl rfl ?_
  refine g_iconst (v := nI 1) (n := 19) dX5_remember_18 (by decide) rfl ?_
  refine g_iaddN (n := 20) dX5_remember_19 rfl ?_
  refine g_bipush (v := nI 8) (n := 22) dX5_remember_20 (by decide) rfl ?_
  refine g_irem (n := 23) dX5_remember_22 (by decide) rfl ?_
  refine g_top (pk_rem (by decide) (by decide) (by decide)) ?_
  refine g_put (n := 26) pf_X5_18 dX5_remember_23 rfl (Nat.le_of_ble_eq_true rfl) (fun _ => rfl) (fun _ => rfl) rfl ?_
  refine g_wN (w' := [_, _, _, _, _, _, _, _, _, _, _, _, _, _, _, _, _, _, _, _, _, _, _, _, _, _, _, _, _, _, _, _, _, _, _, _, _, _]) rfl ?_
  refine g_aload_n (n := 27) dX5_remember_26 rfl rfl ?_
  refine g_aload_n (n := 28) dX5_remember_27 rfl rfl ?_
  refine g_get (n := 31) fl_X5_26 dX5_remember_28 rfl rfl rfl ?_
  refine g_iconst (v := nI 1) (n := 32) dX5_remember_31 (by decide) rfl ?_
  refine g_iaddN (n := 33) dX5_remember_32 rfl ?_
  refine g_bipush (v := nI 8) (n := 35) dX5_remember_33 (by decide) rfl ?_
  refine g_mmin (n := 38) dX5_remember_35 lk_X5_29 lw_min lw_math lc_min (by decide) (Nat.le_of_ble_eq_true rfl) ⟨Nat.zero_le _, Nat.zero_le _⟩ rfl ?_
  refine g_top (min8 hsz) ?_
  refine g_put (n := 41) pf_X5_26 dX5_remember_38 rfl (Nat.le_of_ble_eq_true rfl) (fun _ => rfl) (fun _ => rfl) rfl ?_
  refine g_wN (w' := [_, _, _, _, _, _, _, _, _, _, _, _, _, _, _, _, _, _, _, _, _, _, _, _, _, _, _, _, _, _, _, _, _, _, _, _, _, _]) rfl ?_
  exact g_vret dX5_remember_41 rfl ⟨Nat.zero_le _, Nat.zero_le _⟩ ⟨rfl, rfl⟩
set_option maxRecDepth 20000 in
theorem t_X5_restore_7 (l : Launch) (sz : Nat) (h0 : 0 < sz) (hsz : sz ≤ 8) (P : Nat → ST) (hP : ∀ i, okZ (P i)) (S : ST) (hS : okZ S) : Fn l M_X5_restore [.ref 0, .ref 34] (rw_ (nI 7) (nI sz) P S) (some (.int (nI 1))) (rw_ (nI ((7 + 7) % 8)) (nI (sz - 1)) P (P ((7 + 7) % 8))) := by
  refine con_of rfl rfl (Nat.le_of_ble_eq_true rfl) ?_
  refine g_lsN (ls' := [_, _]) rfl ?_
  refine g_aload_n (n := 1) dX5_restore_0 rfl rfl ?_
  refine g_get (n := 4) fl_X5_26 dX5_restore_1 rfl rfl rfl ?_
  refine g_if_gt (tgt := 9) (n := 7) dX5_restore_4 (by decide) rfl (fun c4 => ?_) (fun c4 => absurd (nI_lt0 h0 (by omega)) c4)
  refine g_aload_n (n := 10) dX5_restore_9 rfl rfl ?_
  refine g_aload_n (n := 11) dX5_restore_10 rfl rfl ?_
  refine g_get (n := 14) fl_X5_18 dX5_restore_11 rfl rfl rfl ?_
  refine g_bipush (v := nI 8) (n := 16) dX5_restore_14 (by decide) rfl ?_
  refine g_iaddN (n := 17) dX5_restore_16 rfl ?_
  refine g_iconst (v := nI 1) (n := 18) dX5_restore_17 (by decide) rfl ?_
  refine g_isubN (n := 19) dX5_restore_18 rfl (by decide) ?_
  refine g_bipush (v := nI 8) (n := 21) dX5_restore_19 (by decide) rfl ?_
  refine g_irem (n := 22) dX5_restore_21 (by decide) rfl ?_
  refine g_top (pk_rem (by decide) (by decide) (by decide)) ?_
  refine g_put (n := 25) pf_X5_18 dX5_restore_22 rfl (Nat.le_of_ble_eq_true rfl) (fun _ => rfl) (fun _ => rfl) rfl ?_
  refine g_wN (w' := [_, _, _, _, _, _, _, _, _, _, _, _, _, _, _, _, _, _, _, _, _, _, _, _, _, _, _, _, _, _, _, _, _, _, _, _, _, _]) rfl ?_
  refine g_aload_n (n := 26) dX5_restore_25 rfl rfl ?_
  refine g_dup (n := 27) dX5_restore_26 rfl rfl ?_
  refine g_get (n := 30) fl_X5_26 dX5_restore_27 rfl rfl rfl ?_
  refine g_iconst (v := nI 1) (n := 31) dX5_restore_30 (by decide) rfl ?_
  refine g_isubN (n := 32) dX5_restore_31 rfl h0 ?_
  refine g_put (n := 35) pf_X5_26 dX5_restore_32 rfl (Nat.le_of_ble_eq_true rfl) (fun _ => rfl) (fun _ => rfl) rfl ?_
  refine g_wN (w' := [_, _, _, _, _, _, _, _, _, _, _, _, _, _, _, _, _, _, _, _, _, _, _, _, _, _, _, _, _, _, _, _, _, _, _, _, _, _]) rfl ?_
  refine g_aload_n (n := 36) dX5_restore_35 rfl rfl ?_
  refine g_aload_n (n := 37) dX5_restore_36 rfl rfl ?_
  refine g_get (n := 40) fl_X5_11 dX5_restore_37 rfl rfl rfl ?_
  refine g_aload_n (n := 41) dX5_restore_40 rfl rfl ?_
  refine g_get (n := 44) fl_X5_18 dX5_restore_41 rfl rfl rfl ?_
  refine g_aaldN (n := 45) dX5_restore_44 rfl rfl (by decide) (by omega) rfl ?_
  refine g_cutVv (ps := [34, 35, 36, 37, 26, 27, 28, 29]) (w' := [_, _, _, _, _, _, _, _, _, _, _, _, _, _, _, _, _, _, _, _, _, _, _, _, _, _, _, _, _, _, _, _, _, _, _, _, _, _]) (n := 48) cv_X5_22 (t_X3_takeFrom l S (P 6) hS (hP 6)) dX5_restore_45 rfl rfl rfl ⟨by decide, by decide, rfl, rfl, Nat.zero_le _, Nat.zero_le _⟩ rfl rfl rfl (Nat.le_of_ble_eq_true rfl) rfl rfl rfl ?_
  refine g_iconst (v := nI 1) (n := 49) dX5_restore_48 (by decide) rfl ?_
  exact g_iret (ty := .boolean) dX5_restore_49 rfl (by first | exact bI_nar _ | decide) ⟨Nat.zero_le _, Nat.zero_le _⟩ ⟨rfl, rfl⟩
set_option maxRecDepth 20000 in
theorem t_X5_restore_no (l : Launch) (nx : Int32) (P : Nat → ST) (hP : ∀ i, okZ (P i)) (S : ST) (hS : okZ S) : Fn l M_X5_restore [.ref 0, .ref 34] (rw_ nx (nI 0) P S) (some (.int (nI 0))) (rw_ nx (nI 0) P S) := by
  refine con_of rfl rfl (Nat.le_of_ble_eq_true rfl) ?_
  refine g_lsN (ls' := [_, _]) rfl ?_
  refine g_aload_n (n := 1) dX5_restore_0 rfl rfl ?_
  refine g_get (n := 4) fl_X5_26 dX5_restore_1 rfl rfl rfl ?_
  refine g_if_gt (tgt := 9) (n := 7) dX5_restore_4 (by decide) rfl (fun c4 => absurd c4 (by decide)) (fun c4 => ?_)
  refine g_iconst (v := nI 0) (n := 8) dX5_restore_7 (by decide) rfl ?_
  exact g_iret (ty := .boolean) dX5_restore_8 rfl (by first | exact bI_nar _ | decide) ⟨Nat.zero_le _, Nat.zero_le _⟩ ⟨rfl, rfl⟩
theorem t_X5_remember (l : Launch) (nx : Nat) (hnx : nx < 8) (sz : Nat) (hsz : sz ≤ 8) (P : Nat → ST) (hP : ∀ i, okZ (P i)) (S : ST) (hS : okZ S) : Fn l M_X5_remember [.ref 0, .ref 34] (rw_ (nI nx) (nI sz) P S) none (rw_ (nI ((nx + 1) % 8)) (nI (kpK sz)) (pu P nx S) S) := by
  rcases (show nx = 0 ∨ nx = 1 ∨ nx = 2 ∨ nx = 3 ∨ nx = 4 ∨ nx = 5 ∨ nx = 6 ∨ nx = 7 by omega) with rfl | rfl | rfl | rfl | rfl | rfl | rfl | rfl
  · exact t_X5_remember_0 l sz hsz P hP S hS
  · exact t_X5_remember_1 l sz hsz P hP S hS
  · exact t_X5_remember_2 l sz hsz P hP S hS
  · exact t_X5_remember_3 l sz hsz P hP S hS
  · exact t_X5_remember_4 l sz hsz P hP S hS
  · exact t_X5_remember_5 l sz hsz P hP S hS
  · exact t_X5_remember_6 l sz hsz P hP S hS
  · exact t_X5_remember_7 l sz hsz P hP S hS
theorem t_X5_restore (l : Launch) (nx : Nat) (hnx : nx < 8) (sz : Nat) (h0 : 0 < sz) (hsz : sz ≤ 8) (P : Nat → ST) (hP : ∀ i, okZ (P i)) (S : ST) (hS : okZ S) : Fn l M_X5_restore [.ref 0, .ref 34] (rw_ (nI nx) (nI sz) P S) (some (.int (nI 1))) (rw_ (nI ((nx + 7) % 8)) (nI (sz - 1)) P (P ((nx + 7) % 8))) := by
  rcases (show nx = 0 ∨ nx = 1 ∨ nx = 2 ∨ nx = 3 ∨ nx = 4 ∨ nx = 5 ∨ nx = 6 ∨ nx = 7 by omega) with rfl | rfl | rfl | rfl | rfl | rfl | rfl | rfl
  · exact t_X5_restore_0 l sz h0 hsz P hP S hS
  · exact t_X5_restore_1 l sz h0 hsz P hP S hS
  · exact t_X5_restore_2 l sz h0 hsz P hP S hS
  · exact t_X5_restore_3 l sz h0 hsz P hP S hS
  · exact t_X5_restore_4 l sz h0 hsz P hP S hS
  · exact t_X5_restore_5 l sz h0 hsz P hP S hS
  · exact t_X5_restore_6 l sz h0 hsz P hP S hS
  · exact t_X5_restore_7 l sz h0 hsz P hP S hS
set_option maxRecDepth 20000 in
theorem t_X5_forget (l : Launch) (nx sz : Int32) : Fn l M_X5_forget [.ref 0] ([.inr (5, [.ref 1, .int nx, .int sz])]) none ([.inr (5, [.ref 1, .int nx, .int (nI 0)])]) := by
  refine con_of rfl rfl (Nat.le_of_ble_eq_true rfl) ?_
  refine g_lsN (ls' := [_]) rfl ?_
  refine g_aload_n (n := 1) dX5_forget_0 rfl rfl ?_
  refine g_iconst (v := nI 0) (n := 2) dX5_forget_1 (by decide) rfl ?_
  refine g_put (n := 5) pf_X5_26 dX5_forget_2 rfl (Nat.le_of_ble_eq_true rfl) (fun _ => rfl) (fun _ => rfl) rfl ?_
  refine g_wN (w' := [_]) rfl ?_
  exact g_vret dX5_forget_5 rfl ⟨Nat.zero_le _, Nat.zero_le _⟩ ⟨rfl, rfl⟩

/-! 40.cpass: the class's hours; of the trail's states only the one that is meant is a cell, the others are named -/
theorem lcons {α : Type} {a b : α} {l m : List α} (h : a = b) (h2 : l = m) : a :: l = b :: m := by rw [h, h2]
theorem ren_sarr {ps : List Nat} {b b2 n : Nat} (h : ∀ j, j < n → sg ps (b + 4 * j) = b2 + 4 * j) : ren ps (sarr b n) = sarr b2 n := by
  show (Sum.inl (2, n, .inr (.inr (.inr (.inr (fun j => (sref b n j).map (sg ps)))))) : va_E) = _
  refine congrArg (fun h : Nat → Option Nat => (Sum.inl (2, n, .inr (.inr (.inr (.inr h)))) : va_E)) ?_
  funext j
  unfold sref
  by_cases hj : j < n
  · rw [if_pos hj, if_pos hj]; exact congrArg some (h j hj)
  · rw [if_neg hj, if_neg hj]; rfl
/-- a row of eight states: the one of number k stands at a, those of other numbers i at b + i -/
def rN (k a b : Nat) : Nat → Option Nat := fun i => if i = k then some a else if i < 8 then some (b + i) else none
abbrev rarr (k a b : Nat) : va_E := .inl (2, 8, .inr (.inr (.inr (.inr (rN k a b)))))
theorem rN_at (k a b : Nat) : rN k a b k = some a := if_pos rfl
theorem ren_rarr {ps : List Nat} {k a b a2 b2 : Nat} (h1 : sg ps a = a2) (h2 : ∀ i, i < 8 → sg ps (b + i) = b2 + i) : ren ps (rarr k a b) = rarr k a2 b2 := by
  show (Sum.inl (2, 8, .inr (.inr (.inr (.inr (fun j => (rN k a b j).map (sg ps)))))) : va_E) = _
  refine congrArg (fun h : Nat → Option Nat => (Sum.inl (2, 8, .inr (.inr (.inr (.inr h)))) : va_E)) ?_
  funext i
  unfold rN
  by_cases e : i = k
  · rw [if_pos e, if_pos e]; exact congrArg some h1
  · rw [if_neg e, if_neg e]
    by_cases hi : i < 8
    · rw [if_pos hi, if_pos hi]; exact congrArg some (h2 i hi)
    · rw [if_neg hi, if_neg hi]; rfl
theorem ren_rarr_s {ps : List Nat} {k a b base : Nat} (hk : k < 8) (h1 : sg ps a = base + 4 * k) (h2 : ∀ i, i < 8 → sg ps (b + i) = base + 4 * i) : ren ps (rarr k a b) = sarr base 8 := by
  show (Sum.inl (2, 8, .inr (.inr (.inr (.inr (fun j => (rN k a b j).map (sg ps)))))) : va_E) = _
  refine congrArg (fun h : Nat → Option Nat => (Sum.inl (2, 8, .inr (.inr (.inr (.inr h)))) : va_E)) ?_
  funext i
  unfold rN sref
  by_cases e : i = k
  · subst e
    rw [if_pos rfl, if_pos hk]; exact congrArg some h1
  · rw [if_neg e]
    by_cases hi : i < 8
    · rw [if_pos hi, if_pos hi]; exact congrArg some (h2 i hi)
    · rw [if_neg hi, if_neg hi]; rfl
/-- 0 the trail, 1 its row, 2-5 a state of it, 6-9 a state; named: 10 + i the row's others -/
abbrev r10 (nx sz : Int32) (k : Nat) (T S : ST) : List va_E := [.inr (5, [.ref 1, .int nx, .int sz]), rarr k 2 10, so T 2, a6 (sbo T), a6 (sti T), a8 (sun T), so S 6, a6 (sbo S), a6 (sti S), a8 (sun S)]

set_option maxRecDepth 20000 in
theorem t_X5_rem (l : Launch) (nx : Nat) (sz : Nat) (hsz : sz ≤ 8) (T S : ST) (hT : okZ T) (hS : okZ S) : Fn l M_X5_remember [.ref 0, .ref 6] (r10 (nI nx) (nI sz) (nx % 8) T S) none (r10 (nI (nx + 1)) (nI (kpK sz)) (nx % 8) S S) := by
  refine con_of rfl rfl (Nat.le_of_ble_eq_true rfl) ?_
  refine g_lsN (ls' := [_, _]) rfl ?_
  refine g_aload_n (n := 1) dX5_remember_0 rfl rfl ?_
  refine g_get (n := 4) fl_X5_11 dX5_remember_1 rfl rfl rfl ?_
  refine g_aload_n (n := 5) dX5_remember_4 rfl rfl ?_
  refine g_get (n := 8) fl_X5_18 dX5_remember_5 rfl rfl rfl ?_
  refine g_bipush (v := nI 8) (n := 10) dX5_remember_8 (by decide) rfl ?_
  refine g_callSi (n := 13) cs_X5_22 (t_J9_fm8 l nx) dX5_remember_10 rfl rfl ⟨by decide, by decide, rfl, rfl, Nat.zero_le _, Nat.zero_le _⟩ rfl (Nat.le_of_ble_eq_true rfl) rfl ?_
  refine g_aaldN (n := 14) dX5_remember_13 rfl rfl (by decide) (by omega) (rN_at (nx % 8) 2 10) ?_
  refine g_aload_n (n := 15) dX5_remember_14 rfl rfl ?_
  refine g_cutVv (ps := [2, 3, 4, 5, 6, 7, 8, 9]) (w' := [_, _, _, _, _, _, _, _, _, _]) (n := 18) cv_X5_28 (t_X3_takeFrom l T S hT hS) dX5_remember_15 rfl rfl rfl ⟨by decide, by decide, rfl, rfl, Nat.zero_le _, Nat.zero_le _⟩ rfl rfl rfl (Nat.le_of_ble_eq_true rfl) rfl rfl rfl ?_
  refine g_aload_n (n := 19) dX5_remember_18 rfl rfl ?_
  refine g_dup (n := 20) dX5_remember_19 rfl rfl ?_
  refine g_get (n := 23) fl_X5_18 dX5_remember_20 rfl rfl rfl ?_
  refine g_iconst (v := nI 1) (n := 24) dX5_remember_23 (by decide) rfl ?_
  refine g_iaddN (n := 25) dX5_remember_24 rfl ?_
  refine g_put (n := 28) pf_X5_18 dX5_remember_25 rfl (Nat.le_of_ble_eq_true rfl) (fun _ => rfl) (fun _ => rfl) rfl ?_
  refine g_wN (w' := [_, _, _, _, _, _, _, _, _, _]) rfl ?_
  refine g_aload_n (n := 29) dX5_remember_28 rfl rfl ?_
  refine g_aload_n (n := 30) dX5_remember_29 rfl rfl ?_
  refine g_get (n := 33) fl_X5_32 dX5_remember_30 rfl rfl rfl ?_
  refine g_iconst (v := nI 1) (n := 34) dX5_remember_33 (by decide) rfl ?_
  refine g_iaddN (n := 35) dX5_remember_34 rfl ?_
  refine g_bipush (v := nI 8) (n := 37) dX5_remember_35 (by decide) rfl ?_
  refine g_mmin (n := 40) dX5_remember_37 lk_X5_35 lw_min lw_math lc_min (by decide) (Nat.le_of_ble_eq_true rfl) ⟨Nat.zero_le _, Nat.zero_le _⟩ rfl ?_
  refine g_top (min8 hsz) ?_
  refine g_put (n := 43) pf_X5_32 dX5_remember_40 rfl (Nat.le_of_ble_eq_true rfl) (fun _ => rfl) (fun _ => rfl) rfl ?_
  refine g_wN (w' := [_, _, _, _, _, _, _, _, _, _]) rfl ?_
  exact g_vret dX5_remember_43 rfl ⟨Nat.zero_le _, Nat.zero_le _⟩ ⟨rfl, rfl⟩
set_option maxRecDepth 20000 in
theorem t_X5_res (l : Launch) (nx : Nat) (sz : Nat) (h0 : 0 < sz) (hsz : sz ≤ 8) (T S : ST) (hT : okZ T) (hS : okZ S) : Fn l M_X5_restore [.ref 0, .ref 6] (r10 (nI nx) (nI sz) ((nx + 7) % 8) T S) (some (.int (nI 1))) (r10 (nI (dn1 nx)) (nI (sz - 1)) ((nx + 7) % 8) T T) := by
  refine con_of rfl rfl (Nat.le_of_ble_eq_true rfl) ?_
  refine g_lsN (ls' := [_, _]) rfl ?_
  refine g_aload_n (n := 1) dX5_restore_0 rfl rfl ?_
  refine g_get (n := 4) fl_X5_32 dX5_restore_1 rfl rfl rfl ?_
  refine g_if_gt (tgt := 9) (n := 7) dX5_restore_4 (by decide) rfl (fun c4 => ?_) (fun c4 => absurd (nI_lt0 h0 (by omega)) c4)
  refine g_aload_n (n := 10) dX5_restore_9 rfl rfl ?_
  refine g_dup (n := 11) dX5_restore_10 rfl rfl ?_
  refine g_get (n := 14) fl_X5_18 dX5_restore_11 rfl rfl rfl ?_
  refine g_iconst (v := nI 1) (n := 15) dX5_restore_14 (by decide) rfl ?_
  refine g_isub (n := 16) dX5_restore_15 rfl ?_
  refine g_top (dn1_nI nx) ?_
  refine g_put (n := 19) pf_X5_18 dX5_restore_16 rfl (Nat.le_of_ble_eq_true rfl) (fun _ => rfl) (fun _ => rfl) rfl ?_
  refine g_wN (w' := [_, _, _, _, _, _, _, _, _, _]) rfl ?_
  refine g_aload_n (n := 20) dX5_restore_19 rfl rfl ?_
  refine g_dup (n := 21) dX5_restore_20 rfl rfl ?_
  refine g_get (n := 24) fl_X5_32 dX5_restore_21 rfl rfl rfl ?_
  refine g_iconst (v := nI 1) (n := 25) dX5_restore_24 (by decide) rfl ?_
  refine g_isubN (n := 26) dX5_restore_25 rfl h0 ?_
  refine g_put (n := 29) pf_X5_32 dX5_restore_26 rfl (Nat.le_of_ble_eq_true rfl) (fun _ => rfl) (fun _ => rfl) rfl ?_
  refine g_wN (w' := [_, _, _, _, _, _, _, _, _, _]) rfl ?_
  refine g_aload_n (n := 30) dX5_restore_29 rfl rfl ?_
  refine g_aload_n (n := 31) dX5_restore_30 rfl rfl ?_
  refine g_get (n := 34) fl_X5_11 dX5_restore_31 rfl rfl rfl ?_
  refine g_aload_n (n := 35) dX5_restore_34 rfl rfl ?_
  refine g_get (n := 38) fl_X5_18 dX5_restore_35 rfl rfl rfl ?_
  refine g_bipush (v := nI 8) (n := 40) dX5_restore_38 (by decide) rfl ?_
  refine g_callSi (n := 43) cs_X5_22 (t_J9_fm8 l (dn1 nx)) dX5_restore_40 rfl rfl ⟨by decide, by decide, rfl, rfl, Nat.zero_le _, Nat.zero_le _⟩ rfl (Nat.le_of_ble_eq_true rfl) rfl ?_
  refine g_top (congrArg nI (dn1_mod nx)) ?_
  refine g_aaldN (n := 44) dX5_restore_43 rfl rfl (by decide) (by omega) (rN_at ((nx + 7) % 8) 2 10) ?_
  refine g_cutVv (ps := [6, 7, 8, 9, 2, 3, 4, 5]) (w' := [_, _, _, _, _, _, _, _, _, _]) (n := 47) cv_X5_28 (t_X3_takeFrom l S T hS hT) dX5_restore_44 rfl rfl rfl ⟨by decide, by decide, rfl, rfl, Nat.zero_le _, Nat.zero_le _⟩ rfl rfl rfl (Nat.le_of_ble_eq_true rfl) rfl rfl rfl ?_
  refine g_iconst (v := nI 1) (n := 48) dX5_restore_47 (by decide) rfl ?_
  exact g_iret (ty := .boolean) dX5_restore_48 rfl (by first | exact bI_nar _ | decide) ⟨Nat.zero_le _, Nat.zero_le _⟩ ⟨rfl, rfl⟩
set_option maxRecDepth 20000 in
theorem t_X5_res_no (l : Launch) (nx : Int32) (k : Nat) (T S : ST) (hT : okZ T) (hS : okZ S) : Fn l M_X5_restore [.ref 0, .ref 6] (r10 nx (nI 0) k T S) (some (.int (nI 0))) (r10 nx (nI 0) k T S) := by
  refine con_of rfl rfl (Nat.le_of_ble_eq_true rfl) ?_
  refine g_lsN (ls' := [_, _]) rfl ?_
  refine g_aload_n (n := 1) dX5_restore_0 rfl rfl ?_
  refine g_get (n := 4) fl_X5_32 dX5_restore_1 rfl rfl rfl ?_
  refine g_if_gt (tgt := 9) (n := 7) dX5_restore_4 (by decide) rfl (fun c4 => absurd c4 (by decide)) (fun c4 => ?_)
  refine g_iconst (v := nI 0) (n := 8) dX5_restore_7 (by decide) rfl ?_
  exact g_iret (ty := .boolean) dX5_restore_8 rfl (by first | exact bI_nar _ | decide) ⟨Nat.zero_le _, Nat.zero_le _⟩ ⟨rfl, rfl⟩
/-- 0 itself, 1 the trail, 2-5 now, 6-12 laid, 13-16 the clock, 17 the trail's row, 18-21 a state of it; named: 22 text, 23 reader, 24 trial, 25 rosters, 26 kept, 27 spare, 28 + i the row's others -/
abbrev xb (kc nx sz : Int32) (k : Nat) (T S : ST) (V : WT) (dn : Int32) (fb rb lb pb : Nat → Int32) : List va_E := [.inr (8, [.ref 22, .ref 23, .ref 13, .ref 24, .ref 25, .ref 2, .ref 1, .ref 26, .int kc, .ref 6, .ref 27]), .inr (5, [.ref 17, .int nx, .int sz]), so S 2, a6 (sbo S), a6 (sti S), a8 (sun S), wo V dn 6, a8 (vth V), a8 (vpa V), a6 (vki V), a6 (vsg V), a6 fb, a6 (vkn V), co 13, a8 rb, a8 lb, a8 pb, rarr k 18 28, so T 18, a6 (sbo T), a6 (sti T), a8 (sun T)]
abbrev psT : List Nat := [1, 17, 18, 19, 20, 21, 2, 3, 4, 5, 28, 29, 30, 31, 32, 33, 34, 35]
theorem hsT (k : Nat) : ren psT (rarr k 2 10) = rarr k 18 28 := ren_rarr rfl (by decide)

set_option maxRecDepth 20000 in
theorem t_X8_pass_bad (l : Launch) (kc : Int32) (nx : Nat) (sz : Nat) (hsz : sz ≤ 8) (T : ST) (hT : okZ T) (S : ST) (V : WT) (hV : okV V) (dn : Int32) (fb rb lb pb : Nat → Int32) (a : Nat) (ha : a + 100 < 2 ^ 31) (hS : okS V S a) (x : Int32) (h : inB x (nI 1) (nI 24) = false) : Con l M_X8_pass [.ref 0, .int x] (xb kc (nI nx) (nI sz) (nx % 8) T S V dn fb rb lb pb) (fun r u => r = some (.int (-1)) ∧ ∃ rb lb pb, u = xb kc (nI nx) (nI sz) (nx % 8) T S V dn fb rb lb pb) := by
  refine con_of rfl rfl (Nat.le_of_ble_eq_true rfl) ?_
  refine g_lsN (ls' := [_, _, _]) rfl ?_
  refine g_iload_n (n := 1) dX8_pass_0 rfl rfl ?_
  refine g_iconst (v := nI 1) (n := 2) dX8_pass_1 (by decide) rfl ?_
  refine g_icmp_lt (tgt := 11) (n := 5) dX8_pass_2 (by decide) rfl (fun c2 => ?_) (fun c2 => ?_)
  ·
    refine g_iconst (v := (-1)) (n := 12) dX8_pass_11 (by decide) rfl ?_
    exact g_iret (ty := .int) dX8_pass_12 rfl rfl ⟨Nat.zero_le _, Nat.zero_le _⟩ ⟨rfl, _, _, _, rfl⟩
  ·
    refine g_iload_n (n := 6) dX8_pass_5 rfl rfl ?_
    refine g_bipush (v := nI 24) (n := 8) dX8_pass_6 (by decide) rfl ?_
    refine g_icmp_le (tgt := 13) (n := 11) dX8_pass_8 (by decide) rfl (fun c8 => ?_) (fun c8 => ?_)
    ·
      exact inB_x h c2 c8
    ·
      refine g_iconst (v := (-1)) (n := 12) dX8_pass_11 (by decide) rfl ?_
      exact g_iret (ty := .int) dX8_pass_12 rfl rfl ⟨Nat.zero_le _, Nat.zero_le _⟩ ⟨rfl, _, _, _, rfl⟩
set_option maxRecDepth 20000 in
theorem lp_X8_pass (l : Launch) (z : Nat × Nat × Nat) (hz : z.2.1 ≤ 0 ∧ z.2.2 ≤ 0) (Q : Option Value → List va_E → Prop) (kc nx sz : Int32) (k : Nat) (T : ST) (V : WT) (hV : okV V) (dn : Int32) (fb : Nat → Int32) (m : Nat) (hm : m ≤ 24) : ∀ (n i : Nat) (S : ST) (rb lb pb : Nat → Int32) (a : Nat), i + n = m → a + n < 2 ^ 31 → okS V S a → (∀ rb lb pb, Q (some (.int (sho (itP V n S)))) (xb kc nx sz k T (itP V n S) V dn fb rb lb pb)) → G l M_X8_pass z Q 26 [some (.ref 0), some (.int (nI m)), some (.int (nI i))] [] (xb kc nx sz k T S V dn fb rb lb pb) := by
  intro n
  induction n with
  | zero =>
    intro i S rb lb pb a hi ha hS hQ
    refine g_iload_n (n := 27) dX8_pass_26 rfl rfl ?_
    refine g_iload_n (n := 28) dX8_pass_27 rfl rfl ?_
    refine g_icmp_ge (tgt := 53) (n := 31) dX8_pass_28 (by decide) rfl (fun c28 => ?_) (fun c28 => absurd (nI_le (by omega) (by omega)) c28)
    refine g_aload_n (n := 54) dX8_pass_53 rfl rfl ?_
    refine g_get (n := 57) fl_X8_47 dX8_pass_54 rfl rfl rfl ?_
    refine g_get (n := 60) fl_X8_137 dX8_pass_57 rfl rfl rfl ?_
    exact g_iret (ty := .int) dX8_pass_60 rfl rfl hz (hQ _ _ _)
  | succ n ih =>
    intro i S rb lb pb a hi ha hS hQ
    refine g_iload_n (n := 27) dX8_pass_26 rfl rfl ?_
    refine g_iload_n (n := 28) dX8_pass_27 rfl rfl ?_
    refine g_icmp_ge (tgt := 53) (n := 31) dX8_pass_28 (by decide) rfl (fun c28 => absurd c28 (nI_ge (by omega) (by omega))) (fun c28 => ?_)
    refine g_aload_n (n := 32) dX8_pass_31 rfl rfl ?_
    refine g_get (n := 35) fl_X8_26 dX8_pass_32 rfl rfl rfl ?_
    refine g_aload_n (n := 36) dX8_pass_35 rfl rfl ?_
    refine g_get (n := 39) fl_X8_65 dX8_pass_36 rfl rfl rfl ?_
    refine g_aload_n (n := 40) dX8_pass_39 rfl rfl ?_
    refine g_get (n := 43) fl_X8_47 dX8_pass_40 rfl rfl rfl ?_
    refine g_cutVi (ps := [13, 14, 15, 16, 6, 7, 8, 9, 10, 11, 12, 2, 3, 4, 5]) (w' := [_, _, _, _, _, _, _, _, _, _, _, _, _, _, _, _, _, _, _, _, _, _]) (n := 46) cv_X8_147 (t_X0_goBy l _ _ _ V hV dn fb S hS.2.1 hS.2.2.1 a (by omega) hS.2.2.2) dX8_pass_43 rfl rfl rfl ⟨by decide, by decide, rfl, rfl, hz.1, hz.2⟩ rfl rfl rfl (Nat.le_of_ble_eq_true rfl) rfl rfl rfl ?_
    refine g_pop (n := 47) dX8_pass_46 rfl rfl ?_
    refine g_iincN (k := 1) (n := 50) dX8_pass_47 rfl (by decide) rfl rfl ?_
    refine g_lsN (ls' := [_, _, _]) rfl ?_
    refine g_goto (tgt := 26) dX8_pass_50 (by decide) ?_
    exact ih (i + 1) (psF V S) _ _ _ (a + 1) (by omega) (by omega) (okS_ps hV hS) hQ
set_option maxRecDepth 20000 in
theorem t_X8_pass_ok (l : Launch) (kc : Int32) (nx : Nat) (sz : Nat) (hsz : sz ≤ 8) (T : ST) (hT : okZ T) (S : ST) (V : WT) (hV : okV V) (dn : Int32) (fb rb lb pb : Nat → Int32) (a : Nat) (ha : a + 100 < 2 ^ 31) (hS : okS V S a) (m : Nat) (hm : m ≤ 24) (h : inB (nI m) (nI 1) (nI 24) = true) : Con l M_X8_pass [.ref 0, .int (nI m)] (xb kc (nI nx) (nI sz) (nx % 8) T S V dn fb rb lb pb) (fun r u => r = some (.int (sho (itP V m S))) ∧ ∃ rb lb pb, u = xb kc (nI (nx + 1)) (nI (kpK sz)) (nx % 8) S (itP V m S) V dn fb rb lb pb) := by
  refine con_of rfl rfl (Nat.le_of_ble_eq_true rfl) ?_
  refine g_lsN (ls' := [_, _, _]) rfl ?_
  refine g_iload_n (n := 1) dX8_pass_0 rfl rfl ?_
  refine g_iconst (v := nI 1) (n := 2) dX8_pass_1 (by decide) rfl ?_
  refine g_icmp_lt (tgt := 11) (n := 5) dX8_pass_2 (by decide) rfl (fun c2 => absurd c2 (inB_ge h)) (fun c2 => ?_)
  refine g_iload_n (n := 6) dX8_pass_5 rfl rfl ?_
  refine g_bipush (v := nI 24) (n := 8) dX8_pass_6 (by decide) rfl ?_
  refine g_icmp_le (tgt := 13) (n := 11) dX8_pass_8 (by decide) rfl (fun c8 => ?_) (fun c8 => absurd (inB_le h) c8)
  refine g_aload_n (n := 14) dX8_pass_13 rfl rfl ?_
  refine g_get (n := 17) fl_X8_54 dX8_pass_14 rfl rfl rfl ?_
  refine g_aload_n (n := 18) dX8_pass_17 rfl rfl ?_
  refine g_get (n := 21) fl_X8_47 dX8_pass_18 rfl rfl rfl ?_
  refine g_cutVv (ps := psT) (w' := [_, _, _, _, _, _, _, _, _, _, _, _, _, _, _, _, _, _, _, _, _, _]) (n := 24) cv_X8_143 (t_X5_rem l nx sz hsz T S hT hS.1) dX8_pass_21 rfl (lcons rfl (lcons (congrArg some (hsT _).symm) rfl)) rfl ⟨by decide, by decide, rfl, rfl, Nat.zero_le _, Nat.zero_le _⟩ rfl rfl rfl (Nat.le_of_ble_eq_true rfl) rfl rfl rfl ?_
  refine g_wN (w' := [_, _, _, _, _, _, _, _, _, _, _, _, _, _, _, _, _, rarr (nx % 8) 18 28, _, _, _, _]) (lcons rfl (lcons rfl (lcons rfl (lcons rfl (lcons rfl (lcons rfl (lcons rfl (lcons rfl (lcons rfl (lcons rfl (lcons rfl (lcons rfl (lcons rfl (lcons rfl (lcons rfl (lcons rfl (lcons rfl ((lcons (hsT _) rfl))))))))))))))))))) ?_
  refine g_iconst (v := nI 0) (n := 25) dX8_pass_24 (by decide) rfl ?_
  refine g_istore_n (n := 26) dX8_pass_25 (by decide) rfl rfl ?_
  refine g_lsN (ls' := [_, _, _]) rfl ?_
  exact lp_X8_pass l _ ⟨Nat.zero_le _, Nat.zero_le _⟩ _ kc _ _ (nx % 8) S V hV dn fb m hm m 0 S rb lb pb a (by omega) (by omega) hS (fun rb lb pb => ⟨rfl, rb, lb, pb, rfl⟩)
set_option maxRecDepth 20000 in
theorem t_X8_down_bad (l : Launch) (kc : Int32) (nx : Nat) (sz : Nat) (hsz : sz ≤ 8) (T : ST) (hT : okZ T) (S : ST) (V : WT) (hV : okV V) (dn : Int32) (fb rb lb pb : Nat → Int32) (a : Nat) (ha : a + 100 < 2 ^ 31) (hS : okS V S a) (x : Int32) (h : isB (vnf V) x = false) : Con l M_X8_down [.ref 0, .int x] (xb kc (nI nx) (nI sz) (nx % 8) T S V dn fb rb lb pb) (fun r u => r = some (.int (-1)) ∧ ∃ rb lb pb, u = xb kc (nI nx) (nI sz) (nx % 8) T S V dn fb rb lb pb) := by
  refine con_of rfl rfl (Nat.le_of_ble_eq_true rfl) ?_
  refine g_lsN (ls' := [_, _]) rfl ?_
  refine g_aload_n (n := 1) dX8_down_0 rfl rfl ?_
  refine g_get (n := 4) fl_X8_65 dX8_down_1 rfl rfl rfl ?_
  refine g_iload_n (n := 5) dX8_down_4 rfl rfl ?_
  refine g_cutVi (ps := [6, 7, 8, 9, 10, 11, 12]) (w' := [_, _, _, _, _, _, _, _, _, _, _, _, _, _, _, _, _, _, _, _, _, _]) (n := 8) cv_X8_116 (t_X7_hasButtress l V hV dn _) dX8_down_5 rfl rfl rfl ⟨by decide, by decide, rfl, rfl, Nat.zero_le _, Nat.zero_le _⟩ rfl rfl rfl (Nat.le_of_ble_eq_true rfl) rfl rfl rfl ?_
  refine g_if_ne (tgt := 13) (n := 11) dX8_down_8 (by decide) rfl (fun c8 => absurd (bI_0.mpr h) c8) (fun c8 => ?_)
  refine g_iconst (v := (-1)) (n := 12) dX8_down_11 (by decide) rfl ?_
  exact g_iret (ty := .int) dX8_down_12 rfl rfl ⟨Nat.zero_le _, Nat.zero_le _⟩ ⟨rfl, _, _, _, rfl⟩
set_option maxRecDepth 20000 in
theorem t_X8_down_no (l : Launch) (kc : Int32) (nx : Nat) (sz : Nat) (hsz : sz ≤ 8) (T : ST) (hT : okZ T) (S : ST) (V : WT) (hV : okV V) (dn : Int32) (fb rb lb pb : Nat → Int32) (a : Nat) (ha : a + 100 < 2 ^ 31) (hS : okS V S a) (f : Nat) (hf : f < vnf V) (h : mdF V S f = false) : Con l M_X8_down [.ref 0, .int (nI f)] (xb kc (nI nx) (nI sz) (nx % 8) T S V dn fb rb lb pb) (fun r u => r = some (.int (-2)) ∧ ∃ rb lb pb, u = xb kc (nI nx) (nI sz) (nx % 8) T S V dn fb rb lb pb) := by
  have hV1 := hV.1
  have hV2 := hV.2.1
  have hV3 := hV.2.2
  refine con_of rfl rfl (Nat.le_of_ble_eq_true rfl) ?_
  refine g_lsN (ls' := [_, _]) rfl ?_
  refine g_aload_n (n := 1) dX8_down_0 rfl rfl ?_
  refine g_get (n := 4) fl_X8_65 dX8_down_1 rfl rfl rfl ?_
  refine g_iload_n (n := 5) dX8_down_4 rfl rfl ?_
  refine g_cutVi (ps := [6, 7, 8, 9, 10, 11, 12]) (w' := [_, _, _, _, _, _, _, _, _, _, _, _, _, _, _, _, _, _, _, _, _, _]) (n := 8) cv_X8_116 (t_X7_hasButtress l V hV dn _) dX8_down_5 rfl rfl rfl ⟨by decide, by decide, rfl, rfl, Nat.zero_le _, Nat.zero_le _⟩ rfl rfl rfl (Nat.le_of_ble_eq_true rfl) rfl rfl rfl ?_
  refine g_if_ne (tgt := 13) (n := 11) dX8_down_8 (by decide) rfl (fun c8 => ?_) (fun c8 => absurd c8 (bI_n0.mpr (show isB (vnf V) (nI f) = true by rw [isB_nI (by omega) (by omega)]; exact decide_eq_true hf)))
  refine g_aload_n (n := 14) dX8_down_13 rfl rfl ?_
  refine g_get (n := 17) fl_X8_47 dX8_down_14 rfl rfl rfl ?_
  refine g_aload_n (n := 18) dX8_down_17 rfl rfl ?_
  refine g_get (n := 21) fl_X8_65 dX8_down_18 rfl rfl rfl ?_
  refine g_iload_n (n := 22) dX8_down_21 rfl rfl ?_
  refine g_cutVi (ps := [6, 7, 8, 9, 10, 11, 12, 2, 3, 4, 5]) (w' := [_, _, _, _, _, _, _, _, _, _, _, _, _, _, _, _, _, _, _, _, _, _]) (n := 25) cv_X8_151 (t_X3_canComeDown l V hV dn fb S f hf a (by omega) hS.2.2.2) dX8_down_22 rfl rfl rfl ⟨by decide, by decide, rfl, rfl, Nat.zero_le _, Nat.zero_le _⟩ rfl rfl rfl (Nat.le_of_ble_eq_true rfl) rfl rfl rfl ?_
  refine g_if_ne (tgt := 31) (n := 28) dX8_down_25 (by decide) rfl (fun c25 => absurd (bI_0.mpr h) c25) (fun c25 => ?_)
  refine g_bipush (v := (-2)) (n := 30) dX8_down_28 (by decide) rfl ?_
  exact g_iret (ty := .int) dX8_down_30 rfl rfl ⟨Nat.zero_le _, Nat.zero_le _⟩ ⟨rfl, _, _, _, rfl⟩
set_option maxRecDepth 20000 in
theorem t_X8_up_bad (l : Launch) (kc : Int32) (nx : Nat) (sz : Nat) (hsz : sz ≤ 8) (T : ST) (hT : okZ T) (S : ST) (V : WT) (hV : okV V) (dn : Int32) (fb rb lb pb : Nat → Int32) (a : Nat) (ha : a + 100 < 2 ^ 31) (hS : okS V S a) (x : Int32) (h : isB (vnf V) x = false) : Con l M_X8_up [.ref 0, .int x] (xb kc (nI nx) (nI sz) (nx % 8) T S V dn fb rb lb pb) (fun r u => r = some (.int (-1)) ∧ ∃ rb lb pb, u = xb kc (nI nx) (nI sz) (nx % 8) T S V dn fb rb lb pb) := by
  refine con_of rfl rfl (Nat.le_of_ble_eq_true rfl) ?_
  refine g_lsN (ls' := [_, _]) rfl ?_
  refine g_aload_n (n := 1) dX8_up_0 rfl rfl ?_
  refine g_get (n := 4) fl_X8_65 dX8_up_1 rfl rfl rfl ?_
  refine g_iload_n (n := 5) dX8_up_4 rfl rfl ?_
  refine g_cutVi (ps := [6, 7, 8, 9, 10, 11, 12]) (w' := [_, _, _, _, _, _, _, _, _, _, _, _, _, _, _, _, _, _, _, _, _, _]) (n := 8) cv_X8_116 (t_X7_hasButtress l V hV dn _) dX8_up_5 rfl rfl rfl ⟨by decide, by decide, rfl, rfl, Nat.zero_le _, Nat.zero_le _⟩ rfl rfl rfl (Nat.le_of_ble_eq_true rfl) rfl rfl rfl ?_
  refine g_if_ne (tgt := 13) (n := 11) dX8_up_8 (by decide) rfl (fun c8 => absurd (bI_0.mpr h) c8) (fun c8 => ?_)
  refine g_iconst (v := (-1)) (n := 12) dX8_up_11 (by decide) rfl ?_
  exact g_iret (ty := .int) dX8_up_12 rfl rfl ⟨Nat.zero_le _, Nat.zero_le _⟩ ⟨rfl, _, _, _, rfl⟩
set_option maxRecDepth 20000 in
theorem t_X8_up_no (l : Launch) (kc : Int32) (nx : Nat) (sz : Nat) (hsz : sz ≤ 8) (T : ST) (hT : okZ T) (S : ST) (V : WT) (hV : okV V) (dn : Int32) (fb rb lb pb : Nat → Int32) (a : Nat) (ha : a + 100 < 2 ^ 31) (hS : okS V S a) (f : Nat) (hf : f < vnf V) (h : muF V S f = false) : Con l M_X8_up [.ref 0, .int (nI f)] (xb kc (nI nx) (nI sz) (nx % 8) T S V dn fb rb lb pb) (fun r u => r = some (.int (-2)) ∧ ∃ rb lb pb, u = xb kc (nI nx) (nI sz) (nx % 8) T S V dn fb rb lb pb) := by
  have hV1 := hV.1
  have hV2 := hV.2.1
  have hV3 := hV.2.2
  refine con_of rfl rfl (Nat.le_of_ble_eq_true rfl) ?_
  refine g_lsN (ls' := [_, _]) rfl ?_
  refine g_aload_n (n := 1) dX8_up_0 rfl rfl ?_
  refine g_get (n := 4) fl_X8_65 dX8_up_1 rfl rfl rfl ?_
  refine g_iload_n (n := 5) dX8_up_4 rfl rfl ?_
  refine g_cutVi (ps := [6, 7, 8, 9, 10, 11, 12]) (w' := [_, _, _, _, _, _, _, _, _, _, _, _, _, _, _, _, _, _, _, _, _, _]) (n := 8) cv_X8_116 (t_X7_hasButtress l V hV dn _) dX8_up_5 rfl rfl rfl ⟨by decide, by decide, rfl, rfl, Nat.zero_le _, Nat.zero_le _⟩ rfl rfl rfl (Nat.le_of_ble_eq_true rfl) rfl rfl rfl ?_
  refine g_if_ne (tgt := 13) (n := 11) dX8_up_8 (by decide) rfl (fun c8 => ?_) (fun c8 => absurd c8 (bI_n0.mpr (show isB (vnf V) (nI f) = true by rw [isB_nI (by omega) (by omega)]; exact decide_eq_true hf)))
  refine g_aload_n (n := 14) dX8_up_13 rfl rfl ?_
  refine g_get (n := 17) fl_X8_47 dX8_up_14 rfl rfl rfl ?_
  refine g_aload_n (n := 18) dX8_up_17 rfl rfl ?_
  refine g_get (n := 21) fl_X8_65 dX8_up_18 rfl rfl rfl ?_
  refine g_iload_n (n := 22) dX8_up_21 rfl rfl ?_
  refine g_cutVi (ps := [6, 7, 8, 9, 10, 11, 12, 2, 3, 4, 5]) (w' := [_, _, _, _, _, _, _, _, _, _, _, _, _, _, _, _, _, _, _, _, _, _]) (n := 25) cv_X8_159 (t_X3_canGoUp l V hV dn fb S f hf a (by omega) hS.2.2.2) dX8_up_22 rfl rfl rfl ⟨by decide, by decide, rfl, rfl, Nat.zero_le _, Nat.zero_le _⟩ rfl rfl rfl (Nat.le_of_ble_eq_true rfl) rfl rfl rfl ?_
  refine g_if_ne (tgt := 31) (n := 28) dX8_up_25 (by decide) rfl (fun c25 => absurd (bI_0.mpr h) c25) (fun c25 => ?_)
  refine g_bipush (v := (-2)) (n := 30) dX8_up_28 (by decide) rfl ?_
  exact g_iret (ty := .int) dX8_up_30 rfl rfl ⟨Nat.zero_le _, Nat.zero_le _⟩ ⟨rfl, _, _, _, rfl⟩
set_option maxRecDepth 20000 in
theorem t_X8_down_ok (l : Launch) (kc : Int32) (nx : Nat) (sz : Nat) (hsz : sz ≤ 8) (T : ST) (hT : okZ T) (S : ST) (V : WT) (hV : okV V) (dn : Int32) (fb rb lb pb : Nat → Int32) (a : Nat) (ha : a + 100 < 2 ^ 31) (hS : okS V S a) (f : Nat) (hf : f < vnf V) (h : mdF V S f = true) : Con l M_X8_down [.ref 0, .int (nI f)] (xb kc (nI nx) (nI sz) (nx % 8) T S V dn fb rb lb pb) (fun r u => r = some (.int (sti S f)) ∧ ∃ rb lb pb, u = xb kc (nI (nx + 1)) (nI (kpK sz)) (nx % 8) S (sUp S (sup S &&& ((nI 1 <<< (nI f &&& 31)) ^^^ (-1)))) V dn fb rb lb pb) := by
  have hV1 := hV.1
  have hV2 := hV.2.1
  have hV3 := hV.2.2
  refine con_of rfl rfl (Nat.le_of_ble_eq_true rfl) ?_
  refine g_lsN (ls' := [_, _]) rfl ?_
  refine g_aload_n (n := 1) dX8_down_0 rfl rfl ?_
  refine g_get (n := 4) fl_X8_65 dX8_down_1 rfl rfl rfl ?_
  refine g_iload_n (n := 5) dX8_down_4 rfl rfl ?_
  refine g_cutVi (ps := [6, 7, 8, 9, 10, 11, 12]) (w' := [_, _, _, _, _, _, _, _, _, _, _, _, _, _, _, _, _, _, _, _, _, _]) (n := 8) cv_X8_116 (t_X7_hasButtress l V hV dn _) dX8_down_5 rfl rfl rfl ⟨by decide, by decide, rfl, rfl, Nat.zero_le _, Nat.zero_le _⟩ rfl rfl rfl (Nat.le_of_ble_eq_true rfl) rfl rfl rfl ?_
  refine g_if_ne (tgt := 13) (n := 11) dX8_down_8 (by decide) rfl (fun c8 => ?_) (fun c8 => absurd c8 (bI_n0.mpr (show isB (vnf V) (nI f) = true by rw [isB_nI (by omega) (by omega)]; exact decide_eq_true hf)))
  refine g_aload_n (n := 14) dX8_down_13 rfl rfl ?_
  refine g_get (n := 17) fl_X8_47 dX8_down_14 rfl rfl rfl ?_
  refine g_aload_n (n := 18) dX8_down_17 rfl rfl ?_
  refine g_get (n := 21) fl_X8_65 dX8_down_18 rfl rfl rfl ?_
  refine g_iload_n (n := 22) dX8_down_21 rfl rfl ?_
  refine g_cutVi (ps := [6, 7, 8, 9, 10, 11, 12, 2, 3, 4, 5]) (w' := [_, _, _, _, _, _, _, _, _, _, _, _, _, _, _, _, _, _, _, _, _, _]) (n := 25) cv_X8_151 (t_X3_canComeDown l V hV dn fb S f hf a (by omega) hS.2.2.2) dX8_down_22 rfl rfl rfl ⟨by decide, by decide, rfl, rfl, Nat.zero_le _, Nat.zero_le _⟩ rfl rfl rfl (Nat.le_of_ble_eq_true rfl) rfl rfl rfl ?_
  refine g_if_ne (tgt := 31) (n := 28) dX8_down_25 (by decide) rfl (fun c25 => ?_) (fun c25 => absurd c25 (bI_n0.mpr h))
  refine g_aload_n (n := 32) dX8_down_31 rfl rfl ?_
  refine g_get (n := 35) fl_X8_54 dX8_down_32 rfl rfl rfl ?_
  refine g_aload_n (n := 36) dX8_down_35 rfl rfl ?_
  refine g_get (n := 39) fl_X8_47 dX8_down_36 rfl rfl rfl ?_
  refine g_cutVv (ps := psT) (w' := [_, _, _, _, _, _, _, _, _, _, _, _, _, _, _, _, _, _, _, _, _, _]) (n := 42) cv_X8_143 (t_X5_rem l nx sz hsz T S hT hS.1) dX8_down_39 rfl (lcons rfl (lcons (congrArg some (hsT _).symm) rfl)) rfl ⟨by decide, by decide, rfl, rfl, Nat.zero_le _, Nat.zero_le _⟩ rfl rfl rfl (Nat.le_of_ble_eq_true rfl) rfl rfl rfl ?_
  refine g_wN (w' := [_, _, _, _, _, _, _, _, _, _, _, _, _, _, _, _, _, rarr (nx % 8) 18 28, _, _, _, _]) (lcons rfl (lcons rfl (lcons rfl (lcons rfl (lcons rfl (lcons rfl (lcons rfl (lcons rfl (lcons rfl (lcons rfl (lcons rfl (lcons rfl (lcons rfl (lcons rfl (lcons rfl (lcons rfl (lcons rfl ((lcons (hsT _) rfl))))))))))))))))))) ?_
  refine g_aload_n (n := 43) dX8_down_42 rfl rfl ?_
  refine g_get (n := 46) fl_X8_47 dX8_down_43 rfl rfl rfl ?_
  refine g_iload_n (n := 47) dX8_down_46 rfl rfl ?_
  refine g_cutVv (ps := [2, 3, 4, 5]) (w' := [_, _, _, _, _, _, _, _, _, _, _, _, _, _, _, _, _, _, _, _, _, _]) (n := 50) cv_X8_155 (t_X3_comeDown l _ _) dX8_down_47 rfl rfl rfl ⟨by decide, by decide, rfl, rfl, Nat.zero_le _, Nat.zero_le _⟩ rfl rfl rfl (Nat.le_of_ble_eq_true rfl) rfl rfl rfl ?_
  refine g_aload_n (n := 51) dX8_down_50 rfl rfl ?_
  refine g_get (n := 54) fl_X8_47 dX8_down_51 rfl rfl rfl ?_
  refine g_get (n := 57) fl_X8_131 dX8_down_54 rfl rfl rfl ?_
  refine g_iload_n (n := 58) dX8_down_57 rfl rfl ?_
  refine g_ialdN (n := 59) dX8_down_58 rfl rfl (by decide) (by omega) ?_
  exact g_iret (ty := .int) dX8_down_59 rfl rfl ⟨Nat.zero_le _, Nat.zero_le _⟩ ⟨rfl, _, _, _, rfl⟩
set_option maxRecDepth 20000 in
theorem t_X8_up_ok (l : Launch) (kc : Int32) (nx : Nat) (sz : Nat) (hsz : sz ≤ 8) (T : ST) (hT : okZ T) (S : ST) (V : WT) (hV : okV V) (dn : Int32) (fb rb lb pb : Nat → Int32) (a : Nat) (ha : a + 100 < 2 ^ 31) (hS : okS V S a) (f : Nat) (hf : f < vnf V) (h : muF V S f = true) : Con l M_X8_up [.ref 0, .int (nI f)] (xb kc (nI nx) (nI sz) (nx % 8) T S V dn fb rb lb pb) (fun r u => r = some (.int (uaN V (sUp S (sup S ||| nI 1 <<< (nI f &&& 31))) f (vnf V))) ∧ ∃ rb lb pb, u = xb kc (nI (nx + 1)) (nI (kpK sz)) (nx % 8) S (sUp S (sup S ||| nI 1 <<< (nI f &&& 31))) V dn fb rb lb pb) := by
  have hV1 := hV.1
  have hV2 := hV.2.1
  have hV3 := hV.2.2
  refine con_of rfl rfl (Nat.le_of_ble_eq_true rfl) ?_
  refine g_lsN (ls' := [_, _]) rfl ?_
  refine g_aload_n (n := 1) dX8_up_0 rfl rfl ?_
  refine g_get (n := 4) fl_X8_65 dX8_up_1 rfl rfl rfl ?_
  refine g_iload_n (n := 5) dX8_up_4 rfl rfl ?_
  refine g_cutVi (ps := [6, 7, 8, 9, 10, 11, 12]) (w' := [_, _, _, _, _, _, _, _, _, _, _, _, _, _, _, _, _, _, _, _, _, _]) (n := 8) cv_X8_116 (t_X7_hasButtress l V hV dn _) dX8_up_5 rfl rfl rfl ⟨by decide, by decide, rfl, rfl, Nat.zero_le _, Nat.zero_le _⟩ rfl rfl rfl (Nat.le_of_ble_eq_true rfl) rfl rfl rfl ?_
  refine g_if_ne (tgt := 13) (n := 11) dX8_up_8 (by decide) rfl (fun c8 => ?_) (fun c8 => absurd c8 (bI_n0.mpr (show isB (vnf V) (nI f) = true by rw [isB_nI (by omega) (by omega)]; exact decide_eq_true hf)))
  refine g_aload_n (n := 14) dX8_up_13 rfl rfl ?_
  refine g_get (n := 17) fl_X8_47 dX8_up_14 rfl rfl rfl ?_
  refine g_aload_n (n := 18) dX8_up_17 rfl rfl ?_
  refine g_get (n := 21) fl_X8_65 dX8_up_18 rfl rfl rfl ?_
  refine g_iload_n (n := 22) dX8_up_21 rfl rfl ?_
  refine g_cutVi (ps := [6, 7, 8, 9, 10, 11, 12, 2, 3, 4, 5]) (w' := [_, _, _, _, _, _, _, _, _, _, _, _, _, _, _, _, _, _, _, _, _, _]) (n := 25) cv_X8_159 (t_X3_canGoUp l V hV dn fb S f hf a (by omega) hS.2.2.2) dX8_up_22 rfl rfl rfl ⟨by decide, by decide, rfl, rfl, Nat.zero_le _, Nat.zero_le _⟩ rfl rfl rfl (Nat.le_of_ble_eq_true rfl) rfl rfl rfl ?_
  refine g_if_ne (tgt := 31) (n := 28) dX8_up_25 (by decide) rfl (fun c25 => ?_) (fun c25 => absurd c25 (bI_n0.mpr h))
  refine g_aload_n (n := 32) dX8_up_31 rfl rfl ?_
  refine g_get (n := 35) fl_X8_54 dX8_up_32 rfl rfl rfl ?_
  refine g_aload_n (n := 36) dX8_up_35 rfl rfl ?_
  refine g_get (n := 39) fl_X8_47 dX8_up_36 rfl rfl rfl ?_
  refine g_cutVv (ps := psT) (w' := [_, _, _, _, _, _, _, _, _, _, _, _, _, _, _, _, _, _, _, _, _, _]) (n := 42) cv_X8_143 (t_X5_rem l nx sz hsz T S hT hS.1) dX8_up_39 rfl (lcons rfl (lcons (congrArg some (hsT _).symm) rfl)) rfl ⟨by decide, by decide, rfl, rfl, Nat.zero_le _, Nat.zero_le _⟩ rfl rfl rfl (Nat.le_of_ble_eq_true rfl) rfl rfl rfl ?_
  refine g_wN (w' := [_, _, _, _, _, _, _, _, _, _, _, _, _, _, _, _, _, rarr (nx % 8) 18 28, _, _, _, _]) (lcons rfl (lcons rfl (lcons rfl (lcons rfl (lcons rfl (lcons rfl (lcons rfl (lcons rfl (lcons rfl (lcons rfl (lcons rfl (lcons rfl (lcons rfl (lcons rfl (lcons rfl (lcons rfl (lcons rfl ((lcons (hsT _) rfl))))))))))))))))))) ?_
  refine g_aload_n (n := 43) dX8_up_42 rfl rfl ?_
  refine g_get (n := 46) fl_X8_47 dX8_up_43 rfl rfl rfl ?_
  refine g_iload_n (n := 47) dX8_up_46 rfl rfl ?_
  refine g_cutVv (ps := [2, 3, 4, 5]) (w' := [_, _, _, _, _, _, _, _, _, _, _, _, _, _, _, _, _, _, _, _, _, _]) (n := 50) cv_X8_162 (t_X3_goUp l _ _) dX8_up_47 rfl rfl rfl ⟨by decide, by decide, rfl, rfl, Nat.zero_le _, Nat.zero_le _⟩ rfl rfl rfl (Nat.le_of_ble_eq_true rfl) rfl rfl rfl ?_
  refine g_aload_n (n := 51) dX8_up_50 rfl rfl ?_
  refine g_get (n := 54) fl_X8_47 dX8_up_51 rfl rfl rfl ?_
  refine g_aload_n (n := 55) dX8_up_54 rfl rfl ?_
  refine g_get (n := 58) fl_X8_65 dX8_up_55 rfl rfl rfl ?_
  refine g_aload_n (n := 59) dX8_up_58 rfl rfl ?_
  refine g_get (n := 62) fl_X8_47 dX8_up_59 rfl rfl rfl ?_
  refine g_get (n := 65) fl_X8_125 dX8_up_62 rfl rfl rfl ?_
  refine g_iload_n (n := 66) dX8_up_65 rfl rfl ?_
  refine g_ialdN (n := 67) dX8_up_66 rfl rfl (by decide) (by omega) ?_
  refine g_cutVi (ps := [6, 7, 8, 9, 10, 11, 12, 2, 3, 4, 5]) (w' := [_, _, _, _, _, _, _, _, _, _, _, _, _, _, _, _, _, _, _, _, _, _]) (n := 70) cv_X8_165 (t_X3_upAt l V hV dn fb (sUp S (sup S ||| nI 1 <<< (nI f &&& 31))) f hf) dX8_up_67 rfl rfl rfl ⟨by decide, by decide, rfl, rfl, Nat.zero_le _, Nat.zero_le _⟩ rfl rfl rfl (Nat.le_of_ble_eq_true rfl) rfl rfl rfl ?_
  exact g_iret (ty := .int) dX8_up_70 rfl rfl ⟨Nat.zero_le _, Nat.zero_le _⟩ ⟨rfl, _, _, _, rfl⟩
set_option maxRecDepth 20000 in
theorem t_X8_send_bad1 (l : Launch) (kc : Int32) (nx : Nat) (sz : Nat) (hsz : sz ≤ 8) (T : ST) (hT : okZ T) (S : ST) (V : WT) (hV : okV V) (dn : Int32) (fb rb lb pb : Nat → Int32) (a : Nat) (ha : a + 100 < 2 ^ 31) (hS : okS V S a) (x y : Int32) (h : isB (vnf V) x = false) : Con l M_X8_send [.ref 0, .int x, .int y] (xb kc (nI nx) (nI sz) (nx % 8) T S V dn fb rb lb pb) (fun r u => r = some (.int (-1)) ∧ ∃ rb lb pb, u = xb kc (nI nx) (nI sz) (nx % 8) T S V dn fb rb lb pb) := by
  refine con_of rfl rfl (Nat.le_of_ble_eq_true rfl) ?_
  refine g_lsN (ls' := [_, _, _, _]) rfl ?_
  refine g_aload_n (n := 1) dX8_send_0 rfl rfl ?_
  refine g_get (n := 4) fl_X8_65 dX8_send_1 rfl rfl rfl ?_
  refine g_iload_n (n := 5) dX8_send_4 rfl rfl ?_
  refine g_cutVi (ps := [6, 7, 8, 9, 10, 11, 12]) (w' := [_, _, _, _, _, _, _, _, _, _, _, _, _, _, _, _, _, _, _, _, _, _]) (n := 8) cv_X8_116 (t_X7_hasButtress l V hV dn _) dX8_send_5 rfl rfl rfl ⟨by decide, by decide, rfl, rfl, Nat.zero_le _, Nat.zero_le _⟩ rfl rfl rfl (Nat.le_of_ble_eq_true rfl) rfl rfl rfl ?_
  refine g_if_eq (tgt := 22) (n := 11) dX8_send_8 (by decide) rfl (fun c8 => ?_) (fun c8 => absurd (bI_0.mpr h) c8)
  refine g_iconst (v := (-1)) (n := 23) dX8_send_22 (by decide) rfl ?_
  exact g_iret (ty := .int) dX8_send_23 rfl rfl ⟨Nat.zero_le _, Nat.zero_le _⟩ ⟨rfl, _, _, _, rfl⟩
set_option maxRecDepth 20000 in
theorem t_X8_send_bad2 (l : Launch) (kc : Int32) (nx : Nat) (sz : Nat) (hsz : sz ≤ 8) (T : ST) (hT : okZ T) (S : ST) (V : WT) (hV : okV V) (dn : Int32) (fb rb lb pb : Nat → Int32) (a : Nat) (ha : a + 100 < 2 ^ 31) (hS : okS V S a) (x y : Int32) (h : isB (vnf V) x = true) (h2 : isB (vnb V) y = false) : Con l M_X8_send [.ref 0, .int x, .int y] (xb kc (nI nx) (nI sz) (nx % 8) T S V dn fb rb lb pb) (fun r u => r = some (.int (-1)) ∧ ∃ rb lb pb, u = xb kc (nI nx) (nI sz) (nx % 8) T S V dn fb rb lb pb) := by
  refine con_of rfl rfl (Nat.le_of_ble_eq_true rfl) ?_
  refine g_lsN (ls' := [_, _, _, _]) rfl ?_
  refine g_aload_n (n := 1) dX8_send_0 rfl rfl ?_
  refine g_get (n := 4) fl_X8_65 dX8_send_1 rfl rfl rfl ?_
  refine g_iload_n (n := 5) dX8_send_4 rfl rfl ?_
  refine g_cutVi (ps := [6, 7, 8, 9, 10, 11, 12]) (w' := [_, _, _, _, _, _, _, _, _, _, _, _, _, _, _, _, _, _, _, _, _, _]) (n := 8) cv_X8_116 (t_X7_hasButtress l V hV dn _) dX8_send_5 rfl rfl rfl ⟨by decide, by decide, rfl, rfl, Nat.zero_le _, Nat.zero_le _⟩ rfl rfl rfl (Nat.le_of_ble_eq_true rfl) rfl rfl rfl ?_
  refine g_if_eq (tgt := 22) (n := 11) dX8_send_8 (by decide) rfl (fun c8 => absurd c8 (bI_n0.mpr h)) (fun c8 => ?_)
  refine g_aload_n (n := 12) dX8_send_11 rfl rfl ?_
  refine g_get (n := 15) fl_X8_65 dX8_send_12 rfl rfl rfl ?_
  refine g_iload_n (n := 16) dX8_send_15 rfl rfl ?_
  refine g_cutVi (ps := [6, 7, 8, 9, 10, 11, 12]) (w' := [_, _, _, _, _, _, _, _, _, _, _, _, _, _, _, _, _, _, _, _, _, _]) (n := 19) cv_X8_98 (t_X7_hasBay l V hV dn _) dX8_send_16 rfl rfl rfl ⟨by decide, by decide, rfl, rfl, Nat.zero_le _, Nat.zero_le _⟩ rfl rfl rfl (Nat.le_of_ble_eq_true rfl) rfl rfl rfl ?_
  refine g_if_ne (tgt := 24) (n := 22) dX8_send_19 (by decide) rfl (fun c19 => absurd (bI_0.mpr h2) c19) (fun c19 => ?_)
  refine g_iconst (v := (-1)) (n := 23) dX8_send_22 (by decide) rfl ?_
  exact g_iret (ty := .int) dX8_send_23 rfl rfl ⟨Nat.zero_le _, Nat.zero_le _⟩ ⟨rfl, _, _, _, rfl⟩
set_option maxRecDepth 20000 in
theorem t_X8_send_no (l : Launch) (kc : Int32) (nx : Nat) (sz : Nat) (hsz : sz ≤ 8) (T : ST) (hT : okZ T) (S : ST) (V : WT) (hV : okV V) (dn : Int32) (fb rb lb pb : Nat → Int32) (a : Nat) (ha : a + 100 < 2 ^ 31) (hS : okS V S a) (f : Nat) (hf : f < vnf V) (b : Nat) (hb_ : b < vnb V) (h : hb (sup S) (nI f) = true) : Con l M_X8_send [.ref 0, .int (nI f), .int (nI b)] (xb kc (nI nx) (nI sz) (nx % 8) T S V dn fb rb lb pb) (fun r u => r = some (.int (-2)) ∧ ∃ rb lb pb, u = xb kc (nI nx) (nI sz) (nx % 8) T S V dn fb rb lb pb) := by
  have hV1 := hV.1
  have hV2 := hV.2.1
  have hV3 := hV.2.2
  refine con_of rfl rfl (Nat.le_of_ble_eq_true rfl) ?_
  refine g_lsN (ls' := [_, _, _, _]) rfl ?_
  refine g_aload_n (n := 1) dX8_send_0 rfl rfl ?_
  refine g_get (n := 4) fl_X8_65 dX8_send_1 rfl rfl rfl ?_
  refine g_iload_n (n := 5) dX8_send_4 rfl rfl ?_
  refine g_cutVi (ps := [6, 7, 8, 9, 10, 11, 12]) (w' := [_, _, _, _, _, _, _, _, _, _, _, _, _, _, _, _, _, _, _, _, _, _]) (n := 8) cv_X8_116 (t_X7_hasButtress l V hV dn _) dX8_send_5 rfl rfl rfl ⟨by decide, by decide, rfl, rfl, Nat.zero_le _, Nat.zero_le _⟩ rfl rfl rfl (Nat.le_of_ble_eq_true rfl) rfl rfl rfl ?_
  refine g_if_eq (tgt := 22) (n := 11) dX8_send_8 (by decide) rfl (fun c8 => absurd c8 (bI_n0.mpr (show isB (vnf V) (nI f) = true by rw [isB_nI (by omega) (by omega)]; exact decide_eq_true hf))) (fun c8 => ?_)
  refine g_aload_n (n := 12) dX8_send_11 rfl rfl ?_
  refine g_get (n := 15) fl_X8_65 dX8_send_12 rfl rfl rfl ?_
  refine g_iload_n (n := 16) dX8_send_15 rfl rfl ?_
  refine g_cutVi (ps := [6, 7, 8, 9, 10, 11, 12]) (w' := [_, _, _, _, _, _, _, _, _, _, _, _, _, _, _, _, _, _, _, _, _, _]) (n := 19) cv_X8_98 (t_X7_hasBay l V hV dn _) dX8_send_16 rfl rfl rfl ⟨by decide, by decide, rfl, rfl, Nat.zero_le _, Nat.zero_le _⟩ rfl rfl rfl (Nat.le_of_ble_eq_true rfl) rfl rfl rfl ?_
  refine g_if_ne (tgt := 24) (n := 22) dX8_send_19 (by decide) rfl (fun c19 => ?_) (fun c19 => absurd c19 (bI_n0.mpr (show isB (vnb V) (nI b) = true by rw [isB_nI (by omega) (by omega)]; exact decide_eq_true hb_)))
  refine g_aload_n (n := 25) dX8_send_24 rfl rfl ?_
  refine g_get (n := 28) fl_X8_47 dX8_send_25 rfl rfl rfl ?_
  refine g_iload_n (n := 29) dX8_send_28 rfl rfl ?_
  refine g_cutVi (ps := [2, 3, 4, 5]) (w' := [_, _, _, _, _, _, _, _, _, _, _, _, _, _, _, _, _, _, _, _, _, _]) (n := 32) cv_X8_134 (t_X3_isUp l _ _) dX8_send_29 rfl rfl rfl ⟨by decide, by decide, rfl, rfl, Nat.zero_le _, Nat.zero_le _⟩ rfl rfl rfl (Nat.le_of_ble_eq_true rfl) rfl rfl rfl ?_
  refine g_if_eq (tgt := 38) (n := 35) dX8_send_32 (by decide) rfl (fun c32 => absurd c32 (bI_n0.mpr h)) (fun c32 => ?_)
  refine g_bipush (v := (-2)) (n := 37) dX8_send_35 (by decide) rfl ?_
  exact g_iret (ty := .int) dX8_send_37 rfl rfl ⟨Nat.zero_le _, Nat.zero_le _⟩ ⟨rfl, _, _, _, rfl⟩
set_option maxRecDepth 20000 in
theorem t_X8_send_ok (l : Launch) (kc : Int32) (nx : Nat) (sz : Nat) (hsz : sz ≤ 8) (T : ST) (hT : okZ T) (S : ST) (V : WT) (hV : okV V) (dn : Int32) (fb rb lb pb : Nat → Int32) (a : Nat) (ha : a + 100 < 2 ^ 31) (hS : okS V S a) (f : Nat) (hf : f < vnf V) (b : Nat) (hb_ : b < vnb V) (h : hb (sup S) (nI f) = false) : Con l M_X8_send [.ref 0, .int (nI f), .int (nI b)] (xb kc (nI nx) (nI sz) (nx % 8) T S V dn fb rb lb pb) (fun r u => r = some (.int (sbo S f)) ∧ ∃ rb lb pb, u = xb kc (nI (nx + 1)) (nI (kpK sz)) (nx % 8) S (sBo S (upd (sbo S) f (nI b))) V dn fb rb lb pb) := by
  have hV1 := hV.1
  have hV2 := hV.2.1
  have hV3 := hV.2.2
  refine con_of rfl rfl (Nat.le_of_ble_eq_true rfl) ?_
  refine g_lsN (ls' := [_, _, _, _]) rfl ?_
  refine g_aload_n (n := 1) dX8_send_0 rfl rfl ?_
  refine g_get (n := 4) fl_X8_65 dX8_send_1 rfl rfl rfl ?_
  refine g_iload_n (n := 5) dX8_send_4 rfl rfl ?_
  refine g_cutVi (ps := [6, 7, 8, 9, 10, 11, 12]) (w' := [_, _, _, _, _, _, _, _, _, _, _, _, _, _, _, _, _, _, _, _, _, _]) (n := 8) cv_X8_116 (t_X7_hasButtress l V hV dn _) dX8_send_5 rfl rfl rfl ⟨by decide, by decide, rfl, rfl, Nat.zero_le _, Nat.zero_le _⟩ rfl rfl rfl (Nat.le_of_ble_eq_true rfl) rfl rfl rfl ?_
  refine g_if_eq (tgt := 22) (n := 11) dX8_send_8 (by decide) rfl (fun c8 => absurd c8 (bI_n0.mpr (show isB (vnf V) (nI f) = true by rw [isB_nI (by omega) (by omega)]; exact decide_eq_true hf))) (fun c8 => ?_)
  refine g_aload_n (n := 12) dX8_send_11 rfl rfl ?_
  refine g_get (n := 15) fl_X8_65 dX8_send_12 rfl rfl rfl ?_
  refine g_iload_n (n := 16) dX8_send_15 rfl rfl ?_
  refine g_cutVi (ps := [6, 7, 8, 9, 10, 11, 12]) (w' := [_, _, _, _, _, _, _, _, _, _, _, _, _, _, _, _, _, _, _, _, _, _]) (n := 19) cv_X8_98 (t_X7_hasBay l V hV dn _) dX8_send_16 rfl rfl rfl ⟨by decide, by decide, rfl, rfl, Nat.zero_le _, Nat.zero_le _⟩ rfl rfl rfl (Nat.le_of_ble_eq_true rfl) rfl rfl rfl ?_
  refine g_if_ne (tgt := 24) (n := 22) dX8_send_19 (by decide) rfl (fun c19 => ?_) (fun c19 => absurd c19 (bI_n0.mpr (show isB (vnb V) (nI b) = true by rw [isB_nI (by omega) (by omega)]; exact decide_eq_true hb_)))
  refine g_aload_n (n := 25) dX8_send_24 rfl rfl ?_
  refine g_get (n := 28) fl_X8_47 dX8_send_25 rfl rfl rfl ?_
  refine g_iload_n (n := 29) dX8_send_28 rfl rfl ?_
  refine g_cutVi (ps := [2, 3, 4, 5]) (w' := [_, _, _, _, _, _, _, _, _, _, _, _, _, _, _, _, _, _, _, _, _, _]) (n := 32) cv_X8_134 (t_X3_isUp l _ _) dX8_send_29 rfl rfl rfl ⟨by decide, by decide, rfl, rfl, Nat.zero_le _, Nat.zero_le _⟩ rfl rfl rfl (Nat.le_of_ble_eq_true rfl) rfl rfl rfl ?_
  refine g_if_eq (tgt := 38) (n := 35) dX8_send_32 (by decide) rfl (fun c32 => ?_) (fun c32 => absurd (bI_0.mpr h) c32)
  refine g_aload_n (n := 39) dX8_send_38 rfl rfl ?_
  refine g_get (n := 42) fl_X8_54 dX8_send_39 rfl rfl rfl ?_
  refine g_aload_n (n := 43) dX8_send_42 rfl rfl ?_
  refine g_get (n := 46) fl_X8_47 dX8_send_43 rfl rfl rfl ?_
  refine g_cutVv (ps := psT) (w' := [_, _, _, _, _, _, _, _, _, _, _, _, _, _, _, _, _, _, _, _, _, _]) (n := 49) cv_X8_143 (t_X5_rem l nx sz hsz T S hT hS.1) dX8_send_46 rfl (lcons rfl (lcons (congrArg some (hsT _).symm) rfl)) rfl ⟨by decide, by decide, rfl, rfl, Nat.zero_le _, Nat.zero_le _⟩ rfl rfl rfl (Nat.le_of_ble_eq_true rfl) rfl rfl rfl ?_
  refine g_wN (w' := [_, _, _, _, _, _, _, _, _, _, _, _, _, _, _, _, _, rarr (nx % 8) 18 28, _, _, _, _]) (lcons rfl (lcons rfl (lcons rfl (lcons rfl (lcons rfl (lcons rfl (lcons rfl (lcons rfl (lcons rfl (lcons rfl (lcons rfl (lcons rfl (lcons rfl (lcons rfl (lcons rfl (lcons rfl (lcons rfl ((lcons (hsT _) rfl))))))))))))))))))) ?_
  refine g_aload_n (n := 50) dX8_send_49 rfl rfl ?_
  refine g_get (n := 53) fl_X8_47 dX8_send_50 rfl rfl rfl ?_
  refine g_get (n := 56) fl_X8_125 dX8_send_53 rfl rfl rfl ?_
  refine g_iload_n (n := 57) dX8_send_56 rfl rfl ?_
  refine g_ialdN (n := 58) dX8_send_57 rfl rfl (by decide) (by omega) ?_
  refine g_istore_n (n := 59) dX8_send_58 (by decide) rfl rfl ?_
  refine g_lsN (ls' := [_, _, _, _]) rfl ?_
  refine g_aload_n (n := 60) dX8_send_59 rfl rfl ?_
  refine g_get (n := 63) fl_X8_47 dX8_send_60 rfl rfl rfl ?_
  refine g_get (n := 66) fl_X8_125 dX8_send_63 rfl rfl rfl ?_
  refine g_iload_n (n := 67) dX8_send_66 rfl rfl ?_
  refine g_iload_n (n := 68) dX8_send_67 rfl rfl ?_
  refine g_iastN (n := 69) dX8_send_68 rfl rfl (by decide) (by omega) ?_
  refine g_wN (w' := [_, _, _, _, _, _, _, _, _, _, _, _, _, _, _, _, _, _, _, _, _, _]) rfl ?_
  refine g_iload_n (n := 70) dX8_send_69 rfl rfl ?_
  exact g_iret (ty := .int) dX8_send_70 rfl rfl ⟨Nat.zero_le _, Nat.zero_le _⟩ ⟨rfl, _, _, _, rfl⟩
set_option maxRecDepth 20000 in
theorem t_X8_undo_no (l : Launch) (kc : Int32) (nx : Int32) (k : Nat) (T : ST) (hT : okZ T) (S : ST) (V : WT) (hV : okV V) (dn : Int32) (fb rb lb pb : Nat → Int32) (a : Nat) (ha : a + 100 < 2 ^ 31) (hS : okS V S a) : Con l M_X8_undo [.ref 0] (xb kc nx (nI 0) k T S V dn fb rb lb pb) (fun r u => r = some (.int (-2)) ∧ ∃ rb lb pb, u = xb kc nx (nI 0) k T S V dn fb rb lb pb) := by
  refine con_of rfl rfl (Nat.le_of_ble_eq_true rfl) ?_
  refine g_lsN (ls' := [_]) rfl ?_
  refine g_aload_n (n := 1) dX8_undo_0 rfl rfl ?_
  refine g_get (n := 4) fl_X8_54 dX8_undo_1 rfl rfl rfl ?_
  refine g_aload_n (n := 5) dX8_undo_4 rfl rfl ?_
  refine g_get (n := 8) fl_X8_47 dX8_undo_5 rfl rfl rfl ?_
  refine g_cutVi (ps := psT) (w' := [_, _, _, _, _, _, _, _, _, _, _, _, _, _, _, _, _, _, _, _, _, _]) (n := 11) cv_X8_169 (t_X5_res_no l nx k T S hT hS.1) dX8_undo_8 rfl (lcons rfl (lcons (congrArg some (hsT _).symm) rfl)) rfl ⟨by decide, by decide, rfl, rfl, Nat.zero_le _, Nat.zero_le _⟩ rfl rfl rfl (Nat.le_of_ble_eq_true rfl) rfl rfl rfl ?_
  refine g_wN (w' := [_, _, _, _, _, _, _, _, _, _, _, _, _, _, _, _, _, rarr k 18 28, _, _, _, _]) (lcons rfl (lcons rfl (lcons rfl (lcons rfl (lcons rfl (lcons rfl (lcons rfl (lcons rfl (lcons rfl (lcons rfl (lcons rfl (lcons rfl (lcons rfl (lcons rfl (lcons rfl (lcons rfl (lcons rfl ((lcons (hsT _) rfl))))))))))))))))))) ?_
  refine g_if_eq (tgt := 24) (n := 14) dX8_undo_11 (by decide) rfl (fun c11 => ?_) (fun c11 => absurd rfl c11)
  refine g_bipush (v := (-2)) (n := 26) dX8_undo_24 (by decide) rfl ?_
  exact g_iret (ty := .int) dX8_undo_26 rfl rfl ⟨Nat.zero_le _, Nat.zero_le _⟩ ⟨rfl, _, _, _, rfl⟩
set_option maxRecDepth 20000 in
theorem t_X8_undo_ok (l : Launch) (kc : Int32) (nx : Nat) (sz : Nat) (hsz : sz ≤ 8) (T : ST) (hT : okZ T) (S : ST) (V : WT) (hV : okV V) (dn : Int32) (fb rb lb pb : Nat → Int32) (a : Nat) (ha : a + 100 < 2 ^ 31) (hS : okS V S a) (h0 : 0 < sz) : Con l M_X8_undo [.ref 0] (xb kc (nI nx) (nI sz) ((nx + 7) % 8) T S V dn fb rb lb pb) (fun r u => r = some (.int (nI (sz - 1))) ∧ ∃ rb lb pb, u = xb kc (nI (dn1 nx)) (nI (sz - 1)) ((nx + 7) % 8) T T V dn fb rb lb pb) := by
  refine con_of rfl rfl (Nat.le_of_ble_eq_true rfl) ?_
  refine g_lsN (ls' := [_]) rfl ?_
  refine g_aload_n (n := 1) dX8_undo_0 rfl rfl ?_
  refine g_get (n := 4) fl_X8_54 dX8_undo_1 rfl rfl rfl ?_
  refine g_aload_n (n := 5) dX8_undo_4 rfl rfl ?_
  refine g_get (n := 8) fl_X8_47 dX8_undo_5 rfl rfl rfl ?_
  refine g_cutVi (ps := psT) (w' := [_, _, _, _, _, _, _, _, _, _, _, _, _, _, _, _, _, _, _, _, _, _]) (n := 11) cv_X8_169 (t_X5_res l nx sz h0 hsz T S hT hS.1) dX8_undo_8 rfl (lcons rfl (lcons (congrArg some (hsT _).symm) rfl)) rfl ⟨by decide, by decide, rfl, rfl, Nat.zero_le _, Nat.zero_le _⟩ rfl rfl rfl (Nat.le_of_ble_eq_true rfl) rfl rfl rfl ?_
  refine g_wN (w' := [_, _, _, _, _, _, _, _, _, _, _, _, _, _, _, _, _, rarr ((nx + 7) % 8) 18 28, _, _, _, _]) (lcons rfl (lcons rfl (lcons rfl (lcons rfl (lcons rfl (lcons rfl (lcons rfl (lcons rfl (lcons rfl (lcons rfl (lcons rfl (lcons rfl (lcons rfl (lcons rfl (lcons rfl (lcons rfl (lcons rfl ((lcons (hsT _) rfl))))))))))))))))))) ?_
  refine g_if_eq (tgt := 24) (n := 14) dX8_undo_11 (by decide) rfl (fun c11 => absurd c11 (by decide)) (fun c11 => ?_)
  refine g_aload_n (n := 15) dX8_undo_14 rfl rfl ?_
  refine g_get (n := 18) fl_X8_54 dX8_undo_15 rfl rfl rfl ?_
  refine g_get (n := 21) fl_X8_173 dX8_undo_18 rfl rfl rfl ?_
  refine g_goto (tgt := 26) dX8_undo_21 (by decide) ?_
  exact g_iret (ty := .int) dX8_undo_26 rfl rfl ⟨Nat.zero_le _, Nat.zero_le _⟩ ⟨rfl, _, _, _, rfl⟩

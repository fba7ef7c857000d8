/-! 45.claid: the class's write, wipe, fault, lay, keep, back -/
/-- 0 itself, 1 text, 2 letters; named: 3 reader, 4 clock, 5 trial, 6 rosters, 7 now, 8 trail, 9 kept, 10 laid, 11 spare -/
abbrev xt (kc : Int32) (n : Nat) (tf : Nat → Int32) : List va_E := [.inr (8, [.ref 1, .ref 3, .ref 4, .ref 5, .ref 6, .ref 7, .ref 8, .ref 9, .int kc, .ref 10, .ref 11]), .inr (4, [.ref 2, .int (nI n)]), .inl (1, 200, .inl tf)]
theorem i2c_n {a : Nat} (h : a < 65536) : ((nI a).toUInt32 % 65536).toInt32 = nI a := by
  rw [pk_char, pk_tn (by omega), Nat.mod_eq_of_lt h]

set_option maxRecDepth 20000 in
theorem t_X8_write_bad (l : Launch) (kc : Int32) (n : Nat) (tf : Nat → Int32) (x : Int32) (h : inB x (nI 32) (nI 126) = false) : Fn l M_X8_write [.ref 0, .int x] (xt kc n tf) (some (.int (-1))) (xt kc n tf) := by
  refine con_of rfl rfl (Nat.le_of_ble_eq_true rfl) ?_
  refine g_lsN (ls' := [_, _]) rfl ?_
  refine g_iload_n (n := 1) dX8_write_0 rfl rfl ?_
  refine g_bipush (v := nI 32) (n := 3) dX8_write_1 (by decide) rfl ?_
  refine g_icmp_lt (tgt := 12) (n := 6) dX8_write_3 (by decide) rfl (fun c3 => ?_) (fun c3 => ?_)
  ·
    refine g_iconst (v := (-1)) (n := 13) dX8_write_12 (by decide) rfl ?_
    exact g_iret (ty := .int) dX8_write_13 rfl rfl ⟨Nat.zero_le _, Nat.zero_le _⟩ ⟨rfl, rfl⟩
  ·
    refine g_iload_n (n := 7) dX8_write_6 rfl rfl ?_
    refine g_bipush (v := nI 126) (n := 9) dX8_write_7 (by decide) rfl ?_
    refine g_icmp_le (tgt := 14) (n := 12) dX8_write_9 (by decide) rfl (fun c9 => ?_) (fun c9 => ?_)
    ·
      exact inB_x h c3 c9
    ·
      refine g_iconst (v := (-1)) (n := 13) dX8_write_12 (by decide) rfl ?_
      exact g_iret (ty := .int) dX8_write_13 rfl rfl ⟨Nat.zero_le _, Nat.zero_le _⟩ ⟨rfl, rfl⟩
set_option maxRecDepth 20000 in
theorem t_X8_write_full (l : Launch) (kc : Int32) (tf : Nat → Int32) (a : Nat) (ha : a < 65536) (h : inB (nI a) (nI 32) (nI 126) = true) : Fn l M_X8_write [.ref 0, .int (nI a)] (xt kc 200 tf) (some (.int (-3))) (xt kc 200 tf) := by
  refine con_of rfl rfl (Nat.le_of_ble_eq_true rfl) ?_
  refine g_lsN (ls' := [_, _]) rfl ?_
  refine g_iload_n (n := 1) dX8_write_0 rfl rfl ?_
  refine g_bipush (v := nI 32) (n := 3) dX8_write_1 (by decide) rfl ?_
  refine g_icmp_lt (tgt := 12) (n := 6) dX8_write_3 (by decide) rfl (fun c3 => absurd c3 (inB_ge h)) (fun c3 => ?_)
  refine g_iload_n (n := 7) dX8_write_6 rfl rfl ?_
  refine g_bipush (v := nI 126) (n := 9) dX8_write_7 (by decide) rfl ?_
  refine g_icmp_le (tgt := 14) (n := 12) dX8_write_9 (by decide) rfl (fun c9 => ?_) (fun c9 => absurd (inB_le h) c9)
  refine g_aload_n (n := 15) dX8_write_14 rfl rfl ?_
  refine g_get (n := 18) fl_X8_10 dX8_write_15 rfl rfl rfl ?_
  refine g_iload_n (n := 19) dX8_write_18 rfl rfl ?_
  refine g_i2c (n := 20) dX8_write_19 rfl ?_
  refine g_top (i2c_n ha) ?_
  refine g_cutVi (ps := [1, 2]) (w' := [_, _, _]) (n := 23) cv_X8_84 (t_X4_add_no l tf _) dX8_write_20 rfl rfl rfl ⟨by decide, by decide, rfl, rfl, Nat.zero_le _, Nat.zero_le _⟩ rfl rfl rfl (Nat.le_of_ble_eq_true rfl) rfl rfl rfl ?_
  refine g_if_eq (tgt := 36) (n := 26) dX8_write_23 (by decide) rfl (fun c23 => ?_) (fun c23 => absurd rfl c23)
  refine g_bipush (v := (-3)) (n := 38) dX8_write_36 (by decide) rfl ?_
  exact g_iret (ty := .int) dX8_write_38 rfl rfl ⟨Nat.zero_le _, Nat.zero_le _⟩ ⟨rfl, rfl⟩
set_option maxRecDepth 20000 in
theorem t_X8_write_ok (l : Launch) (kc : Int32) (n : Nat) (hn : n < 200) (tf : Nat → Int32) (a : Nat) (ha : a < 65536) (h : inB (nI a) (nI 32) (nI 126) = true) : Fn l M_X8_write [.ref 0, .int (nI a)] (xt kc n tf) (some (.int (nI (n + 1)))) (xt kc (n + 1) (upd tf n (nI a))) := by
  refine con_of rfl rfl (Nat.le_of_ble_eq_true rfl) ?_
  refine g_lsN (ls' := [_, _]) rfl ?_
  refine g_iload_n (n := 1) dX8_write_0 rfl rfl ?_
  refine g_bipush (v := nI 32) (n := 3) dX8_write_1 (by decide) rfl ?_
  refine g_icmp_lt (tgt := 12) (n := 6) dX8_write_3 (by decide) rfl (fun c3 => absurd c3 (inB_ge h)) (fun c3 => ?_)
  refine g_iload_n (n := 7) dX8_write_6 rfl rfl ?_
  refine g_bipush (v := nI 126) (n := 9) dX8_write_7 (by decide) rfl ?_
  refine g_icmp_le (tgt := 14) (n := 12) dX8_write_9 (by decide) rfl (fun c9 => ?_) (fun c9 => absurd (inB_le h) c9)
  refine g_aload_n (n := 15) dX8_write_14 rfl rfl ?_
  refine g_get (n := 18) fl_X8_10 dX8_write_15 rfl rfl rfl ?_
  refine g_iload_n (n := 19) dX8_write_18 rfl rfl ?_
  refine g_i2c (n := 20) dX8_write_19 rfl ?_
  refine g_top (i2c_n ha) ?_
  refine g_cutVi (ps := [1, 2]) (w' := [_, _, _]) (n := 23) cv_X8_84 (t_X4_add_ok l n hn tf a ha) dX8_write_20 rfl rfl rfl ⟨by decide, by decide, rfl, rfl, Nat.zero_le _, Nat.zero_le _⟩ rfl rfl rfl (Nat.le_of_ble_eq_true rfl) rfl rfl rfl ?_
  refine g_if_eq (tgt := 36) (n := 26) dX8_write_23 (by decide) rfl (fun c23 => absurd c23 (by decide)) (fun c23 => ?_)
  refine g_aload_n (n := 27) dX8_write_26 rfl rfl ?_
  refine g_get (n := 30) fl_X8_10 dX8_write_27 rfl rfl rfl ?_
  refine g_get (n := 33) fl_X8_91 dX8_write_30 rfl rfl rfl ?_
  refine g_goto (tgt := 38) dX8_write_33 (by decide) ?_
  exact g_iret (ty := .int) dX8_write_38 rfl rfl ⟨Nat.zero_le _, Nat.zero_le _⟩ ⟨rfl, rfl⟩
set_option maxRecDepth 20000 in
theorem t_X8_wipe (l : Launch) (kc : Int32) (n : Nat) (tf : Nat → Int32) : Fn l M_X8_wipe [.ref 0] (xt kc n tf) (some (.int (nI n))) (xt kc 0 tf) := by
  refine con_of rfl rfl (Nat.le_of_ble_eq_true rfl) ?_
  refine g_lsN (ls' := [_, _]) rfl ?_
  refine g_aload_n (n := 1) dX8_wipe_0 rfl rfl ?_
  refine g_get (n := 4) fl_X8_10 dX8_wipe_1 rfl rfl rfl ?_
  refine g_get (n := 7) fl_X8_91 dX8_wipe_4 rfl rfl rfl ?_
  refine g_istore_n (n := 8) dX8_wipe_7 (by decide) rfl rfl ?_
  refine g_lsN (ls' := [_, _]) rfl ?_
  refine g_aload_n (n := 9) dX8_wipe_8 rfl rfl ?_
  refine g_get (n := 12) fl_X8_10 dX8_wipe_9 rfl rfl rfl ?_
  refine g_iconst (v := nI 0) (n := 13) dX8_wipe_12 (by decide) rfl ?_
  refine g_put (n := 16) pf_X8_91 dX8_wipe_13 rfl (Nat.le_of_ble_eq_true rfl) (fun _ => rfl) (fun _ => rfl) rfl ?_
  refine g_wN (w' := [_, _, _]) rfl ?_
  refine g_iload_n (n := 17) dX8_wipe_16 rfl rfl ?_
  exact g_iret (ty := .int) dX8_wipe_17 rfl rfl ⟨Nat.zero_le _, Nat.zero_le _⟩ ⟨rfl, rfl⟩
abbrev xl (la sp : Nat) (nm : Nat → Int32) (nx : Int32) (n : Nat) (tf : Nat → Int32) (kc tn sz : Int32) (S : ST) (U : WT) (un : Int32) (ub : Nat → Int32) (V : WT) (dn : Int32) (fb : Nat → Int32) : List va_E := [.inr (8, [.ref 3, .ref 1, .ref 24, .ref 25, .ref 26, .ref 19, .ref 23, .ref 27, .int kc, .ref la, .ref sp]), .inr (1, [.ref 2, .int nx]), .inl (0, 4, .inl nm), .inr (4, [.ref 4, .int (nI n)]), .inl (1, 200, .inl tf), wo U un 5, a8 (vth U), a8 (vpa U), a6 (vki U), a6 (vsg U), a6 ub, a6 (vkn U), wo V dn 12, a8 (vth V), a8 (vpa V), a6 (vki V), a6 (vsg V), a6 fb, a6 (vkn V), so S 19, a6 (sbo S), a6 (sti S), a8 (sun S), .inr (5, [.ref 28, .int tn, .int sz])]
set_option maxRecDepth 20000 in
theorem t_X8_fault (l : Launch) (nm : Nat → Int32) (nx : Int32) (n : Nat) (tf : Nat → Int32) (ta : Nat → Nat) (hT : TC tf ta n) (kc tn sz : Int32) (S : ST) (U : WT) (un : Int32) (ub : Nat → Int32) (V : WT) (dn : Int32) (fb : Nat → Int32) : Con l M_X8_fault [.ref 0] (xl 12 5 nm nx n tf kc tn sz S U un ub V dn fb) (fun r u => r = some (.int (rdR ta n 200 0 (clV U) ub (nI 0)).1) ∧ ∃ nm nx, u = xl 12 5 nm nx n tf kc tn sz S (rdR ta n 200 0 (clV U) ub (nI 0)).2.1 (rdR ta n 200 0 (clV U) ub (nI 0)).2.2.2.1 (rdR ta n 200 0 (clV U) ub (nI 0)).2.2.1 V dn fb) := by
  refine con_of rfl rfl (Nat.le_of_ble_eq_true rfl) ?_
  refine g_lsN (ls' := [_]) rfl ?_
  refine g_aload_n (n := 1) dX8_fault_0 rfl rfl ?_
  refine g_get (n := 4) fl_X8_19 dX8_fault_1 rfl rfl rfl ?_
  refine g_aload_n (n := 5) dX8_fault_4 rfl rfl ?_
  refine g_get (n := 8) fl_X8_10 dX8_fault_5 rfl rfl rfl ?_
  refine g_aload_n (n := 9) dX8_fault_8 rfl rfl ?_
  refine g_get (n := 12) fl_X8_69 dX8_fault_9 rfl rfl rfl ?_
  refine g_cutV (ps := [1, 2, 3, 4, 5, 6, 7, 8, 9, 10, 11]) (n := 15) cv_X8_94 (t_X1_readWall l nm nx n tf ta hT U un ub) dX8_fault_12 rfl rfl rfl ⟨by decide, by decide, rfl, rfl, Nat.zero_le _, Nat.zero_le _⟩ rfl rfl rfl (Nat.le_of_ble_eq_true rfl) rfl (fun r cw12 hq12 => ?_)
  obtain ⟨rfl, nm2, nx2, rfl⟩ := hq12
  refine ⟨rfl, ?_⟩
  refine g_stN (st' := .int _ :: []) rfl ?_
  refine g_wN (w' := [_, _, _, _, _, _, _, _, _, _, _, _, _, _, _, _, _, _, _, _, _, _, _, _]) rfl ?_
  exact g_iret (ty := .int) dX8_fault_15 rfl rfl ⟨Nat.zero_le _, Nat.zero_le _⟩ ⟨rfl, nm2, nx2, rfl⟩
set_option maxRecDepth 20000 in
theorem t_X8_layText_no1 (l : Launch) (nm : Nat → Int32) (nx : Int32) (n : Nat) (tf : Nat → Int32) (ta : Nat → Nat) (hT : TC tf ta n) (kc tn sz : Int32) (S : ST) (U : WT) (un : Int32) (ub : Nat → Int32) (V : WT) (dn : Int32) (fb : Nat → Int32) (h : ¬ (rdR ta n 200 0 (clV U) ub (nI 0)).1 = (-4)) : Con l M_X8_layText [.ref 0] (xl 12 5 nm nx n tf kc tn sz S U un ub V dn fb) (fun r u => r = some (.int (-2)) ∧ ∃ nm nx, u = xl 12 5 nm nx n tf kc tn sz S (rdR ta n 200 0 (clV U) ub (nI 0)).2.1 (rdR ta n 200 0 (clV U) ub (nI 0)).2.2.2.1 (rdR ta n 200 0 (clV U) ub (nI 0)).2.2.1 V dn fb) := by
  refine con_of rfl rfl (Nat.le_of_ble_eq_true rfl) ?_
  refine g_lsN (ls' := [_, _]) rfl ?_
  refine g_aload_n (n := 1) dX8_layText_0 rfl rfl ?_
  refine g_get (n := 4) fl_X8_19 dX8_layText_1 rfl rfl rfl ?_
  refine g_aload_n (n := 5) dX8_layText_4 rfl rfl ?_
  refine g_get (n := 8) fl_X8_10 dX8_layText_5 rfl rfl rfl ?_
  refine g_aload_n (n := 9) dX8_layText_8 rfl rfl ?_
  refine g_get (n := 12) fl_X8_69 dX8_layText_9 rfl rfl rfl ?_
  refine g_cutV (ps := [1, 2, 3, 4, 5, 6, 7, 8, 9, 10, 11]) (n := 15) cv_X8_94 (t_X1_readWall l nm nx n tf ta hT U un ub) dX8_layText_12 rfl rfl rfl ⟨by decide, by decide, rfl, rfl, Nat.zero_le _, Nat.zero_le _⟩ rfl rfl rfl (Nat.le_of_ble_eq_true rfl) rfl (fun r cw12 hq12 => ?_)
  obtain ⟨rfl, nm2, nx2, rfl⟩ := hq12
  refine ⟨rfl, ?_⟩
  refine g_stN (st' := .int _ :: []) rfl ?_
  refine g_wN (w' := [_, _, _, _, _, _, _, _, _, _, _, _, _, _, _, _, _, _, _, _, _, _, _, _]) rfl ?_
  refine g_bipush (v := (-4)) (n := 17) dX8_layText_15 (by decide) rfl ?_
  refine g_icmp_ne (tgt := 30) (n := 20) dX8_layText_17 (by decide) rfl (fun c17 => ?_) (fun c17 => absurd c17 h)
  refine g_bipush (v := (-2)) (n := 32) dX8_layText_30 (by decide) rfl ?_
  exact g_iret (ty := .int) dX8_layText_32 rfl rfl ⟨Nat.zero_le _, Nat.zero_le _⟩ ⟨rfl, nm2, nx2, rfl⟩
set_option maxRecDepth 20000 in
theorem t_X8_layText_no2 (l : Launch) (nm : Nat → Int32) (nx : Int32) (n : Nat) (tf : Nat → Int32) (ta : Nat → Nat) (hT : TC tf ta n) (kc tn sz : Int32) (S : ST) (U : WT) (un : Int32) (ub : Nat → Int32) (V : WT) (dn : Int32) (fb : Nat → Int32) (h : (rdR ta n 200 0 (clV U) ub (nI 0)).1 = (-4)) (h0 : vnb (rdR ta n 200 0 (clV U) ub (nI 0)).2.1 = 0) : Con l M_X8_layText [.ref 0] (xl 12 5 nm nx n tf kc tn sz S U un ub V dn fb) (fun r u => r = some (.int (-2)) ∧ ∃ nm nx, u = xl 12 5 nm nx n tf kc tn sz S (rdR ta n 200 0 (clV U) ub (nI 0)).2.1 (rdR ta n 200 0 (clV U) ub (nI 0)).2.2.2.1 (rdR ta n 200 0 (clV U) ub (nI 0)).2.2.1 V dn fb) := by
  refine con_of rfl rfl (Nat.le_of_ble_eq_true rfl) ?_
  refine g_lsN (ls' := [_, _]) rfl ?_
  refine g_aload_n (n := 1) dX8_layText_0 rfl rfl ?_
  refine g_get (n := 4) fl_X8_19 dX8_layText_1 rfl rfl rfl ?_
  refine g_aload_n (n := 5) dX8_layText_4 rfl rfl ?_
  refine g_get (n := 8) fl_X8_10 dX8_layText_5 rfl rfl rfl ?_
  refine g_aload_n (n := 9) dX8_layText_8 rfl rfl ?_
  refine g_get (n := 12) fl_X8_69 dX8_layText_9 rfl rfl rfl ?_
  refine g_cutV (ps := [1, 2, 3, 4, 5, 6, 7, 8, 9, 10, 11]) (n := 15) cv_X8_94 (t_X1_readWall l nm nx n tf ta hT U un ub) dX8_layText_12 rfl rfl rfl ⟨by decide, by decide, rfl, rfl, Nat.zero_le _, Nat.zero_le _⟩ rfl rfl rfl (Nat.le_of_ble_eq_true rfl) rfl (fun r cw12 hq12 => ?_)
  obtain ⟨rfl, nm2, nx2, rfl⟩ := hq12
  refine ⟨rfl, ?_⟩
  refine g_stN (st' := .int _ :: []) rfl ?_
  refine g_wN (w' := [_, _, _, _, _, _, _, _, _, _, _, _, _, _, _, _, _, _, _, _, _, _, _, _]) rfl ?_
  refine g_bipush (v := (-4)) (n := 17) dX8_layText_15 (by decide) rfl ?_
  refine g_icmp_ne (tgt := 30) (n := 20) dX8_layText_17 (by decide) rfl (fun c17 => absurd h c17) (fun c17 => ?_)
  refine g_aload_n (n := 21) dX8_layText_20 rfl rfl ?_
  refine g_get (n := 24) fl_X8_69 dX8_layText_21 rfl rfl rfl ?_
  refine g_get (n := 27) fl_X8_215 dX8_layText_24 rfl rfl rfl ?_
  refine g_if_ne (tgt := 33) (n := 30) dX8_layText_27 (by decide) rfl (fun c27 => absurd (by rw [h0]; rfl) c27) (fun c27 => ?_)
  refine g_bipush (v := (-2)) (n := 32) dX8_layText_30 (by decide) rfl ?_
  exact g_iret (ty := .int) dX8_layText_32 rfl rfl ⟨Nat.zero_le _, Nat.zero_le _⟩ ⟨rfl, nm2, nx2, rfl⟩
set_option maxRecDepth 20000 in
theorem t_X8_layText_ok (l : Launch) (nm : Nat → Int32) (nx : Int32) (n : Nat) (tf : Nat → Int32) (ta : Nat → Nat) (hT : TC tf ta n) (kc tn sz : Int32) (S : ST) (U : WT) (un : Int32) (ub : Nat → Int32) (V : WT) (dn : Int32) (fb : Nat → Int32) (h : (rdR ta n 200 0 (clV U) ub (nI 0)).1 = (-4)) (h0 : ¬ vnb (rdR ta n 200 0 (clV U) ub (nI 0)).2.1 = 0) (hS : okZ S) (hf : ∀ j, 6 ≤ j → (rdR ta n 200 0 (clV U) ub (nI 0)).2.2.1 j = 0) (hV2 : okV (rdR ta n 200 0 (clV U) ub (nI 0)).2.1) : Con l M_X8_layText [.ref 0] (xl 12 5 nm nx n tf kc tn sz S U un ub V dn fb) (fun r u => r = some (.int (nI (vnb (rdR ta n 200 0 (clV U) ub (nI 0)).2.1))) ∧ ∃ nm nx, u = xl 5 12 nm nx n tf (nI 0) tn (nI 0) (cyS (rdR ta n 200 0 (clV U) ub (nI 0)).2.1 (rdR ta n 200 0 (clV U) ub (nI 0)).2.2.2.1 (rdR ta n 200 0 (clV U) ub (nI 0)).2.2.1) (rdR ta n 200 0 (clV U) ub (nI 0)).2.1 (rdR ta n 200 0 (clV U) ub (nI 0)).2.2.2.1 (rdR ta n 200 0 (clV U) ub (nI 0)).2.2.1 V dn fb) := by
  refine con_of rfl rfl (Nat.le_of_ble_eq_true rfl) ?_
  refine g_lsN (ls' := [_, _]) rfl ?_
  refine g_aload_n (n := 1) dX8_layText_0 rfl rfl ?_
  refine g_get (n := 4) fl_X8_19 dX8_layText_1 rfl rfl rfl ?_
  refine g_aload_n (n := 5) dX8_layText_4 rfl rfl ?_
  refine g_get (n := 8) fl_X8_10 dX8_layText_5 rfl rfl rfl ?_
  refine g_aload_n (n := 9) dX8_layText_8 rfl rfl ?_
  refine g_get (n := 12) fl_X8_69 dX8_layText_9 rfl rfl rfl ?_
  refine g_cutV (ps := [1, 2, 3, 4, 5, 6, 7, 8, 9, 10, 11]) (n := 15) cv_X8_94 (t_X1_readWall l nm nx n tf ta hT U un ub) dX8_layText_12 rfl rfl rfl ⟨by decide, by decide, rfl, rfl, Nat.zero_le _, Nat.zero_le _⟩ rfl rfl rfl (Nat.le_of_ble_eq_true rfl) rfl (fun r cw12 hq12 => ?_)
  obtain ⟨rfl, nm2, nx2, rfl⟩ := hq12
  refine ⟨rfl, ?_⟩
  refine g_stN (st' := .int _ :: []) rfl ?_
  refine g_wN (w' := [_, _, _, _, _, _, _, _, _, _, _, _, _, _, _, _, _, _, _, _, _, _, _, _]) rfl ?_
  refine g_bipush (v := (-4)) (n := 17) dX8_layText_15 (by decide) rfl ?_
  refine g_icmp_ne (tgt := 30) (n := 20) dX8_layText_17 (by decide) rfl (fun c17 => absurd h c17) (fun c17 => ?_)
  refine g_aload_n (n := 21) dX8_layText_20 rfl rfl ?_
  refine g_get (n := 24) fl_X8_69 dX8_layText_21 rfl rfl rfl ?_
  refine g_get (n := 27) fl_X8_215 dX8_layText_24 rfl rfl rfl ?_
  refine g_if_ne (tgt := 33) (n := 30) dX8_layText_27 (by decide) rfl (fun c27 => ?_) (fun c27 => absurd c27 (nI_ne0 (by omega) (by have := hV2.1; omega)))
  refine g_aload_n (n := 34) dX8_layText_33 rfl rfl ?_
  refine g_get (n := 37) fl_X8_65 dX8_layText_34 rfl rfl rfl ?_
  refine g_astore_n (n := 38) dX8_layText_37 (by decide) rfl rfl ?_
  refine g_lsN (ls' := [_, _]) rfl ?_
  refine g_aload_n (n := 39) dX8_layText_38 rfl rfl ?_
  refine g_aload_n (n := 40) dX8_layText_39 rfl rfl ?_
  refine g_get (n := 43) fl_X8_69 dX8_layText_40 rfl rfl rfl ?_
  refine g_put (n := 46) pf_X8_65 dX8_layText_43 rfl (Nat.le_of_ble_eq_true rfl) (fun _ => rfl) (fun _ => rfl) rfl ?_
  refine g_wN (w' := [_, _, _, _, _, _, _, _, _, _, _, _, _, _, _, _, _, _, _, _, _, _, _, _]) rfl ?_
  refine g_aload_n (n := 47) dX8_layText_46 rfl rfl ?_
  refine g_aload_n (n := 48) dX8_layText_47 rfl rfl ?_
  refine g_put (n := 51) pf_X8_69 dX8_layText_48 rfl (Nat.le_of_ble_eq_true rfl) (fun _ => rfl) (fun _ => rfl) rfl ?_
  refine g_wN (w' := [_, _, _, _, _, _, _, _, _, _, _, _, _, _, _, _, _, _, _, _, _, _, _, _]) rfl ?_
  refine g_aload_n (n := 52) dX8_layText_51 rfl rfl ?_
  refine g_get (n := 55) fl_X8_47 dX8_layText_52 rfl rfl rfl ?_
  refine g_aload_n (n := 56) dX8_layText_55 rfl rfl ?_
  refine g_get (n := 59) fl_X8_65 dX8_layText_56 rfl rfl rfl ?_
  refine g_cutVv (ps := [19, 20, 21, 22, 5, 6, 7, 8, 9, 10, 11]) (w' := [_, _, _, _, _, _, _, _, _, _, _, _, _, _, _, _, _, _, _, _, _, _, _, _]) (n := 62) cv_X8_282 (t_X3_begin l _ hV2 _ _ S hS hf) dX8_layText_59 rfl rfl rfl ⟨by decide, by decide, rfl, rfl, Nat.zero_le _, Nat.zero_le _⟩ rfl rfl rfl (Nat.le_of_ble_eq_true rfl) rfl rfl rfl ?_
  refine g_aload_n (n := 63) dX8_layText_62 rfl rfl ?_
  refine g_get (n := 66) fl_X8_54 dX8_layText_63 rfl rfl rfl ?_
  refine g_cutVv (ps := [23, 28]) (w' := [_, _, _, _, _, _, _, _, _, _, _, _, _, _, _, _, _, _, _, _, _, _, _, _]) (n := 69) cv_X8_273 (t_X5_forget l tn sz) dX8_layText_66 rfl rfl rfl ⟨by decide, by decide, rfl, rfl, Nat.zero_le _, Nat.zero_le _⟩ rfl rfl rfl (Nat.le_of_ble_eq_true rfl) rfl rfl rfl ?_
  refine g_aload_n (n := 70) dX8_layText_69 rfl rfl ?_
  refine g_iconst (v := nI 0) (n := 71) dX8_layText_70 (by decide) rfl ?_
  refine g_put (n := 74) pf_X8_268 dX8_layText_71 rfl (Nat.le_of_ble_eq_true rfl) (fun _ => rfl) (fun _ => rfl) rfl ?_
  refine g_wN (w' := [_, _, _, _, _, _, _, _, _, _, _, _, _, _, _, _, _, _, _, _, _, _, _, _]) rfl ?_
  refine g_aload_n (n := 75) dX8_layText_74 rfl rfl ?_
  refine g_get (n := 78) fl_X8_65 dX8_layText_75 rfl rfl rfl ?_
  refine g_get (n := 81) fl_X8_215 dX8_layText_78 rfl rfl rfl ?_
  exact g_iret (ty := .int) dX8_layText_81 rfl rfl ⟨Nat.zero_le _, Nat.zero_le _⟩ ⟨rfl, nm2, nx2, rfl⟩
set_option maxRecDepth 20000 in
theorem t_X8_lay_no1 (l : Launch) (nm : Nat → Int32) (nx : Int32) (n : Nat) (tf : Nat → Int32) (ta : Nat → Nat) (hT : TC tf ta n) (kc tn sz : Int32) (S : ST) (U : WT) (un : Int32) (ub : Nat → Int32) (V : WT) (dn : Int32) (fb : Nat → Int32) (h : ¬ (rdR ta n 200 0 (clV U) ub (nI 0)).1 = (-4)) : Con l M_X8_lay [.ref 0] (xl 12 5 nm nx n tf kc tn sz S U un ub V dn fb) (fun r u => r = some (.int (-2)) ∧ ∃ nm nx, u = xl 12 5 nm nx n tf kc tn sz S (rdR ta n 200 0 (clV U) ub (nI 0)).2.1 (rdR ta n 200 0 (clV U) ub (nI 0)).2.2.2.1 (rdR ta n 200 0 (clV U) ub (nI 0)).2.2.1 V dn fb) := by
  refine con_of rfl rfl (Nat.le_of_ble_eq_true rfl) ?_
  refine g_lsN (ls' := [_]) rfl ?_
  refine g_aload_n (n := 1) dX8_lay_0 rfl rfl ?_
  refine g_callW (n := 4) cv_X8_88 (t_X8_layText_no1 l nm nx n tf ta hT kc tn sz S U un ub V dn fb h) dX8_lay_1 rfl ⟨by decide, by decide, rfl, rfl, Nat.zero_le _, Nat.zero_le _⟩ rfl rfl rfl (Nat.le_of_ble_eq_true rfl) rfl (fun r cw1 hq1 => ?_)
  obtain ⟨rfl, nm2, nx2, rfl⟩ := hq1
  refine ⟨rfl, ?_⟩
  refine g_stN (st' := .int _ :: []) rfl ?_
  refine g_wN (w' := [_, _, _, _, _, _, _, _, _, _, _, _, _, _, _, _, _, _, _, _, _, _, _, _]) rfl ?_
  exact g_iret (ty := .int) dX8_lay_4 rfl rfl ⟨Nat.zero_le _, Nat.zero_le _⟩ ⟨rfl, nm2, nx2, rfl⟩
set_option maxRecDepth 20000 in
theorem t_X8_lay_no2 (l : Launch) (nm : Nat → Int32) (nx : Int32) (n : Nat) (tf : Nat → Int32) (ta : Nat → Nat) (hT : TC tf ta n) (kc tn sz : Int32) (S : ST) (U : WT) (un : Int32) (ub : Nat → Int32) (V : WT) (dn : Int32) (fb : Nat → Int32) (h : (rdR ta n 200 0 (clV U) ub (nI 0)).1 = (-4)) (h0 : vnb (rdR ta n 200 0 (clV U) ub (nI 0)).2.1 = 0) : Con l M_X8_lay [.ref 0] (xl 12 5 nm nx n tf kc tn sz S U un ub V dn fb) (fun r u => r = some (.int (-2)) ∧ ∃ nm nx, u = xl 12 5 nm nx n tf kc tn sz S (rdR ta n 200 0 (clV U) ub (nI 0)).2.1 (rdR ta n 200 0 (clV U) ub (nI 0)).2.2.2.1 (rdR ta n 200 0 (clV U) ub (nI 0)).2.2.1 V dn fb) := by
  refine con_of rfl rfl (Nat.le_of_ble_eq_true rfl) ?_
  refine g_lsN (ls' := [_]) rfl ?_
  refine g_aload_n (n := 1) dX8_lay_0 rfl rfl ?_
  refine g_callW (n := 4) cv_X8_88 (t_X8_layText_no2 l nm nx n tf ta hT kc tn sz S U un ub V dn fb h h0) dX8_lay_1 rfl ⟨by decide, by decide, rfl, rfl, Nat.zero_le _, Nat.zero_le _⟩ rfl rfl rfl (Nat.le_of_ble_eq_true rfl) rfl (fun r cw1 hq1 => ?_)
  obtain ⟨rfl, nm2, nx2, rfl⟩ := hq1
  refine ⟨rfl, ?_⟩
  refine g_stN (st' := .int _ :: []) rfl ?_
  refine g_wN (w' := [_, _, _, _, _, _, _, _, _, _, _, _, _, _, _, _, _, _, _, _, _, _, _, _]) rfl ?_
  exact g_iret (ty := .int) dX8_lay_4 rfl rfl ⟨Nat.zero_le _, Nat.zero_le _⟩ ⟨rfl, nm2, nx2, rfl⟩
set_option maxRecDepth 20000 in
theorem t_X8_lay_ok (l : Launch) (nm : Nat → Int32) (nx : Int32) (n : Nat) (tf : Nat → Int32) (ta : Nat → Nat) (hT : TC tf ta n) (kc tn sz : Int32) (S : ST) (U : WT) (un : Int32) (ub : Nat → Int32) (V : WT) (dn : Int32) (fb : Nat → Int32) (h : (rdR ta n 200 0 (clV U) ub (nI 0)).1 = (-4)) (h0 : ¬ vnb (rdR ta n 200 0 (clV U) ub (nI 0)).2.1 = 0) (hS : okZ S) (hf : ∀ j, 6 ≤ j → (rdR ta n 200 0 (clV U) ub (nI 0)).2.2.1 j = 0) (hV2 : okV (rdR ta n 200 0 (clV U) ub (nI 0)).2.1) : Con l M_X8_lay [.ref 0] (xl 12 5 nm nx n tf kc tn sz S U un ub V dn fb) (fun r u => r = some (.int (nI (vnb (rdR ta n 200 0 (clV U) ub (nI 0)).2.1))) ∧ ∃ nm nx, u = xl 5 12 nm nx n tf (nI 0) tn (nI 0) (cyS (rdR ta n 200 0 (clV U) ub (nI 0)).2.1 (rdR ta n 200 0 (clV U) ub (nI 0)).2.2.2.1 (rdR ta n 200 0 (clV U) ub (nI 0)).2.2.1) (rdR ta n 200 0 (clV U) ub (nI 0)).2.1 (rdR ta n 200 0 (clV U) ub (nI 0)).2.2.2.1 (rdR ta n 200 0 (clV U) ub (nI 0)).2.2.1 V dn fb) := by
  refine con_of rfl rfl (Nat.le_of_ble_eq_true rfl) ?_
  refine g_lsN (ls' := [_]) rfl ?_
  refine g_aload_n (n := 1) dX8_lay_0 rfl rfl ?_
  refine g_callW (n := 4) cv_X8_88 (t_X8_layText_ok l nm nx n tf ta hT kc tn sz S U un ub V dn fb h h0 hS hf hV2) dX8_lay_1 rfl ⟨by decide, by decide, rfl, rfl, Nat.zero_le _, Nat.zero_le _⟩ rfl rfl rfl (Nat.le_of_ble_eq_true rfl) rfl (fun r cw1 hq1 => ?_)
  obtain ⟨rfl, nm2, nx2, rfl⟩ := hq1
  refine ⟨rfl, ?_⟩
  refine g_stN (st' := .int _ :: []) rfl ?_
  refine g_wN (w' := [_, _, _, _, _, _, _, _, _, _, _, _, _, _, _, _, _, _, _, _, _, _, _, _]) rfl ?_
  exact g_iret (ty := .int) dX8_lay_4 rfl rfl ⟨Nat.zero_le _, Nat.zero_le _⟩ ⟨rfl, nm2, nx2, rfl⟩
abbrev xk (kc tn sz : Int32) (P : Nat → ST) (S : ST) : List va_E := [.inr (8, [.ref 15, .ref 16, .ref 17, .ref 18, .ref 19, .ref 10, .ref 14, .ref 1, .int kc, .ref 20, .ref 21]), sarr 2 2, so (P 0) 2, a6 (sbo (P 0)), a6 (sti (P 0)), a8 (sun (P 0)), so (P 1) 6, a6 (sbo (P 1)), a6 (sti (P 1)), a8 (sun (P 1)), so S 10, a6 (sbo S), a6 (sti S), a8 (sun S), .inr (5, [.ref 22, .int tn, .int sz])]
set_option maxRecDepth 20000 in
theorem t_X8_keep_full (l : Launch) (tn sz : Int32) (P : Nat → ST) (hP : ∀ i, okZ (P i)) (S : ST) (hS : okZ S) : Fn l M_X8_keep [.ref 0] (xk (nI 2) tn sz P S) (some (.int (-3))) (xk (nI 2) tn sz P S) := by
  refine con_of rfl rfl (Nat.le_of_ble_eq_true rfl) ?_
  refine g_lsN (ls' := [_]) rfl ?_
  refine g_aload_n (n := 1) dX8_keep_0 rfl rfl ?_
  refine g_get (n := 4) fl_X8_268 dX8_keep_1 rfl rfl rfl ?_
  refine g_iconst (v := nI 2) (n := 5) dX8_keep_4 (by decide) rfl ?_
  refine g_icmp_lt (tgt := 11) (n := 8) dX8_keep_5 (by decide) rfl (fun c5 => absurd c5 (by decide)) (fun c5 => ?_)
  refine g_bipush (v := (-3)) (n := 10) dX8_keep_8 (by decide) rfl ?_
  exact g_iret (ty := .int) dX8_keep_10 rfl rfl ⟨Nat.zero_le _, Nat.zero_le _⟩ ⟨rfl, rfl⟩
set_option maxRecDepth 20000 in
theorem t_X8_back_no (l : Launch) (tn sz : Int32) (P : Nat → ST) (hP : ∀ i, okZ (P i)) (S : ST) (hS : okZ S) : Fn l M_X8_back [.ref 0] (xk (nI 0) tn sz P S) (some (.int (-2))) (xk (nI 0) tn sz P S) := by
  refine con_of rfl rfl (Nat.le_of_ble_eq_true rfl) ?_
  refine g_lsN (ls' := [_]) rfl ?_
  refine g_aload_n (n := 1) dX8_back_0 rfl rfl ?_
  refine g_get (n := 4) fl_X8_268 dX8_back_1 rfl rfl rfl ?_
  refine g_if_gt (tgt := 10) (n := 7) dX8_back_4 (by decide) rfl (fun c4 => absurd c4 (by decide)) (fun c4 => ?_)
  refine g_bipush (v := (-2)) (n := 9) dX8_back_7 (by decide) rfl ?_
  exact g_iret (ty := .int) dX8_back_9 rfl rfl ⟨Nat.zero_le _, Nat.zero_le _⟩ ⟨rfl, rfl⟩
set_option maxRecDepth 20000 in
theorem t_X8_keep_0 (l : Launch) (tn sz : Int32) (P : Nat → ST) (hP : ∀ i, okZ (P i)) (S : ST) (hS : okZ S) : Fn l M_X8_keep [.ref 0] (xk (nI 0) tn sz P S) (some (.int (nI 1))) (xk (nI 1) tn sz (pu P 0 S) S) := by
  refine con_of rfl rfl (Nat.le_of_ble_eq_true rfl) ?_
  refine g_lsN (ls' := [_]) rfl ?_
  refine g_aload_n (n := 1) dX8_keep_0 rfl rfl ?_
  refine g_get (n := 4) fl_X8_268 dX8_keep_1 rfl rfl rfl ?_
  refine g_iconst (v := nI 2) (n := 5) dX8_keep_4 (by decide) rfl ?_
  refine g_icmp_lt (tgt := 11) (n := 8) dX8_keep_5 (by decide) rfl (fun c5 => ?_) (fun c5 => absurd (by decide) c5)
  refine g_aload_n (n := 12) dX8_keep_11 rfl rfl ?_
  refine g_get (n := 15) fl_X8_58 dX8_keep_12 rfl rfl rfl ?_
  refine g_aload_n (n := 16) dX8_keep_15 rfl rfl ?_
  refine g_get (n := 19) fl_X8_268 dX8_keep_16 rfl rfl rfl ?_
  refine g_aaldN (n := 20) dX8_keep_19 rfl rfl (by decide) (by omega) rfl ?_
  refine g_aload_n (n := 21) dX8_keep_20 rfl rfl ?_
  refine g_get (n := 24) fl_X8_47 dX8_keep_21 rfl rfl rfl ?_
  refine g_cutVv (ps := [2, 3, 4, 5, 10, 11, 12, 13]) (w' := [_, _, _, _, _, _, _, _, _, _, _, _, _, _, _]) (n := 27) cv_X8_271 (t_X3_takeFrom l (P 0) S (hP 0) hS) dX8_keep_24 rfl rfl rfl ⟨by decide, by decide, rfl, rfl, Nat.zero_le _, Nat.zero_le _⟩ rfl rfl rfl (Nat.le_of_ble_eq_true rfl) rfl rfl rfl ?_
  refine g_aload_n (n := 28) dX8_keep_27 rfl rfl ?_
  refine g_dup (n := 29) dX8_keep_28 rfl rfl ?_
  refine g_get (n := 32) fl_X8_268 dX8_keep_29 rfl rfl rfl ?_
  refine g_iconst (v := nI 1) (n := 33) dX8_keep_32 (by decide) rfl ?_
  refine g_iaddN (n := 34) dX8_keep_33 rfl ?_
  refine g_put (n := 37) pf_X8_268 dX8_keep_34 rfl (Nat.le_of_ble_eq_true rfl) (fun _ => rfl) (fun _ => rfl) rfl ?_
  refine g_wN (w' := [_, _, _, _, _, _, _, _, _, _, _, _, _, _, _]) rfl ?_
  refine g_aload_n (n := 38) dX8_keep_37 rfl rfl ?_
  refine g_get (n := 41) fl_X8_268 dX8_keep_38 rfl rfl rfl ?_
  exact g_iret (ty := .int) dX8_keep_41 rfl rfl ⟨Nat.zero_le _, Nat.zero_le _⟩ ⟨rfl, rfl⟩
set_option maxRecDepth 20000 in
theorem t_X8_back_0 (l : Launch) (tn sz : Int32) (P : Nat → ST) (hP : ∀ i, okZ (P i)) (S : ST) (hS : okZ S) : Fn l M_X8_back [.ref 0] (xk (nI 1) tn sz P S) (some (.int (nI 0))) (xk (nI 0) tn (nI 0) P (P 0)) := by
  refine con_of rfl rfl (Nat.le_of_ble_eq_true rfl) ?_
  refine g_lsN (ls' := [_]) rfl ?_
  refine g_aload_n (n := 1) dX8_back_0 rfl rfl ?_
  refine g_get (n := 4) fl_X8_268 dX8_back_1 rfl rfl rfl ?_
  refine g_if_gt (tgt := 10) (n := 7) dX8_back_4 (by decide) rfl (fun c4 => ?_) (fun c4 => absurd (by decide) c4)
  refine g_aload_n (n := 11) dX8_back_10 rfl rfl ?_
  refine g_dup (n := 12) dX8_back_11 rfl rfl ?_
  refine g_get (n := 15) fl_X8_268 dX8_back_12 rfl rfl rfl ?_
  refine g_iconst (v := nI 1) (n := 16) dX8_back_15 (by decide) rfl ?_
  refine g_isubN (n := 17) dX8_back_16 rfl (by decide) ?_
  refine g_put (n := 20) pf_X8_268 dX8_back_17 rfl (Nat.le_of_ble_eq_true rfl) (fun _ => rfl) (fun _ => rfl) rfl ?_
  refine g_wN (w' := [_, _, _, _, _, _, _, _, _, _, _, _, _, _, _]) rfl ?_
  refine g_aload_n (n := 21) dX8_back_20 rfl rfl ?_
  refine g_get (n := 24) fl_X8_47 dX8_back_21 rfl rfl rfl ?_
  refine g_aload_n (n := 25) dX8_back_24 rfl rfl ?_
  refine g_get (n := 28) fl_X8_58 dX8_back_25 rfl rfl rfl ?_
  refine g_aload_n (n := 29) dX8_back_28 rfl rfl ?_
  refine g_get (n := 32) fl_X8_268 dX8_back_29 rfl rfl rfl ?_
  refine g_aaldN (n := 33) dX8_back_32 rfl rfl (by decide) (by omega) rfl ?_
  refine g_cutVv (ps := [10, 11, 12, 13, 2, 3, 4, 5]) (w' := [_, _, _, _, _, _, _, _, _, _, _, _, _, _, _]) (n := 36) cv_X8_271 (t_X3_takeFrom l S (P 0) hS (hP 0)) dX8_back_33 rfl rfl rfl ⟨by decide, by decide, rfl, rfl, Nat.zero_le _, Nat.zero_le _⟩ rfl rfl rfl (Nat.le_of_ble_eq_true rfl) rfl rfl rfl ?_
  refine g_aload_n (n := 37) dX8_back_36 rfl rfl ?_
  refine g_get (n := 40) fl_X8_54 dX8_back_37 rfl rfl rfl ?_
  refine g_cutVv (ps := [14, 22]) (w' := [_, _, _, _, _, _, _, _, _, _, _, _, _, _, _]) (n := 43) cv_X8_273 (t_X5_forget l tn sz) dX8_back_40 rfl rfl rfl ⟨by decide, by decide, rfl, rfl, Nat.zero_le _, Nat.zero_le _⟩ rfl rfl rfl (Nat.le_of_ble_eq_true rfl) rfl rfl rfl ?_
  refine g_aload_n (n := 44) dX8_back_43 rfl rfl ?_
  refine g_get (n := 47) fl_X8_268 dX8_back_44 rfl rfl rfl ?_
  exact g_iret (ty := .int) dX8_back_47 rfl rfl ⟨Nat.zero_le _, Nat.zero_le _⟩ ⟨rfl, rfl⟩
set_option maxRecDepth 20000 in
theorem t_X8_keep_1 (l : Launch) (tn sz : Int32) (P : Nat → ST) (hP : ∀ i, okZ (P i)) (S : ST) (hS : okZ S) : Fn l M_X8_keep [.ref 0] (xk (nI 1) tn sz P S) (some (.int (nI 2))) (xk (nI 2) tn sz (pu P 1 S) S) := by
  refine con_of rfl rfl (Nat.le_of_ble_eq_true rfl) ?_
  refine g_lsN (ls' := [_]) rfl ?_
  refine g_aload_n (n := 1) dX8_keep_0 rfl rfl ?_
  refine g_get (n := 4) fl_X8_268 dX8_keep_1 rfl rfl rfl ?_
  refine g_iconst (v := nI 2) (n := 5) dX8_keep_4 (by decide) rfl ?_
  refine g_icmp_lt (tgt := 11) (n := 8) dX8_keep_5 (by decide) rfl (fun c5 => ?_) (fun c5 => absurd (by decide) c5)
  refine g_aload_n (n := 12) dX8_keep_11 rfl rfl ?_
  refine g_get (n := 15) fl_X8_58 dX8_keep_12 rfl rfl rfl ?_
  refine g_aload_n (n := 16) dX8_keep_15 rfl rfl ?_
  refine g_get (n := 19) fl_X8_268 dX8_keep_16 rfl rfl rfl ?_
  refine g_aaldN (n := 20) dX8_keep_19 rfl rfl (by decide) (by omega) rfl ?_
  refine g_aload_n (n := 21) dX8_keep_20 rfl rfl ?_
  refine g_get (n := 24) fl_X8_47 dX8_keep_21 rfl rfl rfl ?_
  refine g_cutVv (ps := [6, 7, 8, 9, 10, 11, 12, 13]) (w' := [_, _, _, _, _, _, _, _, _, _, _, _, _, _, _]) (n := 27) cv_X8_271 (t_X3_takeFrom l (P 1) S (hP 1) hS) dX8_keep_24 rfl rfl rfl ⟨by decide, by decide, rfl, rfl, Nat.zero_le _, Nat.zero_le _⟩ rfl rfl rfl (Nat.le_of_ble_eq_true rfl) rfl rfl rfl ?_
  refine g_aload_n (n := 28) dX8_keep_27 rfl rfl ?_
  refine g_dup (n := 29) dX8_keep_28 rfl rfl ?_
  refine g_get (n := 32) fl_X8_268 dX8_keep_29 rfl rfl rfl ?_
  refine g_iconst (v := nI 1) (n := 33) dX8_keep_32 (by decide) rfl ?_
  refine g_iaddN (n := 34) dX8_keep_33 rfl ?_
  refine g_put (n := 37) pf_X8_268 dX8_keep_34 rfl (Nat.le_of_ble_eq_true rfl) (fun _ => rfl) (fun _ => rfl) rfl ?_
  refine g_wN (w' := [_, _, _, _, _, _, _, _, _, _, _, _, _, _, _]) rfl ?_
  refine g_aload_n (n := 38) dX8_keep_37 rfl rfl ?_
  refine g_get (n := 41) fl_X8_268 dX8_keep_38 rfl rfl rfl ?_
  exact g_iret (ty := .int) dX8_keep_41 rfl rfl ⟨Nat.zero_le _, Nat.zero_le _⟩ ⟨rfl, rfl⟩
set_option maxRecDepth 20000 in
theorem t_X8_back_1 (l : Launch) (tn sz : Int32) (P : Nat → ST) (hP : ∀ i, okZ (P i)) (S : ST) (hS : okZ S) : Fn l M_X8_back [.ref 0] (xk (nI 2) tn sz P S) (some (.int (nI 1))) (xk (nI 1) tn (nI 0) P (P 1)) := by
  refine con_of rfl rfl (Nat.le_of_ble_eq_true rfl) ?_
  refine g_lsN (ls' := [_]) rfl ?_
  refine g_aload_n (n := 1) dX8_back_0 rfl rfl ?_
  refine g_get (n := 4) fl_X8_268 dX8_back_1 rfl rfl rfl ?_
  refine g_if_gt (tgt := 10) (n := 7) dX8_back_4 (by decide) rfl (fun c4 => ?_) (fun c4 => absurd (by decide) c4)
  refine g_aload_n (n := 11) dX8_back_10 rfl rfl ?_
  refine g_dup (n := 12) dX8_back_11 rfl rfl ?_
  refine g_get (n := 15) fl_X8_268 dX8_back_12 rfl rfl rfl ?_
  refine g_iconst (v := nI 1) (n := 16) dX8_back_15 (by decide) rfl ?_
  refine g_isubN (n := 17) dX8_back_16 rfl (by decide) ?_
  refine g_put (n := 20) pf_X8_268 dX8_back_17 rfl (Nat.le_of_ble_eq_true rfl) (fun _ => rfl) (fun _ => rfl) rfl ?_
  refine g_wN (w' := [_, _, _, _, _, _, _, _, _, _, _, _, _, _, _]) rfl ?_
  refine g_aload_n (n := 21) dX8_back_20 rfl rfl ?_
  refine g_get (n := 24) fl_X8_47 dX8_back_21 rfl rfl rfl ?_
  refine g_aload_n (n := 25) dX8_back_24 rfl rfl ?_
  refine g_get (n := 28) fl_X8_58 dX8_back_25 rfl rfl rfl ?_
  refine g_aload_n (n := 29) dX8_back_28 rfl rfl ?_
  refine g_get (n := 32) fl_X8_268 dX8_back_29 rfl rfl rfl ?_
  refine g_aaldN (n := 33) dX8_back_32 rfl rfl (by decide) (by omega) rfl ?_
  refine g_cutVv (ps := [10, 11, 12, 13, 6, 7, 8, 9]) (w' := [_, _, _, _, _, _, _, _, _, _, _, _, _, _, _]) (n := 36) cv_X8_271 (t_X3_takeFrom l S (P 1) hS (hP 1)) dX8_back_33 rfl rfl rfl ⟨by decide, by decide, rfl, rfl, Nat.zero_le _, Nat.zero_le _⟩ rfl rfl rfl (Nat.le_of_ble_eq_true rfl) rfl rfl rfl ?_
  refine g_aload_n (n := 37) dX8_back_36 rfl rfl ?_
  refine g_get (n := 40) fl_X8_54 dX8_back_37 rfl rfl rfl ?_
  refine g_cutVv (ps := [14, 22]) (w' := [_, _, _, _, _, _, _, _, _, _, _, _, _, _, _]) (n := 43) cv_X8_273 (t_X5_forget l tn sz) dX8_back_40 rfl rfl rfl ⟨by decide, by decide, rfl, rfl, Nat.zero_le _, Nat.zero_le _⟩ rfl rfl rfl (Nat.le_of_ble_eq_true rfl) rfl rfl rfl ?_
  refine g_aload_n (n := 44) dX8_back_43 rfl rfl ?_
  refine g_get (n := 47) fl_X8_268 dX8_back_44 rfl rfl rfl ?_
  exact g_iret (ty := .int) dX8_back_47 rfl rfl ⟨Nat.zero_le _, Nat.zero_le _⟩ ⟨rfl, rfl⟩

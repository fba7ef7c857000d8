/-! 41.cread: the class reads a text -/
section RL
variable {l : Launch} {M : MC} {z : Nat × Nat × Nat} {Q : Option Value → List va_E → Prop} {pc n : Nat} {ls : List (Option Value)} {st : List Value} {w : List va_E}
theorem g_alen {a N : Nat} {f : Nat → Int32} (hd : decode (mby M) pc = .ok (.arraylength, 1)) (hw : w[a]? = some (.inl (0, N, .inl f))) (hn : pc + 1 = n) (kk : G l M z Q n ls (.int (nI N) :: st) w) : G l M z Q pc ls (.ref a :: st) w := by
  subst hn
  intro p e s m args below meth c D ct A ad0 ad H locs la C hA h0 h1 hz hP hD hS hL
  exact va_alen C.1 C.2.1 C.2.2.2.2.2.2.2.2.1 hP a 0 (wa_at hw) rfl rfl hd (kk p e s m args below meth c D ct A ad0 ad H locs la C hA h0 h1 hz hP hD hS hL)
end RL
/-- the letters of the class's text -/
def TC (tf : Nat → Int32) (ta : Nat → Nat) (n : Nat) : Prop := n ≤ 200 ∧ ∀ p, p < n → tf p = nI (ta p) ∧ 32 ≤ ta p ∧ ta p ≤ 126
def ltc (ta : Nat → Nat) (n p : Nat) : Int32 := if p < n then nI (ta p) else nI 0
theorem ltc_t {ta : Nat → Nat} {n p : Nat} (h : p < n) : ltc ta n p = nI (ta p) := if_pos h
theorem ltc_f {ta : Nat → Nat} {n p : Nat} (h : ¬ p < n) : ltc ta n p = nI 0 := if_neg h
abbrev tx2 (n : Nat) (tf : Nat → Int32) : List va_E := [.inr (4, [.ref 1, .int (nI n)]), .inl (1, 200, .inl tf)]
theorem nar_c {a : Nat} (h : a < 65536) : vp_nar .char (nI a) = nI a := by unfold vp_nar; rw [(pk_charN h).1]

set_option maxRecDepth 20000 in
theorem t_X4_add_no (l : Launch) (tf : Nat → Int32) (x : Int32) : Fn l M_X4_add [.ref 0, .int x] (tx2 200 tf) (some (.int (nI 0))) (tx2 200 tf) := by
  refine con_of rfl rfl (Nat.le_of_ble_eq_true rfl) ?_
  refine g_lsN (ls' := [_, _]) rfl ?_
  refine g_aload_n (n := 1) dX4_add_0 rfl rfl ?_
  refine g_get (n := 4) fl_X4_15 dX4_add_1 rfl rfl rfl ?_
  refine g_if_lt (tgt := 17) (n := 7) dX4_add_4 (by decide) rfl (fun c4 => absurd c4 (by decide)) (fun c4 => ?_)
  refine g_aload_n (n := 8) dX4_add_7 rfl rfl ?_
  refine g_get (n := 11) fl_X4_15 dX4_add_8 rfl rfl rfl ?_
  refine g_sipush (v := nI 200) (n := 14) dX4_add_11 (by decide) rfl ?_
  refine g_icmp_lt (tgt := 19) (n := 17) dX4_add_14 (by decide) rfl (fun c14 => absurd c14 (by decide)) (fun c14 => ?_)
  refine g_iconst (v := nI 0) (n := 18) dX4_add_17 (by decide) rfl ?_
  exact g_iret (ty := .boolean) dX4_add_18 rfl (by first | exact bI_nar _ | decide) ⟨Nat.zero_le _, Nat.zero_le _⟩ ⟨rfl, rfl⟩
set_option maxRecDepth 20000 in
theorem t_X4_add_ok (l : Launch) (n : Nat) (hn : n < 200) (tf : Nat → Int32) (a : Nat) (ha : a < 65536) : Fn l M_X4_add [.ref 0, .int (nI a)] (tx2 n tf) (some (.int (nI 1))) (tx2 (n + 1) (upd tf n (nI a))) := by
  refine con_of rfl rfl (Nat.le_of_ble_eq_true rfl) ?_
  refine g_lsN (ls' := [_, _]) rfl ?_
  refine g_aload_n (n := 1) dX4_add_0 rfl rfl ?_
  refine g_get (n := 4) fl_X4_15 dX4_add_1 rfl rfl rfl ?_
  refine g_if_lt (tgt := 17) (n := 7) dX4_add_4 (by decide) rfl (fun c4 => absurd c4 (nI_pos (by omega))) (fun c4 => ?_)
  refine g_aload_n (n := 8) dX4_add_7 rfl rfl ?_
  refine g_get (n := 11) fl_X4_15 dX4_add_8 rfl rfl rfl ?_
  refine g_sipush (v := nI 200) (n := 14) dX4_add_11 (by decide) rfl ?_
  refine g_icmp_lt (tgt := 19) (n := 17) dX4_add_14 (by decide) rfl (fun c14 => ?_) (fun c14 => absurd (nI_lt (by omega) (by omega)) c14)
  refine g_aload_n (n := 20) dX4_add_19 rfl rfl ?_
  refine g_get (n := 23) fl_X4_9 dX4_add_20 rfl rfl rfl ?_
  refine g_aload_n (n := 24) dX4_add_23 rfl rfl ?_
  refine g_get (n := 27) fl_X4_15 dX4_add_24 rfl rfl rfl ?_
  refine g_iload_n (n := 28) dX4_add_27 rfl rfl ?_
  refine g_castN (n := 29) dX4_add_28 rfl rfl (by decide) (by omega) ?_
  refine g_wN (w' := [_, _]) rfl ?_
  rw [nar_c ha]
  refine g_aload_n (n := 30) dX4_add_29 rfl rfl ?_
  refine g_dup (n := 31) dX4_add_30 rfl rfl ?_
  refine g_get (n := 34) fl_X4_15 dX4_add_31 rfl rfl rfl ?_
  refine g_iconst (v := nI 1) (n := 35) dX4_add_34 (by decide) rfl ?_
  refine g_iaddN (n := 36) dX4_add_35 rfl ?_
  refine g_put (n := 39) pf_X4_15 dX4_add_36 rfl (Nat.le_of_ble_eq_true rfl) (fun _ => rfl) (fun _ => rfl) rfl ?_
  refine g_wN (w' := [_, _]) rfl ?_
  refine g_iconst (v := nI 1) (n := 40) dX4_add_39 (by decide) rfl ?_
  exact g_iret (ty := .boolean) dX4_add_40 rfl (by first | exact bI_nar _ | decide) ⟨Nat.zero_le _, Nat.zero_le _⟩ ⟨rfl, rfl⟩
set_option maxRecDepth 20000 in
theorem t_X4_letterAt (l : Launch) (n : Nat) (tf : Nat → Int32) (ta : Nat → Nat) (hT : TC tf ta n) (p : Nat) (hp : p < 1000) : Fn l M_X4_letterAt [.ref 0, .int (nI p)] (tx2 n tf) (some (.int (ltc ta n p))) (tx2 n tf) := by
  have hT1 := hT.1
  refine con_of rfl rfl (Nat.le_of_ble_eq_true rfl) ?_
  refine g_lsN (ls' := [_, _]) rfl ?_
  refine g_iload_n (n := 1) dX4_letterAt_0 rfl rfl ?_
  refine g_if_lt (tgt := 28) (n := 4) dX4_letterAt_1 (by decide) rfl (fun c1 => absurd c1 (nI_pos (by omega))) (fun c1 => ?_)
  refine g_iload_n (n := 5) dX4_letterAt_4 rfl rfl ?_
  refine g_aload_n (n := 6) dX4_letterAt_5 rfl rfl ?_
  refine g_get (n := 9) fl_X4_15 dX4_letterAt_6 rfl rfl rfl ?_
  refine g_icmp_ge (tgt := 28) (n := 12) dX4_letterAt_9 (by decide) rfl (fun c9 => ?_) (fun c9 => ?_)
  ·
    have e1 : ltc ta n p = nI 0 := ltc_f (fun q => nI_ge q (by omega) c9)
    refine g_iconst (v := nI 0) (n := 29) dX4_letterAt_28 (by decide) rfl ?_
    exact g_iret (ty := .char) dX4_letterAt_29 rfl (by first | (have := (hT.2 p hpn).2.2; exact (pk_charN (by omega)).1) | rfl) ⟨Nat.zero_le _, Nat.zero_le _⟩ ⟨by rw [e1], rfl⟩
  ·
    have hpn : p < n := by
      rcases Nat.lt_or_ge p n with q | q
      · exact q
      · exact absurd (nI_le q (by omega)) c9
    have e1 : ltc ta n p = nI (ta p) := ltc_t hpn
    refine g_iload_n (n := 13) dX4_letterAt_12 rfl rfl ?_
    refine g_sipush (v := nI 200) (n := 16) dX4_letterAt_13 (by decide) rfl ?_
    refine g_icmp_ge (tgt := 28) (n := 19) dX4_letterAt_16 (by decide) rfl (fun c16 => ?_) (fun c16 => ?_)
    ·
      exact absurd c16 (nI_ge (show p < 200 by omega) (by decide))
    ·
      refine g_aload_n (n := 20) dX4_letterAt_19 rfl rfl ?_
      refine g_get (n := 23) fl_X4_9 dX4_letterAt_20 rfl rfl rfl ?_
      refine g_iload_n (n := 24) dX4_letterAt_23 rfl rfl ?_
      refine g_caldN (n := 25) dX4_letterAt_24 rfl rfl (by decide) (by omega) ?_
      refine g_top (hT.2 p hpn).1 ?_
      refine g_goto (tgt := 29) dX4_letterAt_25 (by decide) ?_
      exact g_iret (ty := .char) dX4_letterAt_29 rfl (by first | (have := (hT.2 p hpn).2.2; exact (pk_charN (by omega)).1) | rfl) ⟨Nat.zero_le _, Nat.zero_le _⟩ ⟨by rw [e1], rfl⟩
set_option maxRecDepth 20000 in
theorem t_X1_figure_t (l : Launch) (a : Nat) (h1 : 48 ≤ a) (h2 : a ≤ 57) : Fn l M_X1_figure [.int (nI a)] ([]) (some (.int (nI (a - 48)))) ([]) := by
  refine con_of rfl rfl (Nat.le_of_ble_eq_true rfl) ?_
  refine g_lsN (ls' := [_]) rfl ?_
  refine g_iload_n (n := 1) dX1_figure_0 rfl rfl ?_
  refine g_bipush (v := nI 48) (n := 3) dX1_figure_1 (by decide) rfl ?_
  refine g_icmp_lt (tgt := 19) (n := 6) dX1_figure_3 (by decide) rfl (fun c3 => absurd c3 (nI_nlt h1 (by omega))) (fun c3 => ?_)
  refine g_iload_n (n := 7) dX1_figure_6 rfl rfl ?_
  refine g_bipush (v := nI 57) (n := 9) dX1_figure_7 (by decide) rfl ?_
  refine g_icmp_gt (tgt := 19) (n := 12) dX1_figure_9 (by decide) rfl (fun c9 => absurd c9 (fun q => nI_nlt h2 (by decide) q)) (fun c9 => ?_)
  refine g_iload_n (n := 13) dX1_figure_12 rfl rfl ?_
  refine g_bipush (v := nI 48) (n := 15) dX1_figure_13 (by decide) rfl ?_
  refine g_isubN (n := 16) dX1_figure_15 rfl h1 ?_
  refine g_goto (tgt := 20) dX1_figure_16 (by decide) ?_
  exact g_iret (ty := .int) dX1_figure_20 rfl rfl ⟨Nat.zero_le _, Nat.zero_le _⟩ ⟨rfl, rfl⟩
set_option maxRecDepth 20000 in
theorem t_X1_figure_f (l : Launch) (x : Int32) (h : inB x (nI 48) (nI 57) = false) : Fn l M_X1_figure [.int x] ([]) (some (.int (-1))) ([]) := by
  refine con_of rfl rfl (Nat.le_of_ble_eq_true rfl) ?_
  refine g_lsN (ls' := [_]) rfl ?_
  refine g_iload_n (n := 1) dX1_figure_0 rfl rfl ?_
  refine g_bipush (v := nI 48) (n := 3) dX1_figure_1 (by decide) rfl ?_
  refine g_icmp_lt (tgt := 19) (n := 6) dX1_figure_3 (by decide) rfl (fun c3 => ?_) (fun c3 => ?_)
  ·
    refine g_iconst (v := (-1)) (n := 20) dX1_figure_19 (by decide) rfl ?_
    exact g_iret (ty := .int) dX1_figure_20 rfl rfl ⟨Nat.zero_le _, Nat.zero_le _⟩ ⟨rfl, rfl⟩
  ·
    refine g_iload_n (n := 7) dX1_figure_6 rfl rfl ?_
    refine g_bipush (v := nI 57) (n := 9) dX1_figure_7 (by decide) rfl ?_
    refine g_icmp_gt (tgt := 19) (n := 12) dX1_figure_9 (by decide) rfl (fun c9 => ?_) (fun c9 => ?_)
    ·
      refine g_iconst (v := (-1)) (n := 20) dX1_figure_19 (by decide) rfl ?_
      exact g_iret (ty := .int) dX1_figure_20 rfl rfl ⟨Nat.zero_le _, Nat.zero_le _⟩ ⟨rfl, rfl⟩
    ·
      exact inB_x h c3 (Int32.not_lt.mp c9)
def nbh (a : Nat) : Nat := if a = 98 then 2 else if a = 102 then 4 else if a = 99 then 1 else if a = 100 then 1 else 0
set_option maxRecDepth 20000 in
theorem t_X1_numbersBehind_98 (l : Launch)  : Fn l M_X1_numbersBehind [.int (nI 98)] ([]) (some (.int (nI 2))) ([]) := by
  refine con_of rfl rfl (Nat.le_of_ble_eq_true rfl) ?_
  refine g_lsN (ls' := [_]) rfl ?_
  refine g_iload_n (n := 1) dX1_numbersBehind_0 rfl rfl ?_
  refine g_tableIn (tgt := 36) dX1_numbersBehind_1 (by decide) (by decide) rfl (by decide) ?_
  refine g_iconst (v := nI 2) (n := 37) dX1_numbersBehind_36 (by decide) rfl ?_
  exact g_iret (ty := .int) dX1_numbersBehind_37 rfl rfl ⟨Nat.zero_le _, Nat.zero_le _⟩ ⟨rfl, rfl⟩
set_option maxRecDepth 20000 in
theorem t_X1_numbersBehind_99 (l : Launch)  : Fn l M_X1_numbersBehind [.int (nI 99)] ([]) (some (.int (nI 1))) ([]) := by
  refine con_of rfl rfl (Nat.le_of_ble_eq_true rfl) ?_
  refine g_lsN (ls' := [_]) rfl ?_
  refine g_iload_n (n := 1) dX1_numbersBehind_0 rfl rfl ?_
  refine g_tableIn (tgt := 40) dX1_numbersBehind_1 (by decide) (by decide) rfl (by decide) ?_
  refine g_iconst (v := nI 1) (n := 41) dX1_numbersBehind_40 (by decide) rfl ?_
  exact g_iret (ty := .int) dX1_numbersBehind_41 rfl rfl ⟨Nat.zero_le _, Nat.zero_le _⟩ ⟨rfl, rfl⟩
set_option maxRecDepth 20000 in
theorem t_X1_numbersBehind_100 (l : Launch)  : Fn l M_X1_numbersBehind [.int (nI 100)] ([]) (some (.int (nI 1))) ([]) := by
  refine con_of rfl rfl (Nat.le_of_ble_eq_true rfl) ?_
  refine g_lsN (ls' := [_]) rfl ?_
  refine g_iload_n (n := 1) dX1_numbersBehind_0 rfl rfl ?_
  refine g_tableIn (tgt := 40) dX1_numbersBehind_1 (by decide) (by decide) rfl (by decide) ?_
  refine g_iconst (v := nI 1) (n := 41) dX1_numbersBehind_40 (by decide) rfl ?_
  exact g_iret (ty := .int) dX1_numbersBehind_41 rfl rfl ⟨Nat.zero_le _, Nat.zero_le _⟩ ⟨rfl, rfl⟩
set_option maxRecDepth 20000 in
theorem t_X1_numbersBehind_101 (l : Launch)  : Fn l M_X1_numbersBehind [.int (nI 101)] ([]) (some (.int (nI 0))) ([]) := by
  refine con_of rfl rfl (Nat.le_of_ble_eq_true rfl) ?_
  refine g_lsN (ls' := [_]) rfl ?_
  refine g_iload_n (n := 1) dX1_numbersBehind_0 rfl rfl ?_
  refine g_tableIn (tgt := 42) dX1_numbersBehind_1 (by decide) (by decide) rfl (by decide) ?_
  refine g_iconst (v := nI 0) (n := 43) dX1_numbersBehind_42 (by decide) rfl ?_
  exact g_iret (ty := .int) dX1_numbersBehind_43 rfl rfl ⟨Nat.zero_le _, Nat.zero_le _⟩ ⟨rfl, rfl⟩
set_option maxRecDepth 20000 in
theorem t_X1_numbersBehind_102 (l : Launch)  : Fn l M_X1_numbersBehind [.int (nI 102)] ([]) (some (.int (nI 4))) ([]) := by
  refine con_of rfl rfl (Nat.le_of_ble_eq_true rfl) ?_
  refine g_lsN (ls' := [_]) rfl ?_
  refine g_iload_n (n := 1) dX1_numbersBehind_0 rfl rfl ?_
  refine g_tableIn (tgt := 38) dX1_numbersBehind_1 (by decide) (by decide) rfl (by decide) ?_
  refine g_iconst (v := nI 4) (n := 39) dX1_numbersBehind_38 (by decide) rfl ?_
  exact g_iret (ty := .int) dX1_numbersBehind_39 rfl rfl ⟨Nat.zero_le _, Nat.zero_le _⟩ ⟨rfl, rfl⟩
set_option maxRecDepth 20000 in
theorem t_X1_numbersBehind_o (l : Launch) (a : Nat) (ha : a < 1000) (h : a < 98 ∨ 102 < a) : Fn l M_X1_numbersBehind [.int (nI a)] [] (some (.int (nI (nbh a)))) [] := by
  refine con_of rfl rfl (Nat.le_of_ble_eq_true rfl) ?_
  refine g_lsN (ls' := [_]) rfl ?_
  refine g_iload_n (n := 1) dX1_numbersBehind_0 rfl rfl ?_
  refine g_tableOut (tgt := 42) dX1_numbersBehind_1 (by rw [nI_toInt (by omega)]; omega) (by decide) ?_
  refine g_iconst (v := nI 0) (n := 43) dX1_numbersBehind_42 (by decide) rfl ?_
  exact g_iret (ty := .int) dX1_numbersBehind_43 rfl rfl ⟨Nat.zero_le _, Nat.zero_le _⟩ ⟨by unfold nbh; rw [if_neg (by omega), if_neg (by omega), if_neg (by omega), if_neg (by omega)], rfl⟩
theorem t_X1_numbersBehind (l : Launch) (a : Nat) (ha : a < 1000) : Fn l M_X1_numbersBehind [.int (nI a)] [] (some (.int (nI (nbh a)))) [] := by
  rcases (show a = 98 ∨ a = 99 ∨ a = 100 ∨ a = 101 ∨ a = 102 ∨ (a < 98 ∨ 102 < a) by omega) with rfl | rfl | rfl | rfl | rfl | h
  · exact t_X1_numbersBehind_98 l
  · exact t_X1_numbersBehind_99 l
  · exact t_X1_numbersBehind_100 l
  · exact t_X1_numbersBehind_101 l
  · exact t_X1_numbersBehind_102 l
  · exact t_X1_numbersBehind_o l a ha h
/-- reader, its numbers, text, letters -/
abbrev rd4 (nm : Nat → Int32) (nx : Int32) (n : Nat) (tf : Nat → Int32) : List va_E := [.inr (1, [.ref 1, .int nx]), .inl (0, 4, .inl nm), .inr (4, [.ref 3, .int (nI n)]), .inl (1, 200, .inl tf)]
theorem fg_t {ta : Nat → Nat} {n p : Nat} (h : fg ta n p = true) : p < n ∧ 48 ≤ ta p ∧ ta p ≤ 57 := by
  simp only [fg, Bool.and_eq_true, decide_eq_true_eq] at h
  exact h
theorem ltc_fg {ta : Nat → Nat} {n p : Nat} (hb : p < n → ta p ≤ 126) (h : fg ta n p = false) : inB (ltc ta n p) (nI 48) (nI 57) = false := by
  by_cases hp : p < n
  · have := hb hp
    unfold fg at h
    rw [decide_eq_true hp, Bool.true_and] at h
    rw [ltc_t hp, inB_nI (by omega) (by decide) (by decide)]
    exact h
  · rw [ltc_f hp]; decide
set_option maxRecDepth 20000 in
theorem t_X1_readNumber_no (l : Launch) (nm : Nat → Int32) (n : Nat) (tf : Nat → Int32) (ta : Nat → Nat) (hT : TC tf ta n) (p : Nat) (hp : p ≤ 900) (i : Nat) (hi : i < 4) (h : fg ta n p = false) : Fn l M_X1_readNumber [.ref 0, .ref 2, .int (nI i)] (rd4 nm (nI p) n tf) (some (.int (nI 0))) (rd4 nm (nI p) n tf) := by
  have hT1 := hT.1
  refine con_of rfl rfl (Nat.le_of_ble_eq_true rfl) ?_
  refine g_lsN (ls' := [_, _, _, _, _]) rfl ?_
  refine g_aload_n (n := 1) dX1_readNumber_0 rfl rfl ?_
  refine g_aload_n (n := 2) dX1_readNumber_1 rfl rfl ?_
  refine g_get (n := 5) fl_X1_20 dX1_readNumber_2 rfl rfl rfl ?_
  refine g_cutVi (ps := [2, 3]) (w' := [_, _, _, _]) (n := 8) cv_X1_33 (t_X4_letterAt l n tf ta hT (p) (by omega)) dX1_readNumber_5 rfl rfl rfl ⟨by decide, by decide, rfl, rfl, Nat.zero_le _, Nat.zero_le _⟩ rfl rfl rfl (Nat.le_of_ble_eq_true rfl) rfl rfl rfl ?_
  refine g_callSi (n := 11) cs_X1_49 (t_X1_figure_f l _ (ltc_fg (fun q => (hT.2 p q).2.2) h)) dX1_readNumber_8 rfl rfl ⟨by decide, by decide, rfl, rfl, Nat.zero_le _, Nat.zero_le _⟩ rfl (Nat.le_of_ble_eq_true rfl) rfl ?_
  refine g_istore_n (n := 12) dX1_readNumber_11 (by decide) rfl rfl ?_
  refine g_lsN (ls' := [_, _, _, _, _]) rfl ?_
  refine g_iload_n (n := 13) dX1_readNumber_12 rfl rfl ?_
  refine g_if_lt (tgt := 29) (n := 16) dX1_readNumber_13 (by decide) rfl (fun c13 => ?_) (fun c13 => absurd (by decide) c13)
  refine g_iconst (v := nI 0) (n := 30) dX1_readNumber_29 (by decide) rfl ?_
  exact g_iret (ty := .boolean) dX1_readNumber_30 rfl (by first | exact bI_nar _ | decide) ⟨Nat.zero_le _, Nat.zero_le _⟩ ⟨rfl, rfl⟩
set_option maxRecDepth 20000 in
theorem t_X1_readNumber_1 (l : Launch) (nm : Nat → Int32) (n : Nat) (tf : Nat → Int32) (ta : Nat → Nat) (hT : TC tf ta n) (p : Nat) (hp : p ≤ 900) (i : Nat) (hi : i < 4) (h : fg ta n p = true) (h2 : fg ta n (p + 1) = false) : Fn l M_X1_readNumber [.ref 0, .ref 2, .int (nI i)] (rd4 nm (nI p) n tf) (some (.int (nI 1))) (rd4 (upd nm i (nI (ta p - 48))) (nI (p + 1)) n tf) := by
  have hT1 := hT.1
  have h1 := fg_t h
  refine con_of rfl rfl (Nat.le_of_ble_eq_true rfl) ?_
  refine g_lsN (ls' := [_, _, _, _, _]) rfl ?_
  refine g_aload_n (n := 1) dX1_readNumber_0 rfl rfl ?_
  refine g_aload_n (n := 2) dX1_readNumber_1 rfl rfl ?_
  refine g_get (n := 5) fl_X1_20 dX1_readNumber_2 rfl rfl rfl ?_
  refine g_cutVi (ps := [2, 3]) (w' := [_, _, _, _]) (n := 8) cv_X1_33 (t_X4_letterAt l n tf ta hT (p) (by omega)) dX1_readNumber_5 rfl rfl rfl ⟨by decide, by decide, rfl, rfl, Nat.zero_le _, Nat.zero_le _⟩ rfl rfl rfl (Nat.le_of_ble_eq_true rfl) rfl rfl rfl ?_
  refine g_top (ltc_t h1.1) ?_
  refine g_callSi (n := 11) cs_X1_49 (t_X1_figure_t l (ta p) h1.2.1 h1.2.2) dX1_readNumber_8 rfl rfl ⟨by decide, by decide, rfl, rfl, Nat.zero_le _, Nat.zero_le _⟩ rfl (Nat.le_of_ble_eq_true rfl) rfl ?_
  refine g_istore_n (n := 12) dX1_readNumber_11 (by decide) rfl rfl ?_
  refine g_lsN (ls' := [_, _, _, _, _]) rfl ?_
  refine g_iload_n (n := 13) dX1_readNumber_12 rfl rfl ?_
  refine g_if_lt (tgt := 29) (n := 16) dX1_readNumber_13 (by decide) rfl (fun c13 => absurd c13 (nI_pos (by omega))) (fun c13 => ?_)
  refine g_iload_n (n := 17) dX1_readNumber_16 rfl rfl ?_
  refine g_if_lt (tgt := 29) (n := 20) dX1_readNumber_17 (by decide) rfl (fun c17 => absurd c17 (nI_pos (by omega))) (fun c17 => ?_)
  refine g_iload_n (n := 21) dX1_readNumber_20 rfl rfl ?_
  refine g_aload_n (n := 22) dX1_readNumber_21 rfl rfl ?_
  refine g_get (n := 25) fl_X1_9 dX1_readNumber_22 rfl rfl rfl ?_
  refine g_alen (n := 26) dX1_readNumber_25 rfl rfl ?_
  refine g_icmp_lt (tgt := 31) (n := 29) dX1_readNumber_26 (by decide) rfl (fun c26 => ?_) (fun c26 => absurd (nI_lt (by omega) (by omega)) c26)
  refine g_aload_n (n := 32) dX1_readNumber_31 rfl rfl ?_
  refine g_dup (n := 33) dX1_readNumber_32 rfl rfl ?_
  refine g_get (n := 36) fl_X1_20 dX1_readNumber_33 rfl rfl rfl ?_
  refine g_iconst (v := nI 1) (n := 37) dX1_readNumber_36 (by decide) rfl ?_
  refine g_iaddN (n := 38) dX1_readNumber_37 rfl ?_
  refine g_put (n := 41) pf_X1_20 dX1_readNumber_38 rfl (Nat.le_of_ble_eq_true rfl) (fun _ => rfl) (fun _ => rfl) rfl ?_
  refine g_wN (w' := [_, _, _, _]) rfl ?_
  refine g_aload_n (n := 42) dX1_readNumber_41 rfl rfl ?_
  refine g_aload_n (n := 43) dX1_readNumber_42 rfl rfl ?_
  refine g_get (n := 46) fl_X1_20 dX1_readNumber_43 rfl rfl rfl ?_
  refine g_cutVi (ps := [2, 3]) (w' := [_, _, _, _]) (n := 49) cv_X1_33 (t_X4_letterAt l n tf ta hT (p + 1) (by omega)) dX1_readNumber_46 rfl rfl rfl ⟨by decide, by decide, rfl, rfl, Nat.zero_le _, Nat.zero_le _⟩ rfl rfl rfl (Nat.le_of_ble_eq_true rfl) rfl rfl rfl ?_
  refine g_callSi (n := 52) cs_X1_49 (t_X1_figure_f l _ (ltc_fg (fun q => (hT.2 (p + 1) q).2.2) h2)) dX1_readNumber_49 rfl rfl ⟨by decide, by decide, rfl, rfl, Nat.zero_le _, Nat.zero_le _⟩ rfl (Nat.le_of_ble_eq_true rfl) rfl ?_
  refine g_istore (n := 54) dX1_readNumber_52 (by decide) rfl rfl ?_
  refine g_lsN (ls' := [_, _, _, _, _]) rfl ?_
  refine g_iload (n := 56) dX1_readNumber_54 rfl rfl ?_
  refine g_if_lt (tgt := 77) (n := 59) dX1_readNumber_56 (by decide) rfl (fun c56 => ?_) (fun c56 => absurd (by decide) c56)
  refine g_aload_n (n := 78) dX1_readNumber_77 rfl rfl ?_
  refine g_get (n := 81) fl_X1_9 dX1_readNumber_78 rfl rfl rfl ?_
  refine g_iload_n (n := 82) dX1_readNumber_81 rfl rfl ?_
  refine g_iload_n (n := 83) dX1_readNumber_82 rfl rfl ?_
  refine g_iastN (n := 84) dX1_readNumber_83 rfl rfl (by decide) (by omega) ?_
  refine g_wN (w' := [_, _, _, _]) rfl ?_
  refine g_iconst (v := nI 1) (n := 85) dX1_readNumber_84 (by decide) rfl ?_
  exact g_iret (ty := .boolean) dX1_readNumber_85 rfl (by first | exact bI_nar _ | decide) ⟨Nat.zero_le _, Nat.zero_le _⟩ ⟨rfl, rfl⟩
set_option maxRecDepth 20000 in
theorem t_X1_readNumber_2 (l : Launch) (nm : Nat → Int32) (n : Nat) (tf : Nat → Int32) (ta : Nat → Nat) (hT : TC tf ta n) (p : Nat) (hp : p ≤ 900) (i : Nat) (hi : i < 4) (h : fg ta n p = true) (h2 : fg ta n (p + 1) = true) : Fn l M_X1_readNumber [.ref 0, .ref 2, .int (nI i)] (rd4 nm (nI p) n tf) (some (.int (nI 1))) (rd4 (upd nm i (nI ((ta p - 48) * 10 + (ta (p + 1) - 48)))) (nI (p + 2)) n tf) := by
  have hT1 := hT.1
  have h1 := fg_t h
  have h3 := fg_t h2
  refine con_of rfl rfl (Nat.le_of_ble_eq_true rfl) ?_
  refine g_lsN (ls' := [_, _, _, _, _]) rfl ?_
  refine g_aload_n (n := 1) dX1_readNumber_0 rfl rfl ?_
  refine g_aload_n (n := 2) dX1_readNumber_1 rfl rfl ?_
  refine g_get (n := 5) fl_X1_20 dX1_readNumber_2 rfl rfl rfl ?_
  refine g_cutVi (ps := [2, 3]) (w' := [_, _, _, _]) (n := 8) cv_X1_33 (t_X4_letterAt l n tf ta hT (p) (by omega)) dX1_readNumber_5 rfl rfl rfl ⟨by decide, by decide, rfl, rfl, Nat.zero_le _, Nat.zero_le _⟩ rfl rfl rfl (Nat.le_of_ble_eq_true rfl) rfl rfl rfl ?_
  refine g_top (ltc_t h1.1) ?_
  refine g_callSi (n := 11) cs_X1_49 (t_X1_figure_t l (ta p) h1.2.1 h1.2.2) dX1_readNumber_8 rfl rfl ⟨by decide, by decide, rfl, rfl, Nat.zero_le _, Nat.zero_le _⟩ rfl (Nat.le_of_ble_eq_true rfl) rfl ?_
  refine g_istore_n (n := 12) dX1_readNumber_11 (by decide) rfl rfl ?_
  refine g_lsN (ls' := [_, _, _, _, _]) rfl ?_
  refine g_iload_n (n := 13) dX1_readNumber_12 rfl rfl ?_
  refine g_if_lt (tgt := 29) (n := 16) dX1_readNumber_13 (by decide) rfl (fun c13 => absurd c13 (nI_pos (by omega))) (fun c13 => ?_)
  refine g_iload_n (n := 17) dX1_readNumber_16 rfl rfl ?_
  refine g_if_lt (tgt := 29) (n := 20) dX1_readNumber_17 (by decide) rfl (fun c17 => absurd c17 (nI_pos (by omega))) (fun c17 => ?_)
  refine g_iload_n (n := 21) dX1_readNumber_20 rfl rfl ?_
  refine g_aload_n (n := 22) dX1_readNumber_21 rfl rfl ?_
  refine g_get (n := 25) fl_X1_9 dX1_readNumber_22 rfl rfl rfl ?_
  refine g_alen (n := 26) dX1_readNumber_25 rfl rfl ?_
  refine g_icmp_lt (tgt := 31) (n := 29) dX1_readNumber_26 (by decide) rfl (fun c26 => ?_) (fun c26 => absurd (nI_lt (by omega) (by omega)) c26)
  refine g_aload_n (n := 32) dX1_readNumber_31 rfl rfl ?_
  refine g_dup (n := 33) dX1_readNumber_32 rfl rfl ?_
  refine g_get (n := 36) fl_X1_20 dX1_readNumber_33 rfl rfl rfl ?_
  refine g_iconst (v := nI 1) (n := 37) dX1_readNumber_36 (by decide) rfl ?_
  refine g_iaddN (n := 38) dX1_readNumber_37 rfl ?_
  refine g_put (n := 41) pf_X1_20 dX1_readNumber_38 rfl (Nat.le_of_ble_eq_true rfl) (fun _ => rfl) (fun _ => rfl) rfl ?_
  refine g_wN (w' := [_, _, _, _]) rfl ?_
  refine g_aload_n (n := 42) dX1_readNumber_41 rfl rfl ?_
  refine g_aload_n (n := 43) dX1_readNumber_42 rfl rfl ?_
  refine g_get (n := 46) fl_X1_20 dX1_readNumber_43 rfl rfl rfl ?_
  refine g_cutVi (ps := [2, 3]) (w' := [_, _, _, _]) (n := 49) cv_X1_33 (t_X4_letterAt l n tf ta hT (p + 1) (by omega)) dX1_readNumber_46 rfl rfl rfl ⟨by decide, by decide, rfl, rfl, Nat.zero_le _, Nat.zero_le _⟩ rfl rfl rfl (Nat.le_of_ble_eq_true rfl) rfl rfl rfl ?_
  refine g_top (ltc_t h3.1) ?_
  refine g_callSi (n := 52) cs_X1_49 (t_X1_figure_t l (ta (p + 1)) h3.2.1 h3.2.2) dX1_readNumber_49 rfl rfl ⟨by decide, by decide, rfl, rfl, Nat.zero_le _, Nat.zero_le _⟩ rfl (Nat.le_of_ble_eq_true rfl) rfl ?_
  refine g_istore (n := 54) dX1_readNumber_52 (by decide) rfl rfl ?_
  refine g_lsN (ls' := [_, _, _, _, _]) rfl ?_
  refine g_iload (n := 56) dX1_readNumber_54 rfl rfl ?_
  refine g_if_lt (tgt := 77) (n := 59) dX1_readNumber_56 (by decide) rfl (fun c56 => absurd c56 (nI_pos (by omega))) (fun c56 => ?_)
  refine g_iload_n (n := 60) dX1_readNumber_59 rfl rfl ?_
  refine g_bipush (v := nI 10) (n := 62) dX1_readNumber_60 (by decide) rfl ?_
  refine g_imulN (n := 63) dX1_readNumber_62 rfl ?_
  refine g_iload (n := 65) dX1_readNumber_63 rfl rfl ?_
  refine g_iaddN (n := 66) dX1_readNumber_65 rfl ?_
  refine g_istore_n (n := 67) dX1_readNumber_66 (by decide) rfl rfl ?_
  refine g_lsN (ls' := [_, _, _, _, _]) rfl ?_
  refine g_aload_n (n := 68) dX1_readNumber_67 rfl rfl ?_
  refine g_dup (n := 69) dX1_readNumber_68 rfl rfl ?_
  refine g_get (n := 72) fl_X1_20 dX1_readNumber_69 rfl rfl rfl ?_
  refine g_iconst (v := nI 1) (n := 73) dX1_readNumber_72 (by decide) rfl ?_
  refine g_iaddN (n := 74) dX1_readNumber_73 rfl ?_
  refine g_put (n := 77) pf_X1_20 dX1_readNumber_74 rfl (Nat.le_of_ble_eq_true rfl) (fun _ => rfl) (fun _ => rfl) rfl ?_
  refine g_wN (w' := [_, _, _, _]) rfl ?_
  refine g_aload_n (n := 78) dX1_readNumber_77 rfl rfl ?_
  refine g_get (n := 81) fl_X1_9 dX1_readNumber_78 rfl rfl rfl ?_
  refine g_iload_n (n := 82) dX1_readNumber_81 rfl rfl ?_
  refine g_iload_n (n := 83) dX1_readNumber_82 rfl rfl ?_
  refine g_iastN (n := 84) dX1_readNumber_83 rfl rfl (by decide) (by omega) ?_
  refine g_wN (w' := [_, _, _, _]) rfl ?_
  refine g_iconst (v := nI 1) (n := 85) dX1_readNumber_84 (by decide) rfl ?_
  exact g_iret (ty := .boolean) dX1_readNumber_85 rfl (by first | exact bI_nar _ | decide) ⟨Nat.zero_le _, Nat.zero_le _⟩ ⟨rfl, rfl⟩
theorem t_X1_readNumber_ok (l : Launch) (nm : Nat → Int32) (n : Nat) (tf : Nat → Int32) (ta : Nat → Nat) (hT : TC tf ta n) (p : Nat) (hp : p ≤ 900) (i : Nat) (hi : i < 4) (v q : Nat) (h : nrF ta n p = some (v, q)) : Fn l M_X1_readNumber [.ref 0, .ref 2, .int (nI i)] (rd4 nm (nI p) n tf) (some (.int (nI 1))) (rd4 (upd nm i (nI v)) (nI q) n tf) := by
  unfold nrF at h
  by_cases h1 : fg ta n p = true
  · rw [if_pos h1] at h
    by_cases h2 : fg ta n (p + 1) = true
    · rw [if_pos h2] at h
      cases h
      rw [Nat.mul_comm]
      exact t_X1_readNumber_2 l nm n tf ta hT p hp i hi h1 h2
    · rw [if_neg h2] at h
      cases h
      rw [Bool.not_eq_true] at h2
      exact t_X1_readNumber_1 l nm n tf ta hT p hp i hi h1 h2
  · rw [if_neg h1] at h
    cases h
theorem nrF_no {ta : Nat → Nat} {n p : Nat} (h : nrF ta n p = none) : fg ta n p = false := by
  unfold nrF at h
  cases h1 : fg ta n p with
  | false => rfl
  | true =>
    rw [h1, if_pos rfl] at h
    split at h
    · cases h
    · cases h
/-- the numbers of an item of w numbers, from number i on: the row of numbers, the place behind -/
def syL (ta : Nat → Nat) (n w : Nat) : Nat → Nat → Nat → (Nat → Int32) → Option ((Nat → Int32) × Nat)
  | 0, _, p, nm => some (nm, p)
  | j + 1, i, p, nm => match nrF ta n p with
    | none => none
    | some (v, q) => if ltc ta n q = nI (if i + 1 = w then 59 else 44) then syL ta n w j (i + 1) (q + 1) (upd nm i (nI v)) else none
/-- reader, text, a wall -/
abbrev rw11 (nm : Nat → Int32) (nx : Int32) (n : Nat) (tf : Nat → Int32) (V : WT) (dn : Int32) (fb : Nat → Int32) : List va_E := [.inr (1, [.ref 1, .int nx]), .inl (0, 4, .inl nm), .inr (4, [.ref 3, .int (nI n)]), .inl (1, 200, .inl tf), wo V dn 4, a8 (vth V), a8 (vpa V), a6 (vki V), a6 (vsg V), a6 fb, a6 (vkn V)]
set_option maxRecDepth 20000 in
theorem lp_X1_readItem (l : Launch) (z : Nat × Nat × Nat) (hz : z.2.1 ≤ 0 ∧ z.2.2 ≤ 0) (Q : Option Value → List va_E → Prop) (n : Nat) (tf : Nat → Int32) (ta : Nat → Nat) (hT : TC tf ta n) (V : WT) (dn : Int32) (fb : Nat → Int32) (a w : Nat) (hw : w ≤ 4) : ∀ (j i p : Nat) (nm : Nat → Int32), i + j = w → p + 3 * j ≤ 800 → (syL ta n w j i p nm = none → ∀ nm2 nx, Q (some (.int (nI 0))) (rw11 nm2 nx n tf V dn fb)) → (∀ nm2 p2, syL ta n w j i p nm = some (nm2, p2) → G l M_X1_readItem z Q 97 [some (.ref 0), some (.ref 2), some (.ref 4), some (.int (nI a)), some (.int (nI w)), some (.int (nI w))] [] (rw11 nm2 (nI p2) n tf V dn fb)) → G l M_X1_readItem z Q 35 [some (.ref 0), some (.ref 2), some (.ref 4), some (.int (nI a)), some (.int (nI w)), some (.int (nI i))] [] (rw11 nm (nI p) n tf V dn fb) := by
  have hT1 := hT.1
  intro j
  induction j with
  | zero =>
    intro i p nm hi hp hno hyes
    have hiw : i = w := by omega
    subst hiw
    refine g_iload (n := 37) dX1_readItem_35 rfl rfl ?_
    refine g_iload (n := 39) dX1_readItem_37 rfl rfl ?_
    refine g_icmp_ge (tgt := 97) (n := 42) dX1_readItem_39 (by decide) rfl (fun c39 => ?_) (fun c39 => absurd (nI_le (Nat.le_refl _) (by omega)) c39)
    exact hyes nm p rfl
  | succ j ih =>
    intro i p nm hi hp hno hyes
    cases hr : nrF ta n p with
    | none =>
      have hs : syL ta n w (j + 1) i p nm = none := by rw [syL, hr]
      refine g_iload (n := 37) dX1_readItem_35 rfl rfl ?_
      refine g_iload (n := 39) dX1_readItem_37 rfl rfl ?_
      refine g_icmp_ge (tgt := 97) (n := 42) dX1_readItem_39 (by decide) rfl (fun c39 => absurd c39 (nI_ge (by omega) (by omega))) (fun c39 => ?_)
      refine g_aload_n (n := 43) dX1_readItem_42 rfl rfl ?_
      refine g_aload_n (n := 44) dX1_readItem_43 rfl rfl ?_
      refine g_iload (n := 46) dX1_readItem_44 rfl rfl ?_
      refine g_cutVi (ps := [0, 1, 2, 3]) (w' := [_, _, _, _, _, _, _, _, _, _, _]) (n := 49) cv_X1_41 (t_X1_readNumber_no l nm n tf ta hT p (by omega) i (by omega) (nrF_no hr)) dX1_readItem_46 rfl rfl rfl ⟨by decide, by decide, rfl, rfl, hz.1, hz.2⟩ rfl rfl rfl (Nat.le_of_ble_eq_true rfl) rfl rfl rfl ?_
      refine g_if_eq (tgt := 79) (n := 52) dX1_readItem_49 (by decide) rfl (fun c49 => ?_) (fun c49 => absurd rfl c49)
      refine g_iconst (v := nI 0) (n := 80) dX1_readItem_79 (by decide) rfl ?_
      exact g_iret (ty := .boolean) dX1_readItem_80 rfl (by first | exact bI_nar _ | decide) hz (hno hs _ _)
    | some r =>
      obtain ⟨v, q⟩ := r
      have hq := nrF_ok hr
      have hs : syL ta n w (j + 1) i p nm = if ltc ta n q = nI (if i + 1 = w then 59 else 44) then syL ta n w j (i + 1) (q + 1) (upd nm i (nI v)) else none := by rw [syL, hr]
      by_cases hl : i + 1 = w
      · rw [if_pos hl] at hs
        by_cases he : ltc ta n q = nI 59
        · rw [if_pos he] at hs
          refine g_iload (n := 37) dX1_readItem_35 rfl rfl ?_
          refine g_iload (n := 39) dX1_readItem_37 rfl rfl ?_
          refine g_icmp_ge (tgt := 97) (n := 42) dX1_readItem_39 (by decide) rfl (fun c39 => absurd c39 (nI_ge (by omega) (by omega))) (fun c39 => ?_)
          refine g_aload_n (n := 43) dX1_readItem_42 rfl rfl ?_
          refine g_aload_n (n := 44) dX1_readItem_43 rfl rfl ?_
          refine g_iload (n := 46) dX1_readItem_44 rfl rfl ?_
          refine g_cutVi (ps := [0, 1, 2, 3]) (w' := [_, _, _, _, _, _, _, _, _, _, _]) (n := 49) cv_X1_41 (t_X1_readNumber_ok l nm n tf ta hT p (by omega) i (by omega) v q hr) dX1_readItem_46 rfl rfl rfl ⟨by decide, by decide, rfl, rfl, hz.1, hz.2⟩ rfl rfl rfl (Nat.le_of_ble_eq_true rfl) rfl rfl rfl ?_
          refine g_if_eq (tgt := 79) (n := 52) dX1_readItem_49 (by decide) rfl (fun c49 => absurd c49 (by decide)) (fun c49 => ?_)
          refine g_aload_n (n := 53) dX1_readItem_52 rfl rfl ?_
          refine g_aload_n (n := 54) dX1_readItem_53 rfl rfl ?_
          refine g_get (n := 57) fl_X1_20 dX1_readItem_54 rfl rfl rfl ?_
          refine g_cutVi (ps := [2, 3]) (w' := [_, _, _, _, _, _, _, _, _, _, _]) (n := 60) cv_X1_33 (t_X4_letterAt l n tf ta hT q (by omega)) dX1_readItem_57 rfl rfl rfl ⟨by decide, by decide, rfl, rfl, hz.1, hz.2⟩ rfl rfl rfl (Nat.le_of_ble_eq_true rfl) rfl rfl rfl ?_
          refine g_iload (n := 62) dX1_readItem_60 rfl rfl ?_
          refine g_iload (n := 64) dX1_readItem_62 rfl rfl ?_
          refine g_iconst (v := nI 1) (n := 65) dX1_readItem_64 (by decide) rfl ?_
          refine g_isubN (n := 66) dX1_readItem_65 rfl (by omega) ?_
          refine g_icmp_ne (tgt := 74) (n := 69) dX1_readItem_66 (by decide) rfl (fun c66 => absurd (show nI i = nI (w - 1) by rw [show i = w - 1 by omega]) c66) (fun c66 => ?_)
          refine g_bipush (v := nI 59) (n := 71) dX1_readItem_69 (by decide) rfl ?_
          refine g_goto (tgt := 76) dX1_readItem_71 (by decide) ?_
          refine g_icmp_eq (tgt := 81) (n := 79) dX1_readItem_76 (by decide) rfl (fun c76 => ?_) (fun c76 => absurd he c76)
          refine g_aload_n (n := 82) dX1_readItem_81 rfl rfl ?_
          refine g_dup (n := 83) dX1_readItem_82 rfl rfl ?_
          refine g_get (n := 86) fl_X1_20 dX1_readItem_83 rfl rfl rfl ?_
          refine g_iconst (v := nI 1) (n := 87) dX1_readItem_86 (by decide) rfl ?_
          refine g_iaddN (n := 88) dX1_readItem_87 rfl ?_
          refine g_put (n := 91) pf_X1_20 dX1_readItem_88 rfl (Nat.le_of_ble_eq_true rfl) (fun _ => rfl) (fun _ => rfl) rfl ?_
          refine g_wN (w' := [_, _, _, _, _, _, _, _, _, _, _]) rfl ?_
          refine g_iincN (k := 1) (n := 94) dX1_readItem_91 rfl (by decide) rfl rfl ?_
          refine g_lsN (ls' := [_, _, _, _, _, _]) rfl ?_
          refine g_goto (tgt := 35) dX1_readItem_94 (by decide) ?_
          exact ih (i + 1) (q + 1) (upd nm i (nI v)) (by omega) (by omega) (fun h => hno (hs.trans h)) (fun nm2 p2 h => hyes nm2 p2 (hs.trans h))
        · rw [if_neg he] at hs
          refine g_iload (n := 37) dX1_readItem_35 rfl rfl ?_
          refine g_iload (n := 39) dX1_readItem_37 rfl rfl ?_
          refine g_icmp_ge (tgt := 97) (n := 42) dX1_readItem_39 (by decide) rfl (fun c39 => absurd c39 (nI_ge (by omega) (by omega))) (fun c39 => ?_)
          refine g_aload_n (n := 43) dX1_readItem_42 rfl rfl ?_
          refine g_aload_n (n := 44) dX1_readItem_43 rfl rfl ?_
          refine g_iload (n := 46) dX1_readItem_44 rfl rfl ?_
          refine g_cutVi (ps := [0, 1, 2, 3]) (w' := [_, _, _, _, _, _, _, _, _, _, _]) (n := 49) cv_X1_41 (t_X1_readNumber_ok l nm n tf ta hT p (by omega) i (by omega) v q hr) dX1_readItem_46 rfl rfl rfl ⟨by decide, by decide, rfl, rfl, hz.1, hz.2⟩ rfl rfl rfl (Nat.le_of_ble_eq_true rfl) rfl rfl rfl ?_
          refine g_if_eq (tgt := 79) (n := 52) dX1_readItem_49 (by decide) rfl (fun c49 => absurd c49 (by decide)) (fun c49 => ?_)
          refine g_aload_n (n := 53) dX1_readItem_52 rfl rfl ?_
          refine g_aload_n (n := 54) dX1_readItem_53 rfl rfl ?_
          refine g_get (n := 57) fl_X1_20 dX1_readItem_54 rfl rfl rfl ?_
          refine g_cutVi (ps := [2, 3]) (w' := [_, _, _, _, _, _, _, _, _, _, _]) (n := 60) cv_X1_33 (t_X4_letterAt l n tf ta hT q (by omega)) dX1_readItem_57 rfl rfl rfl ⟨by decide, by decide, rfl, rfl, hz.1, hz.2⟩ rfl rfl rfl (Nat.le_of_ble_eq_true rfl) rfl rfl rfl ?_
          refine g_iload (n := 62) dX1_readItem_60 rfl rfl ?_
          refine g_iload (n := 64) dX1_readItem_62 rfl rfl ?_
          refine g_iconst (v := nI 1) (n := 65) dX1_readItem_64 (by decide) rfl ?_
          refine g_isubN (n := 66) dX1_readItem_65 rfl (by omega) ?_
          refine g_icmp_ne (tgt := 74) (n := 69) dX1_readItem_66 (by decide) rfl (fun c66 => absurd (show nI i = nI (w - 1) by rw [show i = w - 1 by omega]) c66) (fun c66 => ?_)
          refine g_bipush (v := nI 59) (n := 71) dX1_readItem_69 (by decide) rfl ?_
          refine g_goto (tgt := 76) dX1_readItem_71 (by decide) ?_
          refine g_icmp_eq (tgt := 81) (n := 79) dX1_readItem_76 (by decide) rfl (fun c76 => absurd c76 he) (fun c76 => ?_)
          refine g_iconst (v := nI 0) (n := 80) dX1_readItem_79 (by decide) rfl ?_
          exact g_iret (ty := .boolean) dX1_readItem_80 rfl (by first | exact bI_nar _ | decide) hz (hno hs _ _)
      · rw [if_neg hl] at hs
        by_cases he : ltc ta n q = nI 44
        · rw [if_pos he] at hs
          refine g_iload (n := 37) dX1_readItem_35 rfl rfl ?_
          refine g_iload (n := 39) dX1_readItem_37 rfl rfl ?_
          refine g_icmp_ge (tgt := 97) (n := 42) dX1_readItem_39 (by decide) rfl (fun c39 => absurd c39 (nI_ge (by omega) (by omega))) (fun c39 => ?_)
          refine g_aload_n (n := 43) dX1_readItem_42 rfl rfl ?_
          refine g_aload_n (n := 44) dX1_readItem_43 rfl rfl ?_
          refine g_iload (n := 46) dX1_readItem_44 rfl rfl ?_
          refine g_cutVi (ps := [0, 1, 2, 3]) (w' := [_, _, _, _, _, _, _, _, _, _, _]) (n := 49) cv_X1_41 (t_X1_readNumber_ok l nm n tf ta hT p (by omega) i (by omega) v q hr) dX1_readItem_46 rfl rfl rfl ⟨by decide, by decide, rfl, rfl, hz.1, hz.2⟩ rfl rfl rfl (Nat.le_of_ble_eq_true rfl) rfl rfl rfl ?_
          refine g_if_eq (tgt := 79) (n := 52) dX1_readItem_49 (by decide) rfl (fun c49 => absurd c49 (by decide)) (fun c49 => ?_)
          refine g_aload_n (n := 53) dX1_readItem_52 rfl rfl ?_
          refine g_aload_n (n := 54) dX1_readItem_53 rfl rfl ?_
          refine g_get (n := 57) fl_X1_20 dX1_readItem_54 rfl rfl rfl ?_
          refine g_cutVi (ps := [2, 3]) (w' := [_, _, _, _, _, _, _, _, _, _, _]) (n := 60) cv_X1_33 (t_X4_letterAt l n tf ta hT q (by omega)) dX1_readItem_57 rfl rfl rfl ⟨by decide, by decide, rfl, rfl, hz.1, hz.2⟩ rfl rfl rfl (Nat.le_of_ble_eq_true rfl) rfl rfl rfl ?_
          refine g_iload (n := 62) dX1_readItem_60 rfl rfl ?_
          refine g_iload (n := 64) dX1_readItem_62 rfl rfl ?_
          refine g_iconst (v := nI 1) (n := 65) dX1_readItem_64 (by decide) rfl ?_
          refine g_isubN (n := 66) dX1_readItem_65 rfl (by omega) ?_
          refine g_icmp_ne (tgt := 74) (n := 69) dX1_readItem_66 (by decide) rfl (fun c66 => ?_) (fun c66 => absurd c66 (fun x => by have := (nI_eq (by omega) (by omega)).mp x; omega))
          refine g_bipush (v := nI 44) (n := 76) dX1_readItem_74 (by decide) rfl ?_
          refine g_icmp_eq (tgt := 81) (n := 79) dX1_readItem_76 (by decide) rfl (fun c76 => ?_) (fun c76 => absurd he c76)
          refine g_aload_n (n := 82) dX1_readItem_81 rfl rfl ?_
          refine g_dup (n := 83) dX1_readItem_82 rfl rfl ?_
          refine g_get (n := 86) fl_X1_20 dX1_readItem_83 rfl rfl rfl ?_
          refine g_iconst (v := nI 1) (n := 87) dX1_readItem_86 (by decide) rfl ?_
          refine g_iaddN (n := 88) dX1_readItem_87 rfl ?_
          refine g_put (n := 91) pf_X1_20 dX1_readItem_88 rfl (Nat.le_of_ble_eq_true rfl) (fun _ => rfl) (fun _ => rfl) rfl ?_
          refine g_wN (w' := [_, _, _, _, _, _, _, _, _, _, _]) rfl ?_
          refine g_iincN (k := 1) (n := 94) dX1_readItem_91 rfl (by decide) rfl rfl ?_
          refine g_lsN (ls' := [_, _, _, _, _, _]) rfl ?_
          refine g_goto (tgt := 35) dX1_readItem_94 (by decide) ?_
          exact ih (i + 1) (q + 1) (upd nm i (nI v)) (by omega) (by omega) (fun h => hno (hs.trans h)) (fun nm2 p2 h => hyes nm2 p2 (hs.trans h))
        · rw [if_neg he] at hs
          refine g_iload (n := 37) dX1_readItem_35 rfl rfl ?_
          refine g_iload (n := 39) dX1_readItem_37 rfl rfl ?_
          refine g_icmp_ge (tgt := 97) (n := 42) dX1_readItem_39 (by decide) rfl (fun c39 => absurd c39 (nI_ge (by omega) (by omega))) (fun c39 => ?_)
          refine g_aload_n (n := 43) dX1_readItem_42 rfl rfl ?_
          refine g_aload_n (n := 44) dX1_readItem_43 rfl rfl ?_
          refine g_iload (n := 46) dX1_readItem_44 rfl rfl ?_
          refine g_cutVi (ps := [0, 1, 2, 3]) (w' := [_, _, _, _, _, _, _, _, _, _, _]) (n := 49) cv_X1_41 (t_X1_readNumber_ok l nm n tf ta hT p (by omega) i (by omega) v q hr) dX1_readItem_46 rfl rfl rfl ⟨by decide, by decide, rfl, rfl, hz.1, hz.2⟩ rfl rfl rfl (Nat.le_of_ble_eq_true rfl) rfl rfl rfl ?_
          refine g_if_eq (tgt := 79) (n := 52) dX1_readItem_49 (by decide) rfl (fun c49 => absurd c49 (by decide)) (fun c49 => ?_)
          refine g_aload_n (n := 53) dX1_readItem_52 rfl rfl ?_
          refine g_aload_n (n := 54) dX1_readItem_53 rfl rfl ?_
          refine g_get (n := 57) fl_X1_20 dX1_readItem_54 rfl rfl rfl ?_
          refine g_cutVi (ps := [2, 3]) (w' := [_, _, _, _, _, _, _, _, _, _, _]) (n := 60) cv_X1_33 (t_X4_letterAt l n tf ta hT q (by omega)) dX1_readItem_57 rfl rfl rfl ⟨by decide, by decide, rfl, rfl, hz.1, hz.2⟩ rfl rfl rfl (Nat.le_of_ble_eq_true rfl) rfl rfl rfl ?_
          refine g_iload (n := 62) dX1_readItem_60 rfl rfl ?_
          refine g_iload (n := 64) dX1_readItem_62 rfl rfl ?_
          refine g_iconst (v := nI 1) (n := 65) dX1_readItem_64 (by decide) rfl ?_
          refine g_isubN (n := 66) dX1_readItem_65 rfl (by omega) ?_
          refine g_icmp_ne (tgt := 74) (n := 69) dX1_readItem_66 (by decide) rfl (fun c66 => ?_) (fun c66 => absurd c66 (fun x => by have := (nI_eq (by omega) (by omega)).mp x; omega))
          refine g_bipush (v := nI 44) (n := 76) dX1_readItem_74 (by decide) rfl ?_
          refine g_icmp_eq (tgt := 81) (n := 79) dX1_readItem_76 (by decide) rfl (fun c76 => absurd c76 he) (fun c76 => ?_)
          refine g_iconst (v := nI 0) (n := 80) dX1_readItem_79 (by decide) rfl ?_
          exact g_iret (ty := .boolean) dX1_readItem_80 rfl (by first | exact bI_nar _ | decide) hz (hno hs _ _)

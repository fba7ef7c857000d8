/-! 67.cinit: the class's constructor -/
/-- what the class reads of its first text -/
def R8 : RR := rdR tz 107 200 0 (clV V0) fz (nI 0)
theorem clW_put {n : Nat} {ps : List Nat} {u : List va_E} {w : List va_E} (hw : clW n w) (hu : ∀ x ∈ u, clE n (ren ps x)) : clW n (putM w ps u) := by
  unfold putM
  have key : ∀ (qs : List (Nat × va_E)) (w : List va_E), clW n w → (∀ q ∈ qs, clE n (ren ps q.2)) → clW n (qs.foldl (fun w q => w.set q.1 (ren ps q.2)) w) := by
    intro qs
    induction qs with
    | nil => intro w h _; exact h
    | cons q qs ih =>
      intro w h h2
      exact ih _ (clW_set h (h2 q List.mem_cons_self)) (fun x hx => h2 x (List.mem_cons_of_mem _ hx))
  exact key _ w hw (fun q hq => hu q.2 (List.of_mem_zip hq).2)
abbrev keA (i : Nat) : va_E := .inl (2, 2, .inr (.inr (.inr (.inr (sref 101 i)))))
abbrev bST : List va_E := [so Z0 0, a6 fz, a6 fz, a8 fz]
set_option maxRecDepth 20000 in
theorem lp_kept (l : Launch) {z : Nat × Nat × Nat} {Q : Option Value → List va_E → Prop} {w : List va_E} {fs : List Value} {i k : Nat} (hk : k = 101 + 4 * i) (hi : i < 2) (c : CSt k w fs) (hfs : fs[7]? = some (.ref 86)) (h86 : w[86]? = some (keA i)) (hz : z.2.1 + 1 + 3 ≤ 108 ∧ z.2.2 + 6 + 20 ≤ 885)
    (kk : ∀ w2, CSt (k + 4) w2 fs → w2[86]? = some (keA (i + 1)) → (∀ j, j < k → j ≠ 86 → w2[j]? = w[j]?) → (∀ j, j < 4 → w2[k + j]? = (bST.map (ren (rg k 4)))[j]?) → GE EZ l M_X8_init (z.1, z.2.1 + 1 + 3, z.2.2 + 6 + 20) Q 113 [some (.ref 0), some (.int (nI (i + 1)))] [] w2) : GE EZ l M_X8_init z Q 113 [some (.ref 0), some (.int (nI i))] [] w := by
  refine h_iload_n (n := 114) dX8_init_113 rfl rfl ?_
  refine h_iconst (v := nI 2) (n := 115) dX8_init_114 (by decide) rfl ?_
  refine h_icmp_ge (tgt := 137) (n := 118) dX8_init_115 (by decide) rfl (fun q => absurd q (nI_ge hi (by decide))) (fun _ => ?_)
  refine h_aload_n (n := 119) dX8_init_118 rfl rfl ?_
  refine h_get (n := 122) fl_X8_58 dX8_init_119 c.2.2.1 hfs rfl ?_
  refine h_iload_n (n := 123) dX8_init_122 rfl rfl ?_
  refine h_mkN (k := k) (nn := 3) (ci := 3) (ty := tyX3) (fs0 := dfX3) (n := 130) c dX8_init_123 dX8_init_126 dX8_init_127 us_X3 tyX3_ok kl_X8_44 ki_X3 kj_X3 rfl dfok_X3 rfl ci_X8_46 (t_X3_init l) rfl ⟨rfl, trivial, trivial, trivial, trivial⟩ ?_ rfl ⟨by decide, by decide, by decide, hz.1, hz.2⟩ (Nat.le_of_ble_eq_true rfl) rfl ?_
  · rw [List.all_cons, Bool.and_eq_true]
    exact ⟨rfl, by rw [List.all_cons, Bool.and_eq_true]; exact ⟨(show clR k (.ref 86) = true from decide_eq_true (show 86 < k by omega)), rfl⟩⟩
  obtain ⟨a1, a2, a3⟩ := cs_app (m := 4) (b := bST) c ⟨rfl, trivial, trivial, trivial, trivial⟩ rfl
  have hb : (w ++ bST.map (ren (rg k 4)))[k]? = some (ren (rg k 4) (so Z0 0)) := a3 0 (by decide)
  refine h_aastN (n := 131) (j := i) (N := 2) (f := sref 101 i) dX8_init_130 ((a2 86 (by omega)).trans h86) hb rfl (by decide) hi ?_
  have eS : va_up (sref 101 i) i (some k) = sref 101 (i + 1) := by rw [hk]; exact sref_up 101 i
  rw [eS]
  refine h_iincN (k := 1) (n := 134) dX8_init_131 rfl (by decide) rfl rfl ?_
  refine h_lsN (ls' := [_, _]) rfl ?_
  refine h_goto (tgt := 113) dX8_init_134 (by decide) ?_
  refine kk _ ⟨by rw [List.length_set]; exact a1.1, clW_set a1.2.1 (sref_cl (b := 101) (k := i + 1) (by omega)), ?_, a1.2.2.2⟩ (List.getElem?_set_self (by rw [a1.1]; omega)) (fun j hj hne => ?_) (fun j hj => ?_)
  · rw [List.getElem?_set_ne (by omega)]; exact a1.2.2.1
  · rw [List.getElem?_set_ne (by omega)]; exact a2 j hj
  · rw [List.getElem?_set_ne (by omega)]; exact a3 j hj
def QX8 (r : Option Value) (u : List va_E) : Prop := r = none ∧ u.length = 109 ∧ clW 109 u ∧ ∃ tf, I8 u (nI 0) 94 87 0 tf (cyS R8.2.1 R8.2.2.2.1 R8.2.2.1) 0 0 (fun _ => Z0) (fun _ => Z0) R8.2.1 R8.2.2.2.1 R8.2.2.1
theorem no_x2_obj : ([0] : List Nat).all (fun i => !(([1, 2] : List Nat).take 2).contains i) = true := by decide +kernel
theorem no_x2_rdr : ([3, 4] : List Nat).all (fun i => !(([1, 2] : List Nat).take 2).contains i) = true := by decide +kernel
theorem no_x2_clk : ([5, 6, 7, 8] : List Nat).all (fun i => !(([1, 2] : List Nat).take 2).contains i) = true := by decide +kernel
theorem no_x2_tri : ([9, 10, 11, 12, 13, 14, 15, 16, 17] : List Nat).all (fun i => !(([1, 2] : List Nat).take 2).contains i) = true := by decide +kernel
theorem no_x2_ros : ([18, 19, 20, 21, 22, 23, 24, 25, 26, 27, 28, 29, 30, 31, 32, 33, 34, 35, 36, 37, 38, 39, 40, 41, 42, 43, 44, 45, 46, 47] : List Nat).all (fun i => !(([1, 2] : List Nat).take 2).contains i) = true := by decide +kernel
theorem no_x2_now : ([48, 49, 50, 51] : List Nat).all (fun i => !(([1, 2] : List Nat).take 2).contains i) = true := by decide +kernel
theorem no_x2_trl : ([52, 53, 54, 55, 56, 57, 58, 59, 60, 61, 62, 63, 64, 65, 66, 67, 68, 69, 70, 71, 72, 73, 74, 75, 76, 77, 78, 79, 80, 81, 82, 83, 84, 85] : List Nat).all (fun i => !(([1, 2] : List Nat).take 2).contains i) = true := by decide +kernel
theorem no_x2_kep : ([86, 101, 102, 103, 104, 105, 106, 107, 108] : List Nat).all (fun i => !(([1, 2] : List Nat).take 2).contains i) = true := by decide +kernel
theorem no_x2_wal {la sp : Nat} (fl : (la = 87 ∧ sp = 94 ∨ la = 94 ∧ sp = 87)) : (List.range 7).all (fun i => !(([1, 2] : List Nat).take 2).contains (la + i)) = true := by
  rcases fl with ⟨rfl, rfl⟩ | ⟨rfl, rfl⟩ <;> decide +kernel
theorem no_x2_spa {la sp : Nat} (fl : (la = 87 ∧ sp = 94 ∨ la = 94 ∧ sp = 87)) : (List.range 7).all (fun i => !(([1, 2] : List Nat).take 2).contains (sp + i)) = true := by
  rcases fl with ⟨rfl, rfl⟩ | ⟨rfl, rfl⟩ <;> decide +kernel
theorem put_x2 {w u : List va_E} {kc : Int32} {la sp n n2 : Nat} {tf tf2 : Nat → Int32} {S : ST} {tn sz : Nat} {P K : Nat → ST} {V : WT} {dn : Int32} {fb : Nat → Int32} (I : I8 w kc la sp n tf S tn sz P K V dn fb) (hu : u = tx2 n2 tf2) : I8 (putM w [1, 2] u) kc la sp n2 tf2 S tn sz P K V dn fb := by
  obtain ⟨fl, hl, ho, ht, hr, hc, hi, hro, hno, htr, hk, hw, hs⟩ := I
  have hlen : u.length = 2 := by rw [hu]; rfl
  refine ⟨fl, by rw [put_len]; exact hl, oObj hlen no_x2_obj ho, ⟨?_, ?_⟩, oRdr hlen no_x2_rdr hr, oClk hlen no_x2_clk hc, oTri hlen no_x2_tri hi, oRos hlen no_x2_ros hro, oNow hlen no_x2_now hno, oTrl hlen no_x2_trl htr, oKep hlen no_x2_kep hk, wl_out hlen (no_x2_wal fl) hw, oSpa hlen (no_x2_spa fl) hs⟩
  · exact (put_in (w := w) (u := u) (ps := [1, 2]) (n := 2) (j := 0) (k := 1) (y := .inr (4, [.ref 1, .int (nI n2)])) hlen rfl rfl (by rw [hu]; rfl) (by omega)).trans rfl
  · exact (put_in (w := w) (u := u) (ps := [1, 2]) (n := 2) (j := 1) (k := 2) (y := .inl (1, 200, .inl tf2)) hlen rfl rfl (by rw [hu]; rfl) (by omega)).trans rfl
set_option maxRecDepth 20000 in
theorem R8_ok : R8.1 = (-4) ∧ ¬ vnb R8.2.1 = 0 := by decide +kernel
set_option maxRecDepth 20000 in
set_option maxHeartbeats 4000000 in
theorem t_X8_make (l : Launch) (Q : Option Value → List va_E → Prop) (kk : ∀ w, I8 w (nI 0) 87 94 0 fz Z0 0 0 (fun _ => Z0) (fun _ => Z0) V0 (nI 0) fz → wlF w 94 V0 (nI 0) fz → clW 109 w → w.length = 109 → GE EZ l M_X8_init (1, 108, 885) Q 139 [some (.ref 0), some (.int (nI 0))] [] w) : GE EZ l M_X8_init (1, 0, 0) Q 0 [some (.ref 0), none] [] [.inr (8, dfX8)] := by
  refine h_aload_n (n := 1) dX8_init_0 rfl rfl ?_
  refine h_objInit (n := 4) dX8_init_1 lk_X8_1 lw_oi lc_oi (by decide) (Nat.le_of_ble_eq_true rfl) rfl ?_
  have c0 : CSt 1 [.inr (8, dfX8)] dfX8 := ⟨rfl, ⟨rfl, trivial⟩, rfl, by decide⟩
  generalize ([.inr (8, dfX8)] : List va_E) = w0 at c0 ⊢
  refine h_fldN (k := 1) (nn := 1) (ci := 4) (ty := tyX4) (fs0 := dfX4) (i := 0) (n := 15) c0 dX8_init_4 dX8_init_5 dX8_init_8 dX8_init_9 dX8_init_12 us_X4 tyX4_ok kl_X8_7 ki_X4 kj_X4 rfl dfok_X4 rfl ci_X8_9 (t_X4_init l) rfl ⟨rfl, trivial, trivial⟩ rfl rfl ⟨by decide, by decide, by decide, by decide, by decide⟩ pf_X8_10 rfl rfl (by decide) (fun _ => rfl) (fun _ => rfl) rfl ?_
  intro w1 c1 o1 n1
  refine h_fldN (k := 3) (nn := 1) (ci := 1) (ty := tyX1) (fs0 := dfX1) (i := 1) (n := 26) c1 dX8_init_15 dX8_init_16 dX8_init_19 dX8_init_20 dX8_init_23 us_X1 tyX1_ok kl_X8_16 ki_X1 kj_X1 rfl dfok_X1 rfl ci_X8_18 (t_X1_init l) rfl ⟨rfl, trivial, trivial⟩ rfl rfl ⟨by decide, by decide, by decide, by decide, by decide⟩ pf_X8_19 rfl rfl (by decide) (fun _ => rfl) (fun _ => rfl) rfl ?_
  intro w2 c2 o2 n2
  refine h_fldN (k := 5) (nn := 3) (ci := 0) (ty := tyX0) (fs0 := dfX0) (i := 2) (n := 37) c2 dX8_init_26 dX8_init_27 dX8_init_30 dX8_init_31 dX8_init_34 us_X0 tyX0_ok kl_X8_23 ki_X0 kj_X0 rfl dfok_X0 rfl ci_X8_25 (t_X0_init l) rfl ⟨rfl, trivial, trivial, trivial, trivial⟩ rfl rfl ⟨by decide, by decide, by decide, by decide, by decide⟩ pf_X8_26 rfl rfl (by decide) (fun _ => rfl) (fun _ => rfl) rfl ?_
  intro w3 c3 o3 n3
  refine h_fldN (k := 9) (nn := 8) (ci := 6) (ty := tyX6) (fs0 := dfX6) (i := 3) (n := 48) c3 dX8_init_37 dX8_init_38 dX8_init_41 dX8_init_42 dX8_init_45 us_X6 tyX6_ok kl_X8_30 ki_X6 kj_X6 rfl dfok_X6 rfl ci_X8_32 (t_X6_init l) rfl ⟨rfl, rfl, trivial, trivial, trivial, rfl, trivial, trivial, trivial, trivial⟩ rfl rfl ⟨by decide, by decide, by decide, by decide, by decide⟩ pf_X8_33 rfl rfl (by decide) (fun _ => rfl) (fun _ => rfl) rfl ?_
  intro w4 c4 o4 n4
  refine h_fldI (k := 18) (nn := 29) (ci := 2) (ty := tyX2) (fs0 := dfX2) (i := 4) (n := 59) c4 dX8_init_48 dX8_init_49 dX8_init_52 dX8_init_53 dX8_init_56 us_X2 tyX2_ok kl_X8_37 ki_X2 kj_X2 rfl dfok_X2 rfl ci_X8_39 (t_X2_init l) rfl ⟨rfl, rfl, trivial, trivial, trivial, (sref_cl (by decide)), rfl, trivial, trivial, trivial, rfl, trivial, trivial, trivial, rfl, trivial, trivial, trivial, rfl, trivial, trivial, trivial, rfl, trivial, trivial, trivial, rfl, trivial, trivial, trivial, trivial⟩ rfl rfl ⟨by decide, by decide, by decide, by decide, by decide⟩ pf_X8_40 rfl rfl (by decide) (fun _ => rfl) (fun _ => rfl) rfl ?_
  intro w5 c5 o5 n5
  refine h_fldN (k := 48) (nn := 3) (ci := 3) (ty := tyX3) (fs0 := dfX3) (i := 5) (n := 70) c5 dX8_init_59 dX8_init_60 dX8_init_63 dX8_init_64 dX8_init_67 us_X3 tyX3_ok kl_X8_44 ki_X3 kj_X3 rfl dfok_X3 rfl ci_X8_46 (t_X3_init l) rfl ⟨rfl, trivial, trivial, trivial, trivial⟩ rfl rfl ⟨by decide, by decide, by decide, by decide, by decide⟩ pf_X8_47 rfl rfl (by decide) (fun _ => rfl) (fun _ => rfl) rfl ?_
  intro w6 c6 o6 n6
  refine h_fldI (k := 52) (nn := 33) (ci := 5) (ty := tyX5) (fs0 := dfX5) (i := 6) (n := 81) c6 dX8_init_70 dX8_init_71 dX8_init_74 dX8_init_75 dX8_init_78 us_X5 tyX5_ok kl_X8_51 ki_X5 kj_X5 rfl dfok_X5 rfl ci_X8_53 (t_X5_init l) rfl ⟨rfl, (sref_cl (by decide)), rfl, trivial, trivial, trivial, rfl, trivial, trivial, trivial, rfl, trivial, trivial, trivial, rfl, trivial, trivial, trivial, rfl, trivial, trivial, trivial, rfl, trivial, trivial, trivial, rfl, trivial, trivial, trivial, rfl, trivial, trivial, trivial, trivial⟩ rfl rfl ⟨by decide, by decide, by decide, by decide, by decide⟩ pf_X8_54 rfl rfl (by decide) (fun _ => rfl) (fun _ => rfl) rfl ?_
  intro w7 c7 o7 n7
  refine h_aload_n (n := 82) dX8_init_81 rfl rfl ?_
  refine h_iconst (v := nI 2) (n := 83) dX8_init_82 (by decide) rfl ?_
  refine h_newq (k := 86) (N := 2) (n := 86) c7.1 dX8_init_83 kl_X8_44 (by decide) c7.2.1 (by decide) rfl ⟨by decide, by decide⟩ rfl ?_
  refine h_wN (w' := w7 ++ ([keA 0].map (ren (rg 86 1)))) (congrArg (fun x => w7 ++ [x]) (congrArg (fun h : Nat → Option Nat => (Sum.inl (2, 2, .inr (.inr (.inr (.inr h)))) : va_E)) (by funext j; rfl))) ?_
  obtain ⟨a8c, a8o, a8n⟩ := cs_app (m := 1) (b := [keA 0]) c7 ⟨(fun j r h => by unfold sref at h; rw [if_neg (Nat.not_lt_zero j)] at h; cases h), trivial⟩ rfl
  refine h_putF (n := 89) pf_X8_58 rfl rfl dX8_init_86 a8c.2.2.1 (by decide) (fun _ => rfl) (fun _ => rfl) rfl ?_
  obtain ⟨c8, o8⟩ := cs_set 7 (v := .ref 86) a8c (by decide)
  generalize hw8 : (w7 ++ ([keA 0].map (ren (rg 86 1)))).set 0 _ = w8 at c8 o8
  have h86 : w8[86]? = some (keA 0) := (o8 86 (by decide)).trans ((a8n 0 (by decide)).trans (congrArg (fun h : Nat → Option Nat => some (Sum.inl (2, 2, .inr (.inr (.inr (.inr h)))) : va_E)) (by funext j; rfl)))
  refine h_fldW (k := 87) (nn := 6) (ci := 7) (ty := tyX7) (fs0 := dfX7) (i := 9) (n := 100) c8 dX8_init_89 dX8_init_90 dX8_init_93 dX8_init_94 dX8_init_97 us_X7 tyX7_ok kl_X8_62 ki_X7 kj_X7 rfl dfok_X7 rfl ci_X8_64 (t_X7_init l) rfl ⟨rfl, trivial, trivial, trivial, trivial, trivial, trivial, trivial⟩ rfl rfl ⟨by decide, by decide, by decide, by decide, by decide⟩ pf_X8_65 (by decide) (fun _ => rfl) (fun _ => rfl) rfl ?_
  intro w9 c9 o9 n9
  refine h_fldW (k := 94) (nn := 6) (ci := 7) (ty := tyX7) (fs0 := dfX7) (i := 10) (n := 111) c9 dX8_init_100 dX8_init_101 dX8_init_104 dX8_init_105 dX8_init_108 us_X7 tyX7_ok kl_X8_62 ki_X7 kj_X7 rfl dfok_X7 rfl ci_X8_64 (t_X7_init l) rfl ⟨rfl, trivial, trivial, trivial, trivial, trivial, trivial, trivial⟩ rfl rfl ⟨by decide, by decide, by decide, by decide, by decide⟩ pf_X8_69 (by decide) (fun _ => rfl) (fun _ => rfl) rfl ?_
  intro w10 c10 o10 n10
  refine h_iconst (v := nI 0) (n := 112) dX8_init_111 (by decide) rfl ?_
  refine h_istore_n (n := 113) dX8_init_112 (by decide) rfl rfl ?_
  refine h_lsN (ls' := [_, _]) rfl ?_
  refine lp_kept l (i := 0) (k := 101) rfl (by decide) c10 rfl ((o10 86 (by decide) (by decide)).trans ((o9 86 (by decide) (by decide)).trans h86)) ⟨by decide, by decide⟩ ?_
  intro w11 c11 k11 o11 n11
  refine lp_kept l (i := 1) (k := 105) rfl (by decide) c11 rfl k11 ⟨by decide, by decide⟩ ?_
  intro w12 c12 k12 o12 n12
  refine h_iload_n (n := 114) dX8_init_113 rfl rfl ?_
  refine h_iconst (v := nI 2) (n := 115) dX8_init_114 (by decide) rfl ?_
  refine h_icmp_ge (tgt := 137) (n := 118) dX8_init_115 (by decide) rfl (fun _ => ?_) (fun q => absurd (by decide) q)
  refine h_iconst (v := nI 0) (n := 138) dX8_init_137 (by decide) rfl ?_
  refine h_istore_n (n := 139) dX8_init_138 (by decide) rfl rfl ?_
  refine h_lsN (ls' := [_, _]) rfl ?_
  have f1 : ∀ j, j < 2 → w12[1 + j]? = _ := fun j hj => (o12 (1 + j) (by omega) (by omega)).trans ((o11 (1 + j) (by omega) (by omega)).trans ((o10 (1 + j) (by omega) (by omega)).trans ((o9 (1 + j) (by omega) (by omega)).trans ((o8 (1 + j) (by omega)).trans ((a8o (1 + j) (by omega)).trans ((o7 (1 + j) (by omega) (by omega)).trans ((o6 (1 + j) (by omega) (by omega)).trans ((o5 (1 + j) (by omega) (by omega)).trans ((o4 (1 + j) (by omega) (by omega)).trans ((o3 (1 + j) (by omega) (by omega)).trans ((o2 (1 + j) (by omega) (by omega)).trans (n1 j hj))))))))))))
  have f2 : ∀ j, j < 2 → w12[3 + j]? = _ := fun j hj => (o12 (3 + j) (by omega) (by omega)).trans ((o11 (3 + j) (by omega) (by omega)).trans ((o10 (3 + j) (by omega) (by omega)).trans ((o9 (3 + j) (by omega) (by omega)).trans ((o8 (3 + j) (by omega)).trans ((a8o (3 + j) (by omega)).trans ((o7 (3 + j) (by omega) (by omega)).trans ((o6 (3 + j) (by omega) (by omega)).trans ((o5 (3 + j) (by omega) (by omega)).trans ((o4 (3 + j) (by omega) (by omega)).trans ((o3 (3 + j) (by omega) (by omega)).trans (n2 j hj)))))))))))
  have f3 : ∀ j, j < 4 → w12[5 + j]? = _ := fun j hj => (o12 (5 + j) (by omega) (by omega)).trans ((o11 (5 + j) (by omega) (by omega)).trans ((o10 (5 + j) (by omega) (by omega)).trans ((o9 (5 + j) (by omega) (by omega)).trans ((o8 (5 + j) (by omega)).trans ((a8o (5 + j) (by omega)).trans ((o7 (5 + j) (by omega) (by omega)).trans ((o6 (5 + j) (by omega) (by omega)).trans ((o5 (5 + j) (by omega) (by omega)).trans ((o4 (5 + j) (by omega) (by omega)).trans (n3 j hj))))))))))
  have f4 : ∀ j, j < 9 → w12[9 + j]? = _ := fun j hj => (o12 (9 + j) (by omega) (by omega)).trans ((o11 (9 + j) (by omega) (by omega)).trans ((o10 (9 + j) (by omega) (by omega)).trans ((o9 (9 + j) (by omega) (by omega)).trans ((o8 (9 + j) (by omega)).trans ((a8o (9 + j) (by omega)).trans ((o7 (9 + j) (by omega) (by omega)).trans ((o6 (9 + j) (by omega) (by omega)).trans ((o5 (9 + j) (by omega) (by omega)).trans (n4 j hj)))))))))
  have f5 : ∀ j, j < 30 → w12[18 + j]? = _ := fun j hj => (o12 (18 + j) (by omega) (by omega)).trans ((o11 (18 + j) (by omega) (by omega)).trans ((o10 (18 + j) (by omega) (by omega)).trans ((o9 (18 + j) (by omega) (by omega)).trans ((o8 (18 + j) (by omega)).trans ((a8o (18 + j) (by omega)).trans ((o7 (18 + j) (by omega) (by omega)).trans ((o6 (18 + j) (by omega) (by omega)).trans (n5 j hj))))))))
  have f6 : ∀ j, j < 4 → w12[48 + j]? = _ := fun j hj => (o12 (48 + j) (by omega) (by omega)).trans ((o11 (48 + j) (by omega) (by omega)).trans ((o10 (48 + j) (by omega) (by omega)).trans ((o9 (48 + j) (by omega) (by omega)).trans ((o8 (48 + j) (by omega)).trans ((a8o (48 + j) (by omega)).trans ((o7 (48 + j) (by omega) (by omega)).trans (n6 j hj)))))))
  have f7 : ∀ j, j < 34 → w12[52 + j]? = _ := fun j hj => (o12 (52 + j) (by omega) (by omega)).trans ((o11 (52 + j) (by omega) (by omega)).trans ((o10 (52 + j) (by omega) (by omega)).trans ((o9 (52 + j) (by omega) (by omega)).trans ((o8 (52 + j) (by omega)).trans ((a8o (52 + j) (by omega)).trans (n7 j hj))))))
  have f9 : ∀ j, j < 7 → w12[87 + j]? = _ := fun j hj => (o12 (87 + j) (by omega) (by omega)).trans ((o11 (87 + j) (by omega) (by omega)).trans ((o10 (87 + j) (by omega) (by omega)).trans (n9 j hj)))
  have f10 : ∀ j, j < 7 → w12[94 + j]? = _ := fun j hj => (o12 (94 + j) (by omega) (by omega)).trans ((o11 (94 + j) (by omega) (by omega)).trans (n10 j hj))
  have f11 : ∀ j, j < 4 → w12[101 + j]? = _ := fun j hj => (o12 (101 + j) (by omega) (by omega)).trans (n11 j hj)
  have I0 : I8 w12 (nI 0) 87 94 0 fz Z0 0 0 (fun _ => Z0) (fun _ => Z0) V0 (nI 0) fz := by
    have zZ : okZ Z0 := ⟨fun _ _ => rfl, fun _ _ => rfl, fun _ _ => rfl⟩
    refine ⟨Or.inl ⟨rfl, rfl⟩, by rw [c12.1]; decide, c12.2.2.1, ⟨(f1 0 (by decide)).trans rfl, (f1 1 (by decide)).trans rfl⟩, ⟨fz, nI 0, (f2 0 (by decide)).trans rfl, (f2 1 (by decide)).trans rfl⟩, ⟨fz, fz, fz, ⟨(f3 0 (by decide)).trans rfl, (f3 1 (by decide)).trans rfl, (f3 2 (by decide)).trans rfl, (f3 3 (by decide)).trans rfl⟩⟩, ⟨nI 0, Z0, fz, fz, fz, zZ, (f4 0 (by decide)).trans rfl, ⟨(f4 1 (by decide)).trans rfl, (f4 2 (by decide)).trans rfl, (f4 3 (by decide)).trans rfl, (f4 4 (by decide)).trans rfl⟩, ⟨(f4 5 (by decide)).trans rfl, (f4 6 (by decide)).trans rfl, (f4 7 (by decide)).trans rfl, (f4 8 (by decide)).trans rfl⟩⟩, ⟨0, 0, fun _ => Z0, fz, fz, fz, by decide, by decide, fun _ => zZ, (f5 0 (by decide)).trans rfl, ⟨(f5 1 (by decide)).trans rfl, (f5 2 (by decide)).trans rfl, (f5 3 (by decide)).trans rfl, (f5 4 (by decide)).trans rfl⟩, (f5 5 (by decide)).trans (congrArg some (ren_sarr (ps := rg 18 30) (b := 6) (b2 := 24) (n := 6) (fun j hj => by rw [sg_rg (by omega)]; omega))), fun i hi => ?_⟩, ⟨(f6 0 (by decide)).trans rfl, (f6 1 (by decide)).trans rfl, (f6 2 (by decide)).trans rfl, (f6 3 (by decide)).trans rfl⟩, ⟨(f7 0 (by decide)).trans rfl, (f7 1 (by decide)).trans (congrArg some (ren_sarr (ps := rg 52 34) (b := 2) (b2 := 54) (n := 8) (fun j hj => by rw [sg_rg (by omega)]; omega))), fun i hi => ?_⟩, ⟨k12, fun i hi => ?_⟩, ⟨(f9 0 (by decide)).trans rfl, (f9 1 (by decide)).trans rfl, (f9 2 (by decide)).trans rfl, (f9 3 (by decide)).trans rfl, (f9 4 (by decide)).trans rfl, (f9 5 (by decide)).trans rfl, (f9 6 (by decide)).trans rfl⟩, ⟨V0, nI 0, fz, ⟨fun _ _ => rfl, fun _ _ => rfl, fun _ _ => rfl, fun _ _ => rfl, fun _ _ => rfl, fun _ _ => rfl⟩, ⟨(f10 0 (by decide)).trans rfl, (f10 1 (by decide)).trans rfl, (f10 2 (by decide)).trans rfl, (f10 3 (by decide)).trans rfl, (f10 4 (by decide)).trans rfl, (f10 5 (by decide)).trans rfl, (f10 6 (by decide)).trans rfl⟩⟩⟩
    · rcases (show i = 0 ∨ i = 1 ∨ i = 2 ∨ i = 3 ∨ i = 4 ∨ i = 5 by omega) with rfl | rfl | rfl | rfl | rfl | rfl
      · exact ⟨(f5 6 (by decide)).trans rfl, (f5 7 (by decide)).trans rfl, (f5 8 (by decide)).trans rfl, (f5 9 (by decide)).trans rfl⟩
      · exact ⟨(f5 10 (by decide)).trans rfl, (f5 11 (by decide)).trans rfl, (f5 12 (by decide)).trans rfl, (f5 13 (by decide)).trans rfl⟩
      · exact ⟨(f5 14 (by decide)).trans rfl, (f5 15 (by decide)).trans rfl, (f5 16 (by decide)).trans rfl, (f5 17 (by decide)).trans rfl⟩
      · exact ⟨(f5 18 (by decide)).trans rfl, (f5 19 (by decide)).trans rfl, (f5 20 (by decide)).trans rfl, (f5 21 (by decide)).trans rfl⟩
      · exact ⟨(f5 22 (by decide)).trans rfl, (f5 23 (by decide)).trans rfl, (f5 24 (by decide)).trans rfl, (f5 25 (by decide)).trans rfl⟩
      · exact ⟨(f5 26 (by decide)).trans rfl, (f5 27 (by decide)).trans rfl, (f5 28 (by decide)).trans rfl, (f5 29 (by decide)).trans rfl⟩
    · rcases (show i = 0 ∨ i = 1 ∨ i = 2 ∨ i = 3 ∨ i = 4 ∨ i = 5 ∨ i = 6 ∨ i = 7 by omega) with rfl | rfl | rfl | rfl | rfl | rfl | rfl | rfl
      · exact ⟨(f7 2 (by decide)).trans rfl, (f7 3 (by decide)).trans rfl, (f7 4 (by decide)).trans rfl, (f7 5 (by decide)).trans rfl⟩
      · exact ⟨(f7 6 (by decide)).trans rfl, (f7 7 (by decide)).trans rfl, (f7 8 (by decide)).trans rfl, (f7 9 (by decide)).trans rfl⟩
      · exact ⟨(f7 10 (by decide)).trans rfl, (f7 11 (by decide)).trans rfl, (f7 12 (by decide)).trans rfl, (f7 13 (by decide)).trans rfl⟩
      · exact ⟨(f7 14 (by decide)).trans rfl, (f7 15 (by decide)).trans rfl, (f7 16 (by decide)).trans rfl, (f7 17 (by decide)).trans rfl⟩
      · exact ⟨(f7 18 (by decide)).trans rfl, (f7 19 (by decide)).trans rfl, (f7 20 (by decide)).trans rfl, (f7 21 (by decide)).trans rfl⟩
      · exact ⟨(f7 22 (by decide)).trans rfl, (f7 23 (by decide)).trans rfl, (f7 24 (by decide)).trans rfl, (f7 25 (by decide)).trans rfl⟩
      · exact ⟨(f7 26 (by decide)).trans rfl, (f7 27 (by decide)).trans rfl, (f7 28 (by decide)).trans rfl, (f7 29 (by decide)).trans rfl⟩
      · exact ⟨(f7 30 (by decide)).trans rfl, (f7 31 (by decide)).trans rfl, (f7 32 (by decide)).trans rfl, (f7 33 (by decide)).trans rfl⟩
    · rcases (show i = 0 ∨ i = 1 by omega) with rfl | rfl
      · exact ⟨(f11 0 (by decide)).trans rfl, (f11 1 (by decide)).trans rfl, (f11 2 (by decide)).trans rfl, (f11 3 (by decide)).trans rfl⟩
      · exact ⟨(n12 0 (by decide)).trans rfl, (n12 1 (by decide)).trans rfl, (n12 2 (by decide)).trans rfl, (n12 3 (by decide)).trans rfl⟩
  exact kk w12 I0 ⟨(f10 0 (by decide)).trans rfl, (f10 1 (by decide)).trans rfl, (f10 2 (by decide)).trans rfl, (f10 3 (by decide)).trans rfl, (f10 4 (by decide)).trans rfl, (f10 5 (by decide)).trans rfl, (f10 6 (by decide)).trans rfl⟩ c12.2.1 c12.1

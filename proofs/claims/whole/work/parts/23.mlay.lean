/-! 23.mlay: the reference reads items, texts; lays a wall -/
abbrev RT : Type := Bool × WT × (Nat → Int32) × Int32 × Nat
def rcF (ta : Nat → Nat) (n p : Nat) (V : WT) (be : Nat → Int32) (dn : Int32) : RT :=
  if decide ((nuA ta n p (nI 0) (nI 1) 59).1 < 0) || decide (vnc V = 12) then (false, V, be, dn, (nuA ta n p (nI 0) (nI 1) 59).2)
  else (true, vC V (nuA ta n p (nI 0) (nI 1) 59).1, be, dn, (nuA ta n p (nI 0) (nI 1) 59).2)
def rdF (ta : Nat → Nat) (n p : Nat) (V : WT) (be : Nat → Int32) (dn : Int32) : RT :=
  if 0 ≤ (nuA ta n p (nI 0) (nI (vnf V) - nI 1) 59).1 then (true, V, be, dn ||| nI 1 <<< ((nuA ta n p (nI 0) (nI (vnf V) - nI 1) 59).1 &&& 31), (nuA ta n p (nI 0) (nI (vnf V) - nI 1) 59).2)
  else (false, V, be, dn ||| nI 0, (nuA ta n p (nI 0) (nI (vnf V) - nI 1) 59).2)
/-- an item whose letter is a, its numbers from p on -/
def riF (ta : Nat → Nat) (n p a : Nat) (V : WT) (be : Nat → Int32) (dn : Int32) : RT :=
  if a = 98 then ((rbF ta n p V).1, (rbF ta n p V).2.1, be, dn, (rbF ta n p V).2.2)
  else if a = 102 then ((rfF ta n p V be).1, (rfF ta n p V be).2.1, (rfF ta n p V be).2.2.1, dn, (rfF ta n p V be).2.2.2)
  else if a = 99 then rcF ta n p V be dn
  else if a = 100 then rdF ta n p V be dn
  else (false, V, be, dn, p)
theorem riF_b {ta : Nat → Nat} {n p : Nat} {V : WT} {be : Nat → Int32} {dn : Int32} : riF ta n p 98 V be dn = ((rbF ta n p V).1, (rbF ta n p V).2.1, be, dn, (rbF ta n p V).2.2) := rfl
theorem riF_f {ta : Nat → Nat} {n p : Nat} {V : WT} {be : Nat → Int32} {dn : Int32} : riF ta n p 102 V be dn = ((rfF ta n p V be).1, (rfF ta n p V be).2.1, (rfF ta n p V be).2.2.1, dn, (rfF ta n p V be).2.2.2) := rfl
theorem riF_c {ta : Nat → Nat} {n p : Nat} {V : WT} {be : Nat → Int32} {dn : Int32} : riF ta n p 99 V be dn = rcF ta n p V be dn := rfl
theorem riF_d {ta : Nat → Nat} {n p : Nat} {V : WT} {be : Nat → Int32} {dn : Int32} : riF ta n p 100 V be dn = rdF ta n p V be dn := rfl
theorem riF_o {ta : Nat → Nat} {n p a : Nat} {V : WT} {be : Nat → Int32} {dn : Int32} (h1 : ¬ a = 98) (h2 : ¬ a = 102) (h3 : ¬ a = 99) (h4 : ¬ a = 100) : riF ta n p a V be dn = (false, V, be, dn, p) := by
  unfold riF
  rw [if_neg h1, if_neg h2, if_neg h3, if_neg h4]

set_option maxRecDepth 20000 in
theorem t_X9_item_b (l : Launch) (z : Nat × Nat × Nat) (hz : z.2.1 ≤ 0 ∧ z.2.2 ≤ 0) (Q : Option Value → List va_E → Prop) (e : MR) (to s : Nat → Int32) (V : WT) (hV : okV V) (be : Nat → Int32) (dn : Int32) (ta : Nat → Nat) (n : Nat) (hT : TX e ta n) (p : Nat) (hp : p ≤ 300) (hQ : Q (some (.int (bI (riF ta n p 98 V be dn).1))) (mw (sRd e (tk (riF ta n p 98 V be dn).2.1) (riF ta n p 98 V be dn).2.2.1 (riF ta n p 98 V be dn).2.2.2.1 (nI (riF ta n p 98 V be dn).2.2.2.2)) to s)) (x : Int32) (o2 : Option Value) : G l M_X9_readsItem z Q 36 [some (.ref 0), some (.int x), o2] [] (mw (sRd e (tk V) be dn (nI p)) to s) := by
  have hV1 := hV.1
  have hV2 := hV.2.1
  have hV3 := hV.2.2
  have hT1 := hT.1
  have hT2 := hT.2.1
  refine g_aload_n (n := 37) dX9_readsItem_36 rfl rfl ?_
  refine g_callWi (n := 40) cv_X9_74 (t_X9_readsBay l e to s V hV be dn ta n hT p hp) dX9_readsItem_37 rfl ⟨by decide, by decide, rfl, rfl, hz.1, hz.2⟩ rfl rfl rfl (Nat.le_of_ble_eq_true rfl) rfl rfl ?_
  exact g_iret (ty := .boolean) dX9_readsItem_40 rfl (by first | exact bI_nar _ | decide) hz hQ
set_option maxRecDepth 20000 in
theorem t_X9_item_f (l : Launch) (z : Nat × Nat × Nat) (hz : z.2.1 ≤ 0 ∧ z.2.2 ≤ 0) (Q : Option Value → List va_E → Prop) (e : MR) (to s : Nat → Int32) (V : WT) (hV : okV V) (be : Nat → Int32) (dn : Int32) (ta : Nat → Nat) (n : Nat) (hT : TX e ta n) (p : Nat) (hp : p ≤ 300) (hQ : Q (some (.int (bI (riF ta n p 102 V be dn).1))) (mw (sRd e (tk (riF ta n p 102 V be dn).2.1) (riF ta n p 102 V be dn).2.2.1 (riF ta n p 102 V be dn).2.2.2.1 (nI (riF ta n p 102 V be dn).2.2.2.2)) to s)) (x : Int32) (o2 : Option Value) : G l M_X9_readsItem z Q 41 [some (.ref 0), some (.int x), o2] [] (mw (sRd e (tk V) be dn (nI p)) to s) := by
  have hV1 := hV.1
  have hV2 := hV.2.1
  have hV3 := hV.2.2
  have hT1 := hT.1
  have hT2 := hT.2.1
  refine g_aload_n (n := 42) dX9_readsItem_41 rfl rfl ?_
  refine g_callWi (n := 45) cv_X9_78 (t_X9_readsButtress l e to s V hV be dn ta n hT p hp) dX9_readsItem_42 rfl ⟨by decide, by decide, rfl, rfl, hz.1, hz.2⟩ rfl rfl rfl (Nat.le_of_ble_eq_true rfl) rfl rfl ?_
  exact g_iret (ty := .boolean) dX9_readsItem_45 rfl (by first | exact bI_nar _ | decide) hz hQ
set_option maxRecDepth 20000 in
theorem t_X9_item_c (l : Launch) (z : Nat × Nat × Nat) (hz : z.2.1 ≤ 0 ∧ z.2.2 ≤ 0) (Q : Option Value → List va_E → Prop) (e : MR) (to s : Nat → Int32) (V : WT) (hV : okV V) (be : Nat → Int32) (dn : Int32) (ta : Nat → Nat) (n : Nat) (hT : TX e ta n) (p : Nat) (hp : p ≤ 300) (hQ : Q (some (.int (bI (riF ta n p 99 V be dn).1))) (mw (sRd e (tk (riF ta n p 99 V be dn).2.1) (riF ta n p 99 V be dn).2.2.1 (riF ta n p 99 V be dn).2.2.2.1 (nI (riF ta n p 99 V be dn).2.2.2.2)) to s)) (x : Int32) (o2 : Option Value) : G l M_X9_readsItem z Q 46 [some (.ref 0), some (.int x), o2] [] (mw (sRd e (tk V) be dn (nI p)) to s) := by
  have hV1 := hV.1
  have hV2 := hV.2.1
  have hV3 := hV.2.2
  have hT1 := hT.1
  have hT2 := hT.2.1
  refine g_aload_n (n := 47) dX9_readsItem_46 rfl rfl ?_
  refine g_iconst (v := nI 0) (n := 48) dX9_readsItem_47 (by decide) rfl ?_
  refine g_iconst (v := nI 1) (n := 49) dX9_readsItem_48 (by decide) rfl ?_
  refine g_bipush (v := nI 59) (n := 51) dX9_readsItem_49 (by decide) rfl ?_
  refine g_callWi (n := 54) cv_X9_70 (t_X9_number l e to s (tk V) be dn ta n hT (nI 0) (nI 1) 59 (by decide) p (by omega)) dX9_readsItem_51 rfl ⟨by decide, by decide, rfl, rfl, hz.1, hz.2⟩ rfl rfl rfl (Nat.le_of_ble_eq_true rfl) rfl rfl ?_
  refine g_istore_n (n := 55) dX9_readsItem_54 (by decide) rfl rfl ?_
  refine g_lsN (ls' := [_, _, _]) rfl ?_
  refine g_iload_n (n := 56) dX9_readsItem_55 rfl rfl ?_
  refine g_if_lt (tgt := 70) (n := 59) dX9_readsItem_56 (by decide) rfl (fun c56 => ?_) (fun c56 => ?_)
  ·
    rw [riF_c, show rcF ta n p V be dn = (false, V, be, dn, (nuA ta n p (nI 0) (nI 1) 59).2) by unfold rcF; rw [decide_eq_true c56]; rfl] at hQ
    refine g_iconst (v := nI 0) (n := 71) dX9_readsItem_70 (by decide) rfl ?_
    exact g_iret (ty := .boolean) dX9_readsItem_71 rfl (by first | exact bI_nar _ | decide) hz hQ
  ·
    have a1 := decide_eq_false c56
    refine g_aload_n (n := 60) dX9_readsItem_59 rfl rfl ?_
    refine g_get (n := 63) fl_X9_16 dX9_readsItem_60 rfl rfl rfl ?_
    refine g_iconst (v := nI 2) (n := 64) dX9_readsItem_63 (by decide) rfl ?_
    refine g_ialdN (n := 65) dX9_readsItem_64 rfl rfl (by decide) (by omega) ?_
    refine g_top (tk_2 _) ?_
    refine g_bipush (v := nI 12) (n := 67) dX9_readsItem_65 (by decide) rfl ?_
    refine g_icmp_ne (tgt := 72) (n := 70) dX9_readsItem_67 (by decide) rfl (fun c67 => ?_) (fun c67 => ?_)
    ·
      have h12 : vnc V < 12 := by
        rcases Nat.lt_or_ge (vnc V) 12 with q | q
        · exact q
        · exact absurd (show nI (vnc V) = nI 12 by rw [show vnc V = 12 by omega]) c67
      rw [riF_c, show rcF ta n p V be dn = (true, vC V (nuA ta n p (nI 0) (nI 1) 59).1, be, dn, (nuA ta n p (nI 0) (nI 1) 59).2) by unfold rcF; rw [a1, decide_eq_false (show ¬ vnc V = 12 by omega)]; rfl] at hQ
      refine g_aload_n (n := 73) dX9_readsItem_72 rfl rfl ?_
      refine g_get (n := 76) fl_X9_16 dX9_readsItem_73 rfl rfl rfl ?_
      refine g_iconst (v := nI 3) (n := 77) dX9_readsItem_76 (by decide) rfl ?_
      refine g_dup2 (n := 78) dX9_readsItem_77 rfl rfl rfl ?_
      refine g_ialdN (n := 79) dX9_readsItem_78 rfl rfl (by decide) (by omega) ?_
      refine g_top (tk_3 _) ?_
      refine g_iload_n (n := 80) dX9_readsItem_79 rfl rfl ?_
      refine g_aload_n (n := 81) dX9_readsItem_80 rfl rfl ?_
      refine g_get (n := 84) fl_X9_16 dX9_readsItem_81 rfl rfl rfl ?_
      refine g_iconst (v := nI 2) (n := 85) dX9_readsItem_84 (by decide) rfl ?_
      refine g_ialdN (n := 86) dX9_readsItem_85 rfl rfl (by decide) (by omega) ?_
      refine g_top (tk_2 _) ?_
      refine g_ishl (n := 87) dX9_readsItem_86 rfl ?_
      refine g_ior (n := 88) dX9_readsItem_87 rfl ?_
      refine g_iastN (n := 89) dX9_readsItem_88 rfl rfl (by decide) (by omega) ?_
      refine g_wN (w' := [_, _, _, _, _, _, _, _, _]) rfl ?_
      rw [tk_uca]
      refine g_aload_n (n := 90) dX9_readsItem_89 rfl rfl ?_
      refine g_get (n := 93) fl_X9_16 dX9_readsItem_90 rfl rfl rfl ?_
      refine g_iconst (v := nI 2) (n := 94) dX9_readsItem_93 (by decide) rfl ?_
      refine g_dup2 (n := 95) dX9_readsItem_94 rfl rfl rfl ?_
      refine g_ialdN (n := 96) dX9_readsItem_95 rfl rfl (by decide) (by omega) ?_
      refine g_top (y := nI (vnc V)) rfl ?_
      refine g_iconst (v := nI 1) (n := 97) dX9_readsItem_96 (by decide) rfl ?_
      refine g_iaddN (n := 98) dX9_readsItem_97 rfl ?_
      refine g_iastN (n := 99) dX9_readsItem_98 rfl rfl (by decide) (by omega) ?_
      refine g_wN (w' := [_, _, _, _, _, _, _, _, _]) rfl ?_
      rw [tk_nc]
      refine g_iconst (v := nI 1) (n := 100) dX9_readsItem_99 (by decide) rfl ?_
      exact g_iret (ty := .boolean) dX9_readsItem_100 rfl (by first | exact bI_nar _ | decide) hz hQ
    ·
      have h12 : vnc V = 12 := (nI_eq (by omega) (by decide)).mp c67
      rw [riF_c, show rcF ta n p V be dn = (false, V, be, dn, (nuA ta n p (nI 0) (nI 1) 59).2) by unfold rcF; rw [a1, decide_eq_true h12]; rfl] at hQ
      refine g_iconst (v := nI 0) (n := 71) dX9_readsItem_70 (by decide) rfl ?_
      exact g_iret (ty := .boolean) dX9_readsItem_71 rfl (by first | exact bI_nar _ | decide) hz hQ
set_option maxRecDepth 20000 in
theorem t_X9_item_d (l : Launch) (z : Nat × Nat × Nat) (hz : z.2.1 ≤ 0 ∧ z.2.2 ≤ 0) (Q : Option Value → List va_E → Prop) (e : MR) (to s : Nat → Int32) (V : WT) (hV : okV V) (be : Nat → Int32) (dn : Int32) (ta : Nat → Nat) (n : Nat) (hT : TX e ta n) (p : Nat) (hp : p ≤ 300) (hQ : Q (some (.int (bI (riF ta n p 100 V be dn).1))) (mw (sRd e (tk (riF ta n p 100 V be dn).2.1) (riF ta n p 100 V be dn).2.2.1 (riF ta n p 100 V be dn).2.2.2.1 (nI (riF ta n p 100 V be dn).2.2.2.2)) to s)) (x : Int32) (o2 : Option Value) : G l M_X9_readsItem z Q 101 [some (.ref 0), some (.int x), o2] [] (mw (sRd e (tk V) be dn (nI p)) to s) := by
  have hV1 := hV.1
  have hV2 := hV.2.1
  have hV3 := hV.2.2
  have hT1 := hT.1
  have hT2 := hT.2.1
  refine g_aload_n (n := 102) dX9_readsItem_101 rfl rfl ?_
  refine g_iconst (v := nI 0) (n := 103) dX9_readsItem_102 (by decide) rfl ?_
  refine g_aload_n (n := 104) dX9_readsItem_103 rfl rfl ?_
  refine g_get (n := 107) fl_X9_16 dX9_readsItem_104 rfl rfl rfl ?_
  refine g_iconst (v := nI 1) (n := 108) dX9_readsItem_107 (by decide) rfl ?_
  refine g_ialdN (n := 109) dX9_readsItem_108 rfl rfl (by decide) (by omega) ?_
  refine g_top (tk_1 _) ?_
  refine g_iconst (v := nI 1) (n := 110) dX9_readsItem_109 (by decide) rfl ?_
  refine g_isub (n := 111) dX9_readsItem_110 rfl ?_
  refine g_bipush (v := nI 59) (n := 113) dX9_readsItem_111 (by decide) rfl ?_
  refine g_callWi (n := 116) cv_X9_70 (t_X9_number l e to s (tk V) be dn ta n hT (nI 0) (nI (vnf V) - nI 1) 59 (by decide) p (by omega)) dX9_readsItem_113 rfl ⟨by decide, by decide, rfl, rfl, hz.1, hz.2⟩ rfl rfl rfl (Nat.le_of_ble_eq_true rfl) rfl rfl ?_
  refine g_istore_n (n := 117) dX9_readsItem_116 (by decide) rfl rfl ?_
  refine g_lsN (ls' := [_, _, _]) rfl ?_
  refine g_aload_n (n := 118) dX9_readsItem_117 rfl rfl ?_
  refine g_dup (n := 119) dX9_readsItem_118 rfl rfl ?_
  refine g_get (n := 122) fl_X9_45 dX9_readsItem_119 rfl rfl rfl ?_
  refine g_iload_n (n := 123) dX9_readsItem_122 rfl rfl ?_
  refine g_if_ge (tgt := 130) (n := 126) dX9_readsItem_123 (by decide) rfl (fun c123 => ?_) (fun c123 => ?_)
  ·
    rw [riF_d, show rdF ta n p V be dn = (true, V, be, dn ||| nI 1 <<< ((nuA ta n p (nI 0) (nI (vnf V) - nI 1) 59).1 &&& 31), (nuA ta n p (nI 0) (nI (vnf V) - nI 1) 59).2) by unfold rdF; rw [if_pos c123]] at hQ
    refine g_iconst (v := nI 1) (n := 131) dX9_readsItem_130 (by decide) rfl ?_
    refine g_iload_n (n := 132) dX9_readsItem_131 rfl rfl ?_
    refine g_ishl (n := 133) dX9_readsItem_132 rfl ?_
    refine g_ior (n := 134) dX9_readsItem_133 rfl ?_
    refine g_put (n := 137) pf_X9_45 dX9_readsItem_134 rfl (Nat.le_of_ble_eq_true rfl) (fun _ => rfl) (fun _ => rfl) rfl ?_
    refine g_wN (w' := [_, _, _, _, _, _, _, _, _]) rfl ?_
    refine g_iload_n (n := 138) dX9_readsItem_137 rfl rfl ?_
    refine g_if_lt (tgt := 145) (n := 141) dX9_readsItem_138 (by decide) rfl (fun c138 => absurd c138 (ge_of c123)) (fun c138 => ?_)
    refine g_iconst (v := nI 1) (n := 142) dX9_readsItem_141 (by decide) rfl ?_
    refine g_goto (tgt := 146) dX9_readsItem_142 (by decide) ?_
    exact g_iret (ty := .boolean) dX9_readsItem_146 rfl (by first | exact bI_nar _ | decide) hz hQ
  ·
    rw [riF_d, show rdF ta n p V be dn = (false, V, be, dn ||| nI 0, (nuA ta n p (nI 0) (nI (vnf V) - nI 1) 59).2) by unfold rdF; rw [if_neg c123]] at hQ
    refine g_iconst (v := nI 0) (n := 127) dX9_readsItem_126 (by decide) rfl ?_
    refine g_goto (tgt := 133) dX9_readsItem_127 (by decide) ?_
    refine g_ior (n := 134) dX9_readsItem_133 rfl ?_
    refine g_put (n := 137) pf_X9_45 dX9_readsItem_134 rfl (Nat.le_of_ble_eq_true rfl) (fun _ => rfl) (fun _ => rfl) rfl ?_
    refine g_wN (w' := [_, _, _, _, _, _, _, _, _]) rfl ?_
    refine g_iload_n (n := 138) dX9_readsItem_137 rfl rfl ?_
    refine g_if_lt (tgt := 145) (n := 141) dX9_readsItem_138 (by decide) rfl (fun c138 => ?_) (fun c138 => absurd (lt_of c123) c138)
    refine g_iconst (v := nI 0) (n := 146) dX9_readsItem_145 (by decide) rfl ?_
    exact g_iret (ty := .boolean) dX9_readsItem_146 rfl (by first | exact bI_nar _ | decide) hz hQ
set_option maxRecDepth 20000 in
theorem t_X9_readsItem (l : Launch) (e : MR) (to s : Nat → Int32) (V : WT) (hV : okV V) (be : Nat → Int32) (dn : Int32) (ta : Nat → Nat) (n : Nat) (hT : TX e ta n) (p : Nat) (hp : p ≤ 300) (a : Nat) (ha : a < 1000) : Fn l M_X9_readsItem [.ref 0, .int (nI a)] (mw (sRd e (tk V) be dn (nI p)) to s) (some (.int (bI (riF ta n p a V be dn).1))) (mw (sRd e (tk (riF ta n p a V be dn).2.1) (riF ta n p a V be dn).2.2.1 (riF ta n p a V be dn).2.2.2.1 (nI (riF ta n p a V be dn).2.2.2.2)) to s) := by
  refine con_of rfl rfl (Nat.le_of_ble_eq_true rfl) ?_
  refine g_lsN (ls' := [_, _, _]) rfl ?_
  have e0 : ∀ k : Nat, k < 1000 → nI a = nI k → a = k := fun k hk q => (nI_eq (by omega) (by omega)).mp q
  refine g_iload_n (n := 1) dX9_readsItem_0 rfl rfl ?_
  rcases sw (nI a) 98 102 (by decide) with hsw | ⟨k, hk, hsw⟩
  · have n1 : ¬ a = 98 := fun q => sw_ne (k := 98) hsw (by decide) (by decide) (by rw [q])
    have n2 : ¬ a = 102 := fun q => sw_ne (k := 102) hsw (by decide) (by decide) (by rw [q])
    have n3 : ¬ a = 99 := fun q => sw_ne (k := 99) hsw (by decide) (by decide) (by rw [q])
    have n4 : ¬ a = 100 := fun q => sw_ne (k := 100) hsw (by decide) (by decide) (by rw [q])
    refine g_tableOut (tgt := 147) dX9_readsItem_1 hsw (by decide) ?_
    have e9 := riF_o (ta := ta) (n := n) (p := p) (V := V) (be := be) (dn := dn) n1 n2 n3 n4
    refine g_iconst (v := nI 0) (n := 148) dX9_readsItem_147 (by decide) rfl ?_
    exact g_iret (ty := .boolean) dX9_readsItem_148 rfl (by decide) ⟨Nat.zero_le _, Nat.zero_le _⟩ ⟨okF (by rw [e9]), by rw [e9] <;> rfl⟩
  · have hak := e0 k (by omega) hsw
    subst hak
    rcases (show a = 98 ∨ a = 99 ∨ a = 100 ∨ a = 101 ∨ a = 102 by omega) with rfl | rfl | rfl | rfl | rfl
    · refine g_tableIn (tgt := 36) dX9_readsItem_1 (by decide) (by decide) rfl (by decide) ?_
      exact t_X9_item_b l _ ⟨Nat.zero_le _, Nat.zero_le _⟩ _ e to s V hV be dn ta n hT p hp ⟨rfl, rfl⟩ _ _
    · refine g_tableIn (tgt := 46) dX9_readsItem_1 (by decide) (by decide) rfl (by decide) ?_
      exact t_X9_item_c l _ ⟨Nat.zero_le _, Nat.zero_le _⟩ _ e to s V hV be dn ta n hT p hp ⟨rfl, rfl⟩ _ _
    · refine g_tableIn (tgt := 101) dX9_readsItem_1 (by decide) (by decide) rfl (by decide) ?_
      exact t_X9_item_d l _ ⟨Nat.zero_le _, Nat.zero_le _⟩ _ e to s V hV be dn ta n hT p hp ⟨rfl, rfl⟩ _ _
    · refine g_tableIn (tgt := 147) dX9_readsItem_1 (by decide) (by decide) rfl (by decide) ?_
      refine g_iconst (v := nI 0) (n := 148) dX9_readsItem_147 (by decide) rfl ?_
      exact g_iret (ty := .boolean) dX9_readsItem_148 rfl (by decide) ⟨Nat.zero_le _, Nat.zero_le _⟩ ⟨rfl, rfl⟩
    · refine g_tableIn (tgt := 41) dX9_readsItem_1 (by decide) (by decide) rfl (by decide) ?_
      exact t_X9_item_f l _ ⟨Nat.zero_le _, Nat.zero_le _⟩ _ e to s V hV be dn ta n hT p hp ⟨rfl, rfl⟩ _ _

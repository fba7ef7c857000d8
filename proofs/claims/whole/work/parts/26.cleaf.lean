/-! 26.cleaf: the class: walls, states: their cells, their leaves -/
/-- a wall's own cell; its rows stand at k + 1 .. k + 6 -/
abbrev wo (V : WT) (dn : Int32) (k : Nat) : va_E := .inr (7, [.int (nI (vnb V)), .int (nI (vnf V)), .int (nI (vnc V)), .int (vca V), .int dn, .ref (k + 1), .ref (k + 2), .ref (k + 3), .ref (k + 4), .ref (k + 5), .ref (k + 6)])
/-- a state's own cell; its rows stand at k + 1 .. k + 3 -/
abbrev so (S : ST) (k : Nat) : va_E := .inr (3, [.int (sho S), .int (sup S), .int (sfa S), .ref (k + 1), .ref (k + 2), .ref (k + 3)])
abbrev a6 (f : Nat → Int32) : va_E := .inl (0, 6, .inl f)
abbrev a8 (f : Nat → Int32) : va_E := .inl (0, 8, .inl f)
/-- wall and state -/
abbrev ws (V : WT) (dn : Int32) (fb : Nat → Int32) (S : ST) : List va_E := [wo V dn 0, a8 (vth V), a8 (vpa V), a6 (vki V), a6 (vsg V), a6 fb, a6 (vkn V), so S 7, a6 (sbo S), a6 (sti S), a8 (sun S)]
theorem isB_f1 {nb : Nat} {x : Int32} (h : x < 0) : isB nb x = false := by
  unfold isB inB
  rw [decide_eq_false (show ¬ nI 0 ≤ x from Int32.not_le.mpr h), Bool.false_and]
theorem isB_f2 {nb : Nat} {x : Int32} (hn : nb ≤ 64) (h : nI nb ≤ x) : isB nb x = false := by
  unfold isB inB
  have : ¬ x ≤ nI nb - nI 1 := by
    rw [Int32.le_iff_toInt_le] at h ⊢
    rw [pk_sub_toInt (by omega) (by omega)]
    rw [nI_toInt (by omega)] at h
    omega
  rw [decide_eq_false this, Bool.and_false]
theorem isB_tt {nb : Nat} {x : Int32} (hn : nb ≤ 64) (h0 : ¬ x < 0) (h : ¬ nI nb ≤ x) : isB nb x = true := by
  unfold isB inB
  have h1 : x ≤ nI nb - nI 1 := by
    rw [Int32.le_iff_toInt_le] at h ⊢
    rw [pk_sub_toInt (by omega) (by omega)]
    rw [nI_toInt (by omega)] at h
    omega
  rw [decide_eq_true (show nI 0 ≤ x from Int32.not_lt.mp h0), decide_eq_true h1]; rfl

set_option maxRecDepth 20000 in
theorem t_X8_hasBit (l : Launch) (x k : Int32) : Fn l M_X8_hasBit [.int x, .int k] [] (some (.int (bI (hb x k)))) [] := by
  refine con_of rfl rfl (Nat.le_of_ble_eq_true rfl) ?_
  refine g_lsN (ls' := [_, _]) rfl ?_
  refine g_iload_n (n := 1) dX8_hasBit_0 rfl rfl ?_
  refine g_iload_n (n := 2) dX8_hasBit_1 rfl rfl ?_
  refine g_ishr (n := 3) dX8_hasBit_2 rfl ?_
  refine g_iconst (v := nI 1) (n := 4) dX8_hasBit_3 (by decide) rfl ?_
  refine g_iand (n := 5) dX8_hasBit_4 rfl ?_
  refine g_iconst (v := nI 1) (n := 6) dX8_hasBit_5 (by decide) rfl ?_
  refine g_icmp_ne (tgt := 13) (n := 9) dX8_hasBit_6 (by decide) rfl (fun c6 => ?_) (fun c6 => ?_)
  ·
    have hF : hb x k = false := decide_eq_false c6
    refine g_iconst (v := nI 0) (n := 14) dX8_hasBit_13 (by decide) rfl ?_
    exact g_iret (ty := .boolean) dX8_hasBit_14 rfl (by first | exact bI_nar _ | decide) ⟨Nat.zero_le _, Nat.zero_le _⟩ ⟨by first | exact okT hT | exact okF hF, rfl⟩
  ·
    have hT : hb x k = true := decide_eq_true c6
    refine g_iconst (v := nI 1) (n := 10) dX8_hasBit_9 (by decide) rfl ?_
    refine g_goto (tgt := 14) dX8_hasBit_10 (by decide) ?_
    exact g_iret (ty := .boolean) dX8_hasBit_14 rfl (by first | exact bI_nar _ | decide) ⟨Nat.zero_le _, Nat.zero_le _⟩ ⟨by first | exact okT hT | exact okF hF, rfl⟩
set_option maxRecDepth 20000 in
theorem t_X3_isUp (l : Launch) (S : ST) (k : Int32) : Fn l M_X3_isUp [.ref 0, .int k] ([so S 0]) (some (.int (bI (hb (sup S) k)))) ([so S 0]) := by
  refine con_of rfl rfl (Nat.le_of_ble_eq_true rfl) ?_
  refine g_lsN (ls' := [_, _]) rfl ?_
  refine g_aload_n (n := 1) dX3_isUp_0 rfl rfl ?_
  refine g_get (n := 4) fl_X3_34 dX3_isUp_1 rfl rfl rfl ?_
  refine g_iload_n (n := 5) dX3_isUp_4 rfl rfl ?_
  refine g_ishr (n := 6) dX3_isUp_5 rfl ?_
  refine g_iconst (v := nI 1) (n := 7) dX3_isUp_6 (by decide) rfl ?_
  refine g_iand (n := 8) dX3_isUp_7 rfl ?_
  refine g_iconst (v := nI 1) (n := 9) dX3_isUp_8 (by decide) rfl ?_
  refine g_icmp_ne (tgt := 16) (n := 12) dX3_isUp_9 (by decide) rfl (fun c9 => ?_) (fun c9 => ?_)
  ·
    have hF : hb (sup S) k = false := decide_eq_false c9
    refine g_iconst (v := nI 0) (n := 17) dX3_isUp_16 (by decide) rfl ?_
    exact g_iret (ty := .boolean) dX3_isUp_17 rfl (by first | exact bI_nar _ | decide) ⟨Nat.zero_le _, Nat.zero_le _⟩ ⟨by first | exact okT hT | exact okF hF, rfl⟩
  ·
    have hT : hb (sup S) k = true := decide_eq_true c9
    refine g_iconst (v := nI 1) (n := 13) dX3_isUp_12 (by decide) rfl ?_
    refine g_goto (tgt := 17) dX3_isUp_13 (by decide) ?_
    exact g_iret (ty := .boolean) dX3_isUp_17 rfl (by first | exact bI_nar _ | decide) ⟨Nat.zero_le _, Nat.zero_le _⟩ ⟨by first | exact okT hT | exact okF hF, rfl⟩
set_option maxRecDepth 20000 in
theorem t_X3_hasFallen (l : Launch) (S : ST) (k : Int32) : Fn l M_X3_hasFallen [.ref 0, .int k] ([so S 0]) (some (.int (bI (hb (sfa S) k)))) ([so S 0]) := by
  refine con_of rfl rfl (Nat.le_of_ble_eq_true rfl) ?_
  refine g_lsN (ls' := [_, _]) rfl ?_
  refine g_aload_n (n := 1) dX3_hasFallen_0 rfl rfl ?_
  refine g_get (n := 4) fl_X3_37 dX3_hasFallen_1 rfl rfl rfl ?_
  refine g_iload_n (n := 5) dX3_hasFallen_4 rfl rfl ?_
  refine g_ishr (n := 6) dX3_hasFallen_5 rfl ?_
  refine g_iconst (v := nI 1) (n := 7) dX3_hasFallen_6 (by decide) rfl ?_
  refine g_iand (n := 8) dX3_hasFallen_7 rfl ?_
  refine g_iconst (v := nI 1) (n := 9) dX3_hasFallen_8 (by decide) rfl ?_
  refine g_icmp_ne (tgt := 16) (n := 12) dX3_hasFallen_9 (by decide) rfl (fun c9 => ?_) (fun c9 => ?_)
  ·
    have hF : hb (sfa S) k = false := decide_eq_false c9
    refine g_iconst (v := nI 0) (n := 17) dX3_hasFallen_16 (by decide) rfl ?_
    exact g_iret (ty := .boolean) dX3_hasFallen_17 rfl (by first | exact bI_nar _ | decide) ⟨Nat.zero_le _, Nat.zero_le _⟩ ⟨by first | exact okT hT | exact okF hF, rfl⟩
  ·
    have hT : hb (sfa S) k = true := decide_eq_true c9
    refine g_iconst (v := nI 1) (n := 13) dX3_hasFallen_12 (by decide) rfl ?_
    refine g_goto (tgt := 17) dX3_hasFallen_13 (by decide) ?_
    exact g_iret (ty := .boolean) dX3_hasFallen_17 rfl (by first | exact bI_nar _ | decide) ⟨Nat.zero_le _, Nat.zero_le _⟩ ⟨by first | exact okT hT | exact okF hF, rfl⟩
set_option maxRecDepth 20000 in
theorem t_X3_comeDown (l : Launch) (S : ST) (f : Nat) : Fn l M_X3_comeDown [.ref 0, .int (nI f)] ([so S 0]) none ([so (sUp S (sup S &&& ((nI 1 <<< (nI f &&& 31)) ^^^ (-1)))) 0]) := by
  refine con_of rfl rfl (Nat.le_of_ble_eq_true rfl) ?_
  refine g_lsN (ls' := [_, _]) rfl ?_
  refine g_aload_n (n := 1) dX3_comeDown_0 rfl rfl ?_
  refine g_dup (n := 2) dX3_comeDown_1 rfl rfl ?_
  refine g_get (n := 5) fl_X3_34 dX3_comeDown_2 rfl rfl rfl ?_
  refine g_iconst (v := nI 1) (n := 6) dX3_comeDown_5 (by decide) rfl ?_
  refine g_iload_n (n := 7) dX3_comeDown_6 rfl rfl ?_
  refine g_ishl (n := 8) dX3_comeDown_7 rfl ?_
  refine g_iconst (v := (-1)) (n := 9) dX3_comeDown_8 (by decide) rfl ?_
  refine g_ixor (n := 10) dX3_comeDown_9 rfl ?_
  refine g_iand (n := 11) dX3_comeDown_10 rfl ?_
  refine g_put (n := 14) pf_X3_34 dX3_comeDown_11 rfl (Nat.le_of_ble_eq_true rfl) (fun _ => rfl) (fun _ => rfl) rfl ?_
  refine g_wN (w' := [_]) rfl ?_
  exact g_vret dX3_comeDown_14 rfl ⟨Nat.zero_le _, Nat.zero_le _⟩ ⟨rfl, rfl⟩
set_option maxRecDepth 20000 in
theorem t_X3_goUp (l : Launch) (S : ST) (f : Nat) : Fn l M_X3_goUp [.ref 0, .int (nI f)] ([so S 0]) none ([so (sUp S (sup S ||| nI 1 <<< (nI f &&& 31))) 0]) := by
  refine con_of rfl rfl (Nat.le_of_ble_eq_true rfl) ?_
  refine g_lsN (ls' := [_, _]) rfl ?_
  refine g_aload_n (n := 1) dX3_goUp_0 rfl rfl ?_
  refine g_dup (n := 2) dX3_goUp_1 rfl rfl ?_
  refine g_get (n := 5) fl_X3_34 dX3_goUp_2 rfl rfl rfl ?_
  refine g_iconst (v := nI 1) (n := 6) dX3_goUp_5 (by decide) rfl ?_
  refine g_iload_n (n := 7) dX3_goUp_6 rfl rfl ?_
  refine g_ishl (n := 8) dX3_goUp_7 rfl ?_
  refine g_ior (n := 9) dX3_goUp_8 rfl ?_
  refine g_put (n := 12) pf_X3_34 dX3_goUp_9 rfl (Nat.le_of_ble_eq_true rfl) (fun _ => rfl) (fun _ => rfl) rfl ?_
  refine g_wN (w' := [_]) rfl ?_
  exact g_vret dX3_goUp_12 rfl ⟨Nat.zero_le _, Nat.zero_le _⟩ ⟨rfl, rfl⟩
set_option maxRecDepth 20000 in
theorem t_X7_hasBay (l : Launch) (V : WT) (hV : okV V) (dn : Int32) (x : Int32) : Fn l M_X7_hasBay [.ref 0, .int x] ([wo V dn 0]) (some (.int (bI (isB (vnb V) x)))) ([wo V dn 0]) := by
  have hV1 := hV.1
  have hV2 := hV.2.1
  have hV3 := hV.2.2
  refine con_of rfl rfl (Nat.le_of_ble_eq_true rfl) ?_
  refine g_lsN (ls' := [_, _]) rfl ?_
  refine g_iload_n (n := 1) dX7_hasBay_0 rfl rfl ?_
  refine g_if_lt (tgt := 22) (n := 4) dX7_hasBay_1 (by decide) rfl (fun c1 => ?_) (fun c1 => ?_)
  ·
    have hF : isB (vnb V) x = false := isB_f1 c1
    refine g_iconst (v := nI 0) (n := 23) dX7_hasBay_22 (by decide) rfl ?_
    exact g_iret (ty := .boolean) dX7_hasBay_23 rfl (by first | exact bI_nar _ | decide) ⟨Nat.zero_le _, Nat.zero_le _⟩ ⟨by first | exact okT hT | exact okF hF, rfl⟩
  ·
    refine g_iload_n (n := 5) dX7_hasBay_4 rfl rfl ?_
    refine g_aload_n (n := 6) dX7_hasBay_5 rfl rfl ?_
    refine g_get (n := 9) fl_X7_30 dX7_hasBay_6 rfl rfl rfl ?_
    refine g_icmp_ge (tgt := 22) (n := 12) dX7_hasBay_9 (by decide) rfl (fun c9 => ?_) (fun c9 => ?_)
    ·
      have hF : isB (vnb V) x = false := isB_f2 (by omega) c9
      refine g_iconst (v := nI 0) (n := 23) dX7_hasBay_22 (by decide) rfl ?_
      exact g_iret (ty := .boolean) dX7_hasBay_23 rfl (by first | exact bI_nar _ | decide) ⟨Nat.zero_le _, Nat.zero_le _⟩ ⟨by first | exact okT hT | exact okF hF, rfl⟩
    ·
      refine g_iload_n (n := 13) dX7_hasBay_12 rfl rfl ?_
      refine g_bipush (v := nI 8) (n := 15) dX7_hasBay_13 (by decide) rfl ?_
      refine g_icmp_ge (tgt := 22) (n := 18) dX7_hasBay_15 (by decide) rfl (fun c15 => ?_) (fun c15 => ?_)
      ·
        have hF : isB (vnb V) x = false := isB_f2 (by omega) (by rw [Int32.le_iff_toInt_le] at c15 ⊢; rw [nI_toInt (by omega)] at c15 ⊢; omega)
        refine g_iconst (v := nI 0) (n := 23) dX7_hasBay_22 (by decide) rfl ?_
        exact g_iret (ty := .boolean) dX7_hasBay_23 rfl (by first | exact bI_nar _ | decide) ⟨Nat.zero_le _, Nat.zero_le _⟩ ⟨by first | exact okT hT | exact okF hF, rfl⟩
      ·
        have hT : isB (vnb V) x = true := isB_tt (by omega) c1 c9
        refine g_iconst (v := nI 1) (n := 19) dX7_hasBay_18 (by decide) rfl ?_
        refine g_goto (tgt := 23) dX7_hasBay_19 (by decide) ?_
        exact g_iret (ty := .boolean) dX7_hasBay_23 rfl (by first | exact bI_nar _ | decide) ⟨Nat.zero_le _, Nat.zero_le _⟩ ⟨by first | exact okT hT | exact okF hF, rfl⟩
set_option maxRecDepth 20000 in
theorem t_X7_hasButtress (l : Launch) (V : WT) (hV : okV V) (dn : Int32) (x : Int32) : Fn l M_X7_hasButtress [.ref 0, .int x] ([wo V dn 0]) (some (.int (bI (isB (vnf V) x)))) ([wo V dn 0]) := by
  have hV1 := hV.1
  have hV2 := hV.2.1
  have hV3 := hV.2.2
  refine con_of rfl rfl (Nat.le_of_ble_eq_true rfl) ?_
  refine g_lsN (ls' := [_, _]) rfl ?_
  refine g_iload_n (n := 1) dX7_hasButtress_0 rfl rfl ?_
  refine g_if_lt (tgt := 22) (n := 4) dX7_hasButtress_1 (by decide) rfl (fun c1 => ?_) (fun c1 => ?_)
  ·
    have hF : isB (vnf V) x = false := isB_f1 c1
    refine g_iconst (v := nI 0) (n := 23) dX7_hasButtress_22 (by decide) rfl ?_
    exact g_iret (ty := .boolean) dX7_hasButtress_23 rfl (by first | exact bI_nar _ | decide) ⟨Nat.zero_le _, Nat.zero_le _⟩ ⟨by first | exact okT hT | exact okF hF, rfl⟩
  ·
    refine g_iload_n (n := 5) dX7_hasButtress_4 rfl rfl ?_
    refine g_aload_n (n := 6) dX7_hasButtress_5 rfl rfl ?_
    refine g_get (n := 9) fl_X7_34 dX7_hasButtress_6 rfl rfl rfl ?_
    refine g_icmp_ge (tgt := 22) (n := 12) dX7_hasButtress_9 (by decide) rfl (fun c9 => ?_) (fun c9 => ?_)
    ·
      have hF : isB (vnf V) x = false := isB_f2 (by omega) c9
      refine g_iconst (v := nI 0) (n := 23) dX7_hasButtress_22 (by decide) rfl ?_
      exact g_iret (ty := .boolean) dX7_hasButtress_23 rfl (by first | exact bI_nar _ | decide) ⟨Nat.zero_le _, Nat.zero_le _⟩ ⟨by first | exact okT hT | exact okF hF, rfl⟩
    ·
      refine g_iload_n (n := 13) dX7_hasButtress_12 rfl rfl ?_
      refine g_bipush (v := nI 6) (n := 15) dX7_hasButtress_13 (by decide) rfl ?_
      refine g_icmp_ge (tgt := 22) (n := 18) dX7_hasButtress_15 (by decide) rfl (fun c15 => ?_) (fun c15 => ?_)
      ·
        have hF : isB (vnf V) x = false := isB_f2 (by omega) (by rw [Int32.le_iff_toInt_le] at c15 ⊢; rw [nI_toInt (by omega)] at c15 ⊢; omega)
        refine g_iconst (v := nI 0) (n := 23) dX7_hasButtress_22 (by decide) rfl ?_
        exact g_iret (ty := .boolean) dX7_hasButtress_23 rfl (by first | exact bI_nar _ | decide) ⟨Nat.zero_le _, Nat.zero_le _⟩ ⟨by first | exact okT hT | exact okF hF, rfl⟩
      ·
        have hT : isB (vnf V) x = true := isB_tt (by omega) c1 c9
        refine g_iconst (v := nI 1) (n := 19) dX7_hasButtress_18 (by decide) rfl ?_
        refine g_goto (tgt := 23) dX7_hasButtress_19 (by decide) ?_
        exact g_iret (ty := .boolean) dX7_hasButtress_23 rfl (by first | exact bI_nar _ | decide) ⟨Nat.zero_le _, Nat.zero_le _⟩ ⟨by first | exact okT hT | exact okF hF, rfl⟩
set_option maxRecDepth 20000 in
theorem t_X7_allBays (l : Launch) (V : WT) (hV : okV V) (dn : Int32) : Fn l M_X7_allBays [.ref 0] ([wo V dn 0]) (some (.int (nI (2 ^ vnb V) - nI 1))) ([wo V dn 0]) := by
  have hV1 := hV.1
  have hV2 := hV.2.1
  have hV3 := hV.2.2
  refine con_of rfl rfl (Nat.le_of_ble_eq_true rfl) ?_
  refine g_lsN (ls' := [_]) rfl ?_
  refine g_iconst (v := nI 1) (n := 1) dX7_allBays_0 (by decide) rfl ?_
  refine g_aload_n (n := 2) dX7_allBays_1 rfl rfl ?_
  refine g_get (n := 5) fl_X7_30 dX7_allBays_2 rfl rfl rfl ?_
  refine g_ishl (n := 6) dX7_allBays_5 rfl ?_
  refine g_top (shl_pow (by omega)) ?_
  refine g_iconst (v := nI 1) (n := 7) dX7_allBays_6 (by decide) rfl ?_
  refine g_isub (n := 8) dX7_allBays_7 rfl ?_
  exact g_iret (ty := .int) dX7_allBays_8 rfl rfl ⟨Nat.zero_le _, Nat.zero_le _⟩ ⟨rfl, rfl⟩
set_option maxRecDepth 20000 in
theorem t_X7_allButtresses (l : Launch) (V : WT) (hV : okV V) (dn : Int32) : Fn l M_X7_allButtresses [.ref 0] ([wo V dn 0]) (some (.int (nI (2 ^ vnf V) - nI 1))) ([wo V dn 0]) := by
  have hV1 := hV.1
  have hV2 := hV.2.1
  have hV3 := hV.2.2
  refine con_of rfl rfl (Nat.le_of_ble_eq_true rfl) ?_
  refine g_lsN (ls' := [_]) rfl ?_
  refine g_iconst (v := nI 1) (n := 1) dX7_allButtresses_0 (by decide) rfl ?_
  refine g_aload_n (n := 2) dX7_allButtresses_1 rfl rfl ?_
  refine g_get (n := 5) fl_X7_34 dX7_allButtresses_2 rfl rfl rfl ?_
  refine g_ishl (n := 6) dX7_allButtresses_5 rfl ?_
  refine g_top (shl_pow (by omega)) ?_
  refine g_iconst (v := nI 1) (n := 7) dX7_allButtresses_6 (by decide) rfl ?_
  refine g_isub (n := 8) dX7_allButtresses_7 rfl ?_
  exact g_iret (ty := .int) dX7_allButtresses_8 rfl rfl ⟨Nat.zero_le _, Nat.zero_le _⟩ ⟨rfl, rfl⟩
theorem met_ofF {l : Launch} {y : MethodName} {ws ws' : List Cond} {rm : Room} {Pc : Array Value → State → Prop} {Qc : Array Value → State → Outcome → State → Prop} {mc ms : Nat} {free : Addr → Prop} {cc : ByteArray} {maxL : Nat} {ret : Option FieldType}
    (hy : plainFor y = true) (hw : ws = Cond.code y cc maxL ret :: ws')
    (body : ∀ p e s m args below meth c s₁, BodyLoose p l y (headSpec ws rm) cc maxL ret e s m args below meth c s₁ → c.maxLocals = maxL → Pc args s →
      W p l e (headSpec ws rm).room s m args below meth c s.heap [] 0 0 (MQ below Qc args s mc ms free) (entryFrame m args maxL)) : Met l y ws rm Pc Qc mc ms free := by
  refine MetFree.of_bodySF (code := cc) (maxLocals := maxL) (ret := ret) hy ?_ ?_
  · intro args s m h hn
    obtain ⟨meth, c, h1, h2, h3, h4, h5, h6, -, -⟩ := Cond.code_spec hn (atoms_spec (ws := ws) h _ (by rw [hw]; exact List.mem_cons_self))
    exact ⟨meth, c, h1, h2, h3, h4, h5, h6⟩
  · intro p e s m args below meth c s₁ B hml hP _
    have hh0 : s₁.heap = s.heap := by rw [B.state]; rfl
    obtain ⟨t, a1, o, b1, b2, b3⟩ := body p e s m args below meth c s₁ B hml hP s₁ hh0 (Stand.of_body B)
    exact ⟨t, o, a1, b1, b2, ⟨b3.1, b3.2⟩⟩
theorem con_ofF {l : Launch} {M : MC} {av : List Value} {w : List va_E} {Q : Option Value → List va_E → Prop} (hp : plainFor (mnm M) = true) (hcat : av.all (fun v => v.category == 1) = true) (hlen : av.length ≤ mlo M)
    (h : G l M (w.length, 0, 0) Q 0 (av.map some ++ List.replicate (mlo M - av.length) none) [] w) : Con l M av w Q := by
  intro D ct ad sz
  refine met_ofF (cc := mby M) (maxL := mlo M) (ret := mrt M) hp rfl ?_
  intro p e s m args below meth c s₁ B hml hv
  obtain ⟨rfl, hsz, hP, hK, hD0⟩ := hv
  subst hsz
  have hts := atoms_spec (ws := .code (mnm M) (mby M) (mlo M) (mrt M) :: big) B.pre
  have hc1 : ∀ v ∈ av.map (rv ad), v.category = 1 := by
    intro v hv
    obtain ⟨u, hu, rfl⟩ := List.mem_map.mp hv
    rw [rv_cat]
    exact eq_of_beq (List.all_eq_true.mp hcat u hu)
  have hl := lv_entry (av.map (rv ad)) (n := mlo M) (by rw [lg_sl_len _ hc1, List.length_map]; exact hlen)
  rw [lg_entry_eq]
  refine h p e s m _ below meth c D ct _ ad ad s.heap [] _ ⟨B.exec, B.bytes, B.returns, hml, findClass_of_methodNamed B.named, fun w hw => hts w (List.mem_cons_of_mem _ hw), B.notSynchronized, (name_of_methodNamed B.named B.method).1, hK⟩ (fun q h => Or.inr h) (fun _ _ => rfl) (fun _ => rfl) (Nat.le_refl _) hP hD0.self va_S.rf ⟨hl.1, hl.2.1, fun i v hi => ?_⟩
  have hi2 : av[i]? = some v := by
    by_cases hil : i < av.length
    · rw [List.getElem?_append_left (by simpa using hil), List.getElem?_map] at hi
      cases hx : av[i]? with
      | none => rw [hx] at hi; cases hi
      | some u => rw [hx] at hi; cases hi; rfl
    · rw [List.getElem?_append_right (by simpa using hil)] at hi
      have := List.mem_of_getElem? hi
      rw [List.mem_replicate] at this
      cases this.2
  have := lv_args_mem (av.map (rv ad)) 0 hc1 i (rv ad v) (by rw [List.getElem?_map, hi2]; rfl)
  rw [Nat.zero_add] at this
  exact hl.2.2 _ this
theorem xor_nn {a d : Nat} (ha : a < 2 ^ 31) (hd : d < 2 ^ 31) : 0 ≤ nI a ^^^ nI d := by
  have h1 : a ^^^ d < 2 ^ 31 := Nat.xor_lt_two_pow ha hd
  have e1 : nI a ^^^ nI d = nI (a ^^^ d) := by
    apply Int32.toBitVec_inj.1
    show BitVec.ofNat 32 a ^^^ BitVec.ofNat 32 d = BitVec.ofNat 32 (a ^^^ d)
    apply BitVec.eq_of_getLsbD_eq
    intro i hi
    simp [hi]
  rw [e1]
  exact nI_pos' h1
set_option maxRecDepth 20000 in
theorem t_J9_floorMod (l : Launch) (a d : Nat) (ha : a < 2 ^ 31) (h0 : 0 < d) (hd : d < 2 ^ 31) : Fn l M_J9_floorMod_7cf53 [.int (nI a), .int (nI d)] ([]) (some (.int (nI (a % d)))) ([]) := by
  have hm : a % d < 2 ^ 31 := Nat.lt_of_le_of_lt (Nat.mod_le _ _) ha
  refine con_ofF (by decide +kernel) rfl (Nat.le_of_ble_eq_true rfl) ?_
  refine g_lsN (ls' := [_, _, _]) rfl ?_
  refine g_iload_n (n := 1) dJ9_floorMod_7cf53_0 rfl rfl ?_
  refine g_iload_n (n := 2) dJ9_floorMod_7cf53_1 rfl rfl ?_
  refine g_irem (n := 3) dJ9_floorMod_7cf53_2 (nI_ne0 h0 hd) rfl ?_
  refine g_top (pk_rem ha h0 hd) ?_
  refine g_istore_n (n := 4) dJ9_floorMod_7cf53_3 (by decide) rfl rfl ?_
  refine g_lsN (ls' := [_, _, _]) rfl ?_
  refine g_iload_n (n := 5) dJ9_floorMod_7cf53_4 rfl rfl ?_
  refine g_iload_n (n := 6) dJ9_floorMod_7cf53_5 rfl rfl ?_
  refine g_ixor (n := 7) dJ9_floorMod_7cf53_6 rfl ?_
  refine g_if_ge (tgt := 18) (n := 10) dJ9_floorMod_7cf53_7 (by decide) rfl (fun c7 => ?_) (fun c7 => absurd (xor_nn ha hd) c7)
  refine g_iload_n (n := 19) dJ9_floorMod_7cf53_18 rfl rfl ?_
  exact g_iret (ty := .int) dJ9_floorMod_7cf53_19 rfl rfl ⟨Nat.zero_le _, Nat.zero_le _⟩ ⟨rfl, rfl⟩
set_option maxRecDepth 20000 in
theorem t_X7_hasCarts (l : Launch) (V : WT) (hV : okV V) (dn : Int32) (a : Nat) (ha : a < 2 ^ 31) : Fn l M_X7_hasCarts [.ref 0, .int (nI a)] ([wo V dn 0]) (some (.int (bI (caF V (nI a))))) ([wo V dn 0]) := by
  have hV1 := hV.1
  have hV2 := hV.2.1
  have hV3 := hV.2.2
  refine con_of rfl rfl (Nat.le_of_ble_eq_true rfl) ?_
  refine g_lsN (ls' := [_, _]) rfl ?_
  refine g_aload_n (n := 1) dX7_hasCarts_0 rfl rfl ?_
  refine g_get (n := 4) fl_X7_37 dX7_hasCarts_1 rfl rfl rfl ?_
  refine g_if_le (tgt := 29) (n := 7) dX7_hasCarts_4 (by decide) rfl (fun c4 => ?_) (fun c4 => ?_)
  ·
    have hF : caF V (nI a) = false := by unfold caF; rw [decide_eq_false (fun q => nI_nle q (by omega) c4)]; rfl
    refine g_iconst (v := nI 0) (n := 30) dX7_hasCarts_29 (by decide) rfl ?_
    exact g_iret (ty := .boolean) dX7_hasCarts_30 rfl (by first | exact bI_nar _ | decide) ⟨Nat.zero_le _, Nat.zero_le _⟩ ⟨by first | exact okT hT | exact okF hF, rfl⟩
  ·
    have hc : 0 < vnc V := by
      rcases Nat.eq_zero_or_pos (vnc V) with q | q
      · exact absurd (by rw [q]; decide) c4
      · exact q
    refine g_aload_n (n := 8) dX7_hasCarts_7 rfl rfl ?_
    refine g_get (n := 11) fl_X7_40 dX7_hasCarts_8 rfl rfl rfl ?_
    refine g_iload_n (n := 12) dX7_hasCarts_11 rfl rfl ?_
    refine g_aload_n (n := 13) dX7_hasCarts_12 rfl rfl ?_
    refine g_get (n := 16) fl_X7_37 dX7_hasCarts_13 rfl rfl rfl ?_
    refine g_callSi (n := 19) cs_X7_59 (t_J9_floorMod l _ _ ha hc (by omega)) dX7_hasCarts_16 rfl rfl ⟨by decide, by decide, rfl, rfl, Nat.zero_le _, Nat.zero_le _⟩ rfl (Nat.le_of_ble_eq_true rfl) rfl ?_
    refine g_callSNi (n := 22) cs_X7_65 (t_X8_hasBit l _ _) dX7_hasCarts_19 rfl rfl ⟨by decide, by decide, rfl, rfl, Nat.zero_le _, Nat.zero_le _⟩ rfl (Nat.le_of_ble_eq_true rfl) rfl ?_
    refine g_if_eq (tgt := 29) (n := 25) dX7_hasCarts_22 (by decide) rfl (fun c22 => ?_) (fun c22 => ?_)
    ·
      have hF : caF V (nI a) = false := by unfold caF; rw [pk_rem ha hc (by omega), bI_0.mp c22, Bool.and_false]
      refine g_iconst (v := nI 0) (n := 30) dX7_hasCarts_29 (by decide) rfl ?_
      exact g_iret (ty := .boolean) dX7_hasCarts_30 rfl (by first | exact bI_nar _ | decide) ⟨Nat.zero_le _, Nat.zero_le _⟩ ⟨by first | exact okT hT | exact okF hF, rfl⟩
    ·
      have hT : caF V (nI a) = true := by unfold caF; rw [pk_rem ha hc (by omega), bI_n0.mp c22, decide_eq_true hc]; rfl
      refine g_iconst (v := nI 1) (n := 26) dX7_hasCarts_25 (by decide) rfl ?_
      refine g_goto (tgt := 30) dX7_hasCarts_26 (by decide) ?_
      exact g_iret (ty := .boolean) dX7_hasCarts_30 rfl (by first | exact bI_nar _ | decide) ⟨Nat.zero_le _, Nat.zero_le _⟩ ⟨by first | exact okT hT | exact okF hF, rfl⟩
set_option maxRecDepth 20000 in
theorem t_X3_isScared (l : Launch) (V : WT) (hV : okV V) (dn : Int32) (fb : Nat → Int32) (S : ST) (f : Nat) (hf : f < vnf V) (a : Nat) (ha : a < 2 ^ 31) (hS : sho S = nI a) : Fn l M_X3_isScared [.ref 7, .ref 0, .int (nI f)] (ws V dn fb S) (some (.int (bI (baF V S f)))) (ws V dn fb S) := by
  have hV1 := hV.1
  have hV2 := hV.2.1
  have hV3 := hV.2.2
  refine con_of rfl rfl (Nat.le_of_ble_eq_true rfl) ?_
  refine g_lsN (ls' := [_, _, _]) rfl ?_
  refine g_aload_n (n := 1) dX3_isScared_0 rfl rfl ?_
  refine g_iload_n (n := 2) dX3_isScared_1 rfl rfl ?_
  refine g_cutVi (ps := [0, 1, 2, 3, 4, 5, 6]) (w' := [_, _, _, _, _, _, _, _, _, _, _]) (n := 5) cv_X3_49 (t_X7_hasButtress l V hV dn _) dX3_isScared_2 rfl rfl rfl ⟨by decide, by decide, rfl, rfl, Nat.zero_le _, Nat.zero_le _⟩ rfl rfl rfl (Nat.le_of_ble_eq_true rfl) rfl rfl rfl ?_
  refine g_if_eq (tgt := 33) (n := 8) dX3_isScared_5 (by decide) rfl (fun c5 => absurd c5 (bI_n0.mpr (show isB (vnf V) (nI f) = true by rw [isB_nI (by omega) (by omega)]; exact decide_eq_true hf))) (fun c5 => ?_)
  refine g_aload_n (n := 9) dX3_isScared_8 rfl rfl ?_
  refine g_get (n := 12) fl_X3_66 dX3_isScared_9 rfl rfl rfl ?_
  refine g_iload_n (n := 13) dX3_isScared_12 rfl rfl ?_
  refine g_ialdN (n := 14) dX3_isScared_13 rfl rfl (by decide) (by omega) ?_
  refine g_iconst (v := nI 3) (n := 15) dX3_isScared_14 (by decide) rfl ?_
  refine g_icmp_ne (tgt := 33) (n := 18) dX3_isScared_15 (by decide) rfl (fun c15 => ?_) (fun c15 => ?_)
  ·
    have hF : baF V S f = false := by unfold baF; rw [decide_eq_false c15]; rfl
    refine g_iconst (v := nI 0) (n := 34) dX3_isScared_33 (by decide) rfl ?_
    exact g_iret (ty := .boolean) dX3_isScared_34 rfl (by first | exact bI_nar _ | decide) ⟨Nat.zero_le _, Nat.zero_le _⟩ ⟨by first | exact okT hT | exact okF hF, rfl⟩
  ·
    have a1 := decide_eq_true c15
    refine g_aload_n (n := 19) dX3_isScared_18 rfl rfl ?_
    refine g_aload_n (n := 20) dX3_isScared_19 rfl rfl ?_
    refine g_get (n := 23) fl_X3_21 dX3_isScared_20 rfl rfl rfl ?_
    refine g_top hS ?_
    refine g_cutVi (ps := [0, 1, 2, 3, 4, 5, 6]) (w' := [_, _, _, _, _, _, _, _, _, _, _]) (n := 26) cv_X3_69 (t_X7_hasCarts l V hV dn a ha) dX3_isScared_23 rfl rfl rfl ⟨by decide, by decide, rfl, rfl, Nat.zero_le _, Nat.zero_le _⟩ rfl rfl rfl (Nat.le_of_ble_eq_true rfl) rfl rfl rfl ?_
    refine g_if_eq (tgt := 33) (n := 29) dX3_isScared_26 (by decide) rfl (fun c26 => ?_) (fun c26 => ?_)
    ·
      have hF : baF V S f = false := by unfold baF; rw [hS, bI_0.mp c26, Bool.and_false]
      refine g_iconst (v := nI 0) (n := 34) dX3_isScared_33 (by decide) rfl ?_
      exact g_iret (ty := .boolean) dX3_isScared_34 rfl (by first | exact bI_nar _ | decide) ⟨Nat.zero_le _, Nat.zero_le _⟩ ⟨by first | exact okT hT | exact okF hF, rfl⟩
    ·
      have hT : baF V S f = true := by unfold baF; rw [hS, a1, bI_n0.mp c26]; rfl
      refine g_iconst (v := nI 1) (n := 30) dX3_isScared_29 (by decide) rfl ?_
      refine g_goto (tgt := 34) dX3_isScared_30 (by decide) ?_
      exact g_iret (ty := .boolean) dX3_isScared_34 rfl (by first | exact bI_nar _ | decide) ⟨Nat.zero_le _, Nat.zero_le _⟩ ⟨by first | exact okT hT | exact okF hF, rfl⟩
set_option maxRecDepth 20000 in
theorem t_X3_canComeDown (l : Launch) (V : WT) (hV : okV V) (dn : Int32) (fb : Nat → Int32) (S : ST) (f : Nat) (hf : f < vnf V) (a : Nat) (ha : a < 2 ^ 31) (hS : sho S = nI a) : Fn l M_X3_canComeDown [.ref 7, .ref 0, .int (nI f)] (ws V dn fb S) (some (.int (bI (mdF V S f)))) (ws V dn fb S) := by
  have hV1 := hV.1
  have hV2 := hV.2.1
  have hV3 := hV.2.2
  refine con_of rfl rfl (Nat.le_of_ble_eq_true rfl) ?_
  refine g_lsN (ls' := [_, _, _]) rfl ?_
  refine g_aload_n (n := 1) dX3_canComeDown_0 rfl rfl ?_
  refine g_iload_n (n := 2) dX3_canComeDown_1 rfl rfl ?_
  refine g_cutVi (ps := [0, 1, 2, 3, 4, 5, 6]) (w' := [_, _, _, _, _, _, _, _, _, _, _]) (n := 5) cv_X3_49 (t_X7_hasButtress l V hV dn _) dX3_canComeDown_2 rfl rfl rfl ⟨by decide, by decide, rfl, rfl, Nat.zero_le _, Nat.zero_le _⟩ rfl rfl rfl (Nat.le_of_ble_eq_true rfl) rfl rfl rfl ?_
  refine g_if_eq (tgt := 29) (n := 8) dX3_canComeDown_5 (by decide) rfl (fun c5 => absurd c5 (bI_n0.mpr (show isB (vnf V) (nI f) = true by rw [isB_nI (by omega) (by omega)]; exact decide_eq_true hf))) (fun c5 => ?_)
  refine g_aload_n (n := 9) dX3_canComeDown_8 rfl rfl ?_
  refine g_iload_n (n := 10) dX3_canComeDown_9 rfl rfl ?_
  refine g_cutVi (ps := [7, 8, 9, 10]) (w' := [_, _, _, _, _, _, _, _, _, _, _]) (n := 13) cv_X3_53 (t_X3_isUp l _ _) dX3_canComeDown_10 rfl rfl rfl ⟨by decide, by decide, rfl, rfl, Nat.zero_le _, Nat.zero_le _⟩ rfl rfl rfl (Nat.le_of_ble_eq_true rfl) rfl rfl rfl ?_
  refine g_if_eq (tgt := 29) (n := 16) dX3_canComeDown_13 (by decide) rfl (fun c13 => ?_) (fun c13 => ?_)
  ·
    have hF : mdF V S f = false := by unfold mdF; rw [bI_0.mp c13]; rfl
    refine g_iconst (v := nI 0) (n := 30) dX3_canComeDown_29 (by decide) rfl ?_
    exact g_iret (ty := .boolean) dX3_canComeDown_30 rfl (by first | exact bI_nar _ | decide) ⟨Nat.zero_le _, Nat.zero_le _⟩ ⟨by first | exact okT hT | exact okF hF, rfl⟩
  ·
    refine g_aload_n (n := 17) dX3_canComeDown_16 rfl rfl ?_
    refine g_aload_n (n := 18) dX3_canComeDown_17 rfl rfl ?_
    refine g_iload_n (n := 19) dX3_canComeDown_18 rfl rfl ?_
    refine g_cutVi (ps := [0, 1, 2, 3, 4, 5, 6, 7, 8, 9, 10]) (w' := [_, _, _, _, _, _, _, _, _, _, _]) (n := 22) cv_X3_56 (t_X3_isScared l V hV dn fb S f hf a ha hS) dX3_canComeDown_19 rfl rfl rfl ⟨by decide, by decide, rfl, rfl, Nat.zero_le _, Nat.zero_le _⟩ rfl rfl rfl (Nat.le_of_ble_eq_true rfl) rfl rfl rfl ?_
    refine g_if_ne (tgt := 29) (n := 25) dX3_canComeDown_22 (by decide) rfl (fun c22 => ?_) (fun c22 => ?_)
    ·
      have hF : mdF V S f = false := by unfold mdF; rw [bI_n0.mp c22, Bool.not_true, Bool.and_false]
      refine g_iconst (v := nI 0) (n := 30) dX3_canComeDown_29 (by decide) rfl ?_
      exact g_iret (ty := .boolean) dX3_canComeDown_30 rfl (by first | exact bI_nar _ | decide) ⟨Nat.zero_le _, Nat.zero_le _⟩ ⟨by first | exact okT hT | exact okF hF, rfl⟩
    ·
      have hT : mdF V S f = true := by unfold mdF; rw [bI_n0.mp c13, bI_0.mp c22]; rfl
      refine g_iconst (v := nI 1) (n := 26) dX3_canComeDown_25 (by decide) rfl ?_
      refine g_goto (tgt := 30) dX3_canComeDown_26 (by decide) ?_
      exact g_iret (ty := .boolean) dX3_canComeDown_30 rfl (by first | exact bI_nar _ | decide) ⟨Nat.zero_le _, Nat.zero_le _⟩ ⟨by first | exact okT hT | exact okF hF, rfl⟩
set_option maxRecDepth 20000 in
theorem t_X3_canGoUp (l : Launch) (V : WT) (hV : okV V) (dn : Int32) (fb : Nat → Int32) (S : ST) (f : Nat) (hf : f < vnf V) (a : Nat) (ha : a < 2 ^ 31) (hS : sho S = nI a) : Fn l M_X3_canGoUp [.ref 7, .ref 0, .int (nI f)] (ws V dn fb S) (some (.int (bI (muF V S f)))) (ws V dn fb S) := by
  have hV1 := hV.1
  have hV2 := hV.2.1
  have hV3 := hV.2.2
  refine con_of rfl rfl (Nat.le_of_ble_eq_true rfl) ?_
  refine g_lsN (ls' := [_, _, _]) rfl ?_
  refine g_aload_n (n := 1) dX3_canGoUp_0 rfl rfl ?_
  refine g_iload_n (n := 2) dX3_canGoUp_1 rfl rfl ?_
  refine g_cutVi (ps := [0, 1, 2, 3, 4, 5, 6]) (w' := [_, _, _, _, _, _, _, _, _, _, _]) (n := 5) cv_X3_49 (t_X7_hasButtress l V hV dn _) dX3_canGoUp_2 rfl rfl rfl ⟨by decide, by decide, rfl, rfl, Nat.zero_le _, Nat.zero_le _⟩ rfl rfl rfl (Nat.le_of_ble_eq_true rfl) rfl rfl rfl ?_
  refine g_if_eq (tgt := 57) (n := 8) dX3_canGoUp_5 (by decide) rfl (fun c5 => absurd c5 (bI_n0.mpr (show isB (vnf V) (nI f) = true by rw [isB_nI (by omega) (by omega)]; exact decide_eq_true hf))) (fun c5 => ?_)
  refine g_aload_n (n := 9) dX3_canGoUp_8 rfl rfl ?_
  refine g_iload_n (n := 10) dX3_canGoUp_9 rfl rfl ?_
  refine g_cutVi (ps := [7, 8, 9, 10]) (w' := [_, _, _, _, _, _, _, _, _, _, _]) (n := 13) cv_X3_53 (t_X3_isUp l _ _) dX3_canGoUp_10 rfl rfl rfl ⟨by decide, by decide, rfl, rfl, Nat.zero_le _, Nat.zero_le _⟩ rfl rfl rfl (Nat.le_of_ble_eq_true rfl) rfl rfl rfl ?_
  refine g_if_ne (tgt := 57) (n := 16) dX3_canGoUp_13 (by decide) rfl (fun c13 => ?_) (fun c13 => ?_)
  ·
    have hF : muF V S f = false := by unfold muF; rw [bI_n0.mp c13]; rfl
    refine g_iconst (v := nI 0) (n := 58) dX3_canGoUp_57 (by decide) rfl ?_
    exact g_iret (ty := .boolean) dX3_canGoUp_58 rfl (by first | exact bI_nar _ | decide) ⟨Nat.zero_le _, Nat.zero_le _⟩ ⟨by first | exact okT hT | exact okF hF, rfl⟩
  ·
    have a1 := bI_0.mp c13
    refine g_aload_n (n := 17) dX3_canGoUp_16 rfl rfl ?_
    refine g_get (n := 20) fl_X3_15 dX3_canGoUp_17 rfl rfl rfl ?_
    refine g_iload_n (n := 21) dX3_canGoUp_20 rfl rfl ?_
    refine g_ialdN (n := 22) dX3_canGoUp_21 rfl rfl (by decide) (by omega) ?_
    refine g_aload_n (n := 23) dX3_canGoUp_22 rfl rfl ?_
    refine g_get (n := 26) fl_X3_60 dX3_canGoUp_23 rfl rfl rfl ?_
    refine g_iload_n (n := 27) dX3_canGoUp_26 rfl rfl ?_
    refine g_ialdN (n := 28) dX3_canGoUp_27 rfl rfl (by decide) (by omega) ?_
    refine g_icmp_ge (tgt := 57) (n := 31) dX3_canGoUp_28 (by decide) rfl (fun c28 => ?_) (fun c28 => ?_)
    ·
      have hF : muF V S f = false := by unfold muF; rw [decide_eq_true c28, Bool.not_true, Bool.and_false, Bool.false_and]
      refine g_iconst (v := nI 0) (n := 58) dX3_canGoUp_57 (by decide) rfl ?_
      exact g_iret (ty := .boolean) dX3_canGoUp_58 rfl (by first | exact bI_nar _ | decide) ⟨Nat.zero_le _, Nat.zero_le _⟩ ⟨by first | exact okT hT | exact okF hF, rfl⟩
    ·
      have a2 := decide_eq_false c28
      refine g_aload_n (n := 32) dX3_canGoUp_31 rfl rfl ?_
      refine g_aload_n (n := 33) dX3_canGoUp_32 rfl rfl ?_
      refine g_get (n := 36) fl_X3_9 dX3_canGoUp_33 rfl rfl rfl ?_
      refine g_iload_n (n := 37) dX3_canGoUp_36 rfl rfl ?_
      refine g_ialdN (n := 38) dX3_canGoUp_37 rfl rfl (by decide) (by omega) ?_
      refine g_cutVi (ps := [7, 8, 9, 10]) (w' := [_, _, _, _, _, _, _, _, _, _, _]) (n := 41) cv_X3_63 (t_X3_hasFallen l _ _) dX3_canGoUp_38 rfl rfl rfl ⟨by decide, by decide, rfl, rfl, Nat.zero_le _, Nat.zero_le _⟩ rfl rfl rfl (Nat.le_of_ble_eq_true rfl) rfl rfl rfl ?_
      refine g_if_ne (tgt := 57) (n := 44) dX3_canGoUp_41 (by decide) rfl (fun c41 => ?_) (fun c41 => ?_)
      ·
        have hF : muF V S f = false := by unfold muF; rw [bI_n0.mp c41, Bool.not_true, Bool.and_false]
        refine g_iconst (v := nI 0) (n := 58) dX3_canGoUp_57 (by decide) rfl ?_
        exact g_iret (ty := .boolean) dX3_canGoUp_58 rfl (by first | exact bI_nar _ | decide) ⟨Nat.zero_le _, Nat.zero_le _⟩ ⟨by first | exact okT hT | exact okF hF, rfl⟩
      ·
        have a3 := bI_0.mp c41
        refine g_aload_n (n := 45) dX3_canGoUp_44 rfl rfl ?_
        refine g_aload_n (n := 46) dX3_canGoUp_45 rfl rfl ?_
        refine g_iload_n (n := 47) dX3_canGoUp_46 rfl rfl ?_
        refine g_cutVi (ps := [0, 1, 2, 3, 4, 5, 6, 7, 8, 9, 10]) (w' := [_, _, _, _, _, _, _, _, _, _, _]) (n := 50) cv_X3_56 (t_X3_isScared l V hV dn fb S f hf a ha hS) dX3_canGoUp_47 rfl rfl rfl ⟨by decide, by decide, rfl, rfl, Nat.zero_le _, Nat.zero_le _⟩ rfl rfl rfl (Nat.le_of_ble_eq_true rfl) rfl rfl rfl ?_
        refine g_if_ne (tgt := 57) (n := 53) dX3_canGoUp_50 (by decide) rfl (fun c50 => ?_) (fun c50 => ?_)
        ·
          have hF : muF V S f = false := by unfold muF; rw [bI_n0.mp c50, Bool.not_true, Bool.and_false, Bool.false_and, Bool.false_and]
          refine g_iconst (v := nI 0) (n := 58) dX3_canGoUp_57 (by decide) rfl ?_
          exact g_iret (ty := .boolean) dX3_canGoUp_58 rfl (by first | exact bI_nar _ | decide) ⟨Nat.zero_le _, Nat.zero_le _⟩ ⟨by first | exact okT hT | exact okF hF, rfl⟩
        ·
          have hT : muF V S f = true := by unfold muF; rw [a1, a2, a3, bI_0.mp c50]; rfl
          refine g_iconst (v := nI 1) (n := 54) dX3_canGoUp_53 (by decide) rfl ?_
          refine g_goto (tgt := 58) dX3_canGoUp_54 (by decide) ?_
          exact g_iret (ty := .boolean) dX3_canGoUp_58 rfl (by first | exact bI_nar _ | decide) ⟨Nat.zero_le _, Nat.zero_le _⟩ ⟨by first | exact okT hT | exact okF hF, rfl⟩

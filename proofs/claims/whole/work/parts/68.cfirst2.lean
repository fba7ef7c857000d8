/-! 68.cfirst2: the first text is read, and the wall stands -/
theorem zZ0 : okZ Z0 := ⟨fun _ _ => rfl, fun _ _ => rfl, fun _ _ => rfl⟩
theorem xl_cl {la sp : Nat} (fl : la = 87 ∧ sp = 94 ∨ la = 94 ∧ sp = 87) {a b : Nat} (hab : a < 29 ∧ b < 29) (nm : Nat → Int32) (nx : Int32) (n : Nat) (tf : Nat → Int32) (kc tn sz : Int32) (S : ST) (U : WT) (un : Int32) (ub : Nat → Int32) (V : WT) (dn : Int32) (fb : Nat → Int32) : ∀ x ∈ xl a b nm nx n tf kc tn sz S U un ub V dn fb, clE 109 (ren (ps_xl la sp) x) := by
  have h1 : ∀ j, j < 29 → sg (ps_xl la sp) j < 109 := by
    rcases fl with ⟨rfl, rfl⟩ | ⟨rfl, rfl⟩
    · exact (by decide +kernel : ∀ j, j < 29 → sg (ps_xl 87 94) j < 109)
    · exact (by decide +kernel : ∀ j, j < 29 → sg (ps_xl 94 87) j < 109)
  have h2 : clW 29 (xl a b nm nx n tf kc tn sz S U un ub V dn fb) := by
    refine ⟨?_, rfl, trivial, rfl, trivial, rfl, trivial, trivial, trivial, trivial, trivial, trivial, rfl, trivial, trivial, trivial, trivial, trivial, trivial, rfl, trivial, trivial, trivial, rfl, trivial⟩
    show (List.all [Value.ref 3, .ref 1, .ref 24, .ref 25, .ref 26, .ref 19, .ref 23, .ref 27, .int kc, .ref a, .ref b] (clR 29)) = true
    have e1 : clR 29 (.ref a) = true := decide_eq_true hab.1
    have e2 : clR 29 (.ref b) = true := decide_eq_true hab.2
    simp only [List.all_cons, e1, e2, List.all_nil, Bool.and_true]
    rfl
  exact fun x hx => clE_ren h1 (clW_mem h2 x hx)
set_option maxRecDepth 20000 in
set_option maxHeartbeats 4000000 in
theorem tl_lay (l : Launch) {w : List va_E} {tf : Nat → Int32} (I : I8 w (nI 0) 87 94 107 tf Z0 0 0 (fun _ => Z0) (fun _ => Z0) V0 (nI 0) fz) (hT : TC tf tz 107) (hs : wlF w 94 V0 (nI 0) fz) (hc : clW 109 w) (hl : w.length = 109) (o1 : Option Value) : GE EZ l M_X8_init (1, 108, 885) QX8 168 [some (.ref 0), o1] [] w := by
  have I0 := I
  obtain ⟨fl, _, ho, ht, ⟨nm, nx, hr⟩, _, _, _, hno, htr, _, hw, _⟩ := I
  have hi := ri_all tz 107 200 0 (clV V0) fz (nI 0) (ri_cl (U := V0) (ub := fz) ⟨fun _ _ => rfl, fun _ _ => rfl, fun _ _ => rfl, fun _ _ => rfl, fun _ _ => rfl, fun _ _ => rfl⟩)
  refine h_aload_n (n := 169) dX8_init_168 rfl rfl ?_
  refine h_cutV (ps := ps_xl 87 94) (b0 := 0) (cav := []) (rest := []) (n := 172) cv_X8_88 (t_X8_layText_ok l nm nx 107 tf tz hT (nI 0) (nI 0) (nI 0) Z0 V0 (nI 0) fz V0 (nI 0) fz R8_ok.1 R8_ok.2 zZ0 hi.2.1.2.2.2.2.1 hi.1) dX8_init_169 rfl (cut_xl ho hr ht hs hw hno htr.1) (nd_xl fl) ⟨by decide, by decide, rfl, rfl, by decide, by decide⟩ rfl rfl rfl (by decide) rfl (fun r u hq => ?_)
  obtain ⟨rfl, nm2, nx2, hu⟩ := hq
  refine ⟨by rw [hu]; rfl, ?_⟩
  have hp := put_xl2 (sz2 := 0) (kc2 := nI 0) (hY := (⟨fun _ _ => rfl, fun _ _ => rfl, fun _ _ => rfl, fun _ _ => rfl, fun _ _ => rfl, fun _ _ => rfl⟩ : okY V0 fz)) I0 hu
  have hcl : clW 109 (putM w (ps_xl 87 94) u) := clW_put hc (by rw [hu]; exact xl_cl fl ⟨by decide, by decide⟩ _ _ _ _ _ _ _ _ _ _ _ _ _ _)
  have hlen : (putM w (ps_xl 87 94) u).length = 109 := by rw [put_len]; exact hl
  obtain ⟨hp, -⟩ := hp
  generalize putM w (ps_xl 87 94) u = w2 at hp hcl hlen
  refine h_pop (n := 173) dX8_init_172 rfl rfl ?_
  refine h_aload_n (n := 174) dX8_init_173 rfl rfl ?_
  obtain ⟨fl2, hl2, ho2, ht2, hrest⟩ := hp
  refine h_get (n := 177) fl_X8_10 dX8_init_174 ho2 rfl rfl ?_
  refine h_iconst (v := nI 0) (n := 178) dX8_init_177 (by decide) rfl ?_
  refine h_put (n := 181) pf_X8_91 dX8_init_178 ht2.1 (by decide) (fun _ => rfl) (fun _ => rfl) rfl ?_
  refine h_vret dX8_init_181 rfl ⟨by decide, by decide⟩ ⟨rfl, by rw [List.length_set]; exact hlen, clW_set hcl rfl, tf, ?_⟩
  have hp2 : I8 w2 (nI 0) 94 87 107 tf (cyS R8.2.1 R8.2.2.2.1 R8.2.2.1) 0 0 (fun _ => Z0) (fun _ => Z0) R8.2.1 R8.2.2.2.1 R8.2.2.1 := ⟨fl2, hl2, ho2, ht2, hrest⟩
  have e1 : putM w2 [1, 2] (tx2 0 tf) = w2.set 1 (.inr (4, [.ref 2, .int (nI 0)])) := by
    show (w2.set 1 (.inr (4, [.ref 2, .int (nI 0)]))).set 2 (.inl (1, 200, .inl tf)) = _
    apply List.ext_getElem?
    intro j
    by_cases q : j = 2
    · subst q
      rw [List.getElem?_set_self (by rw [List.length_set]; omega), List.getElem?_set_ne (by decide)]
      exact ht2.2.symm
    · rw [List.getElem?_set_ne (fun h => q h.symm)]
  have := put_x2 (n2 := 0) (tf2 := tf) hp2 rfl
  rw [e1] at this
  exact this
set_option maxRecDepth 20000 in
set_option maxHeartbeats 4000000 in
theorem lp_text (l : Launch) : ∀ (d i : Nat) (w : List va_E) (tf : Nat → Int32), i + d = 107 → I8 w (nI 0) 87 94 i tf Z0 0 0 (fun _ => Z0) (fun _ => Z0) V0 (nI 0) fz → TC tf tz i → wlF w 94 V0 (nI 0) fz → clW 109 w → w.length = 109 → GE EZ l M_X8_init (1, 108, 885) QX8 139 [some (.ref 0), some (.int (nI i))] [] w
  | 0, i, w, tf, hid, I, hT, hs, hc, hl => by
    have e : i = 107 := by omega
    subst e
    refine h_iload_n (n := 140) dX8_init_139 rfl rfl ?_
    refine h_strlen (n := 145) dX8_init_140 dX8_init_142 rfl ⟨by decide, by decide, by decide⟩ (Nat.le_of_ble_eq_true rfl) rfl ?_
    refine h_icmp_ge (tgt := 168) (n := 148) dX8_init_145 (by decide) rfl (fun _ => ?_) (fun q => absurd (Int32.le_refl _) q)
    exact tl_lay l I hT hs hc hl _
  | d + 1, i, w, tf, hid, I, hT, hs, hc, hl => by
    have ht := I.2.2.2.1
    have ho := I.2.2.1
    have hz := tz_ok i (by omega)
    refine h_iload_n (n := 140) dX8_init_139 rfl rfl ?_
    refine h_strlen (n := 145) dX8_init_140 dX8_init_142 rfl ⟨by decide, by decide, by decide⟩ (Nat.le_of_ble_eq_true rfl) rfl ?_
    refine h_icmp_ge (tgt := 168) (n := 148) dX8_init_145 (by decide) rfl (fun q => absurd q (nI_ge (by omega) (by decide))) (fun _ => ?_)
    refine h_aload_n (n := 149) dX8_init_148 rfl rfl ?_
    refine h_get (n := 152) fl_X8_10 dX8_init_149 ho rfl rfl ?_
    refine h_strchar (i := i) (n := 158) (by omega) dX8_init_152 dX8_init_154 dX8_init_155 rfl rfl ⟨by decide, by decide, by decide⟩ (Nat.le_of_ble_eq_true rfl) rfl ?_
    refine h_cutVi (ps := [1, 2]) (b0 := 0) (cav := [.int (nI (tz i))]) (rest := []) (n := 161) cv_X8_84 (t_X4_add_ok l i (by omega) tf (tz i) (by omega)) dX8_init_158 rfl (lcons ht.1 (lcons ht.2 rfl)) rfl ⟨by decide, by decide, rfl, rfl, by decide, by decide⟩ rfl rfl rfl (by decide) rfl rfl rfl ?_
    refine h_pop (n := 162) dX8_init_161 rfl rfl ?_
    refine h_iincN (k := 1) (n := 165) dX8_init_162 rfl (by decide) rfl rfl ?_
    refine h_lsN (ls' := [_, _]) rfl ?_
    refine h_goto (tgt := 139) dX8_init_165 (by decide) ?_
    refine lp_text l d (i + 1) _ (upd tf i (nI (tz i))) (by omega) (put_x2 I rfl) ⟨by omega, fun p hp => ?_⟩ ?_ ?_ ?_
    · by_cases q : p = i
      · subst q; rw [pk_us]; exact ⟨rfl, hz.1, hz.2⟩
      · rw [pk_un q]; exact hT.2 p (by omega)
    · exact wl_out (n := 2) rfl (no_x2_spa (la := 87) (sp := 94) (Or.inl ⟨rfl, rfl⟩)) hs
    · refine clW_put hc (fun x hx => ?_)
      rcases List.mem_cons.mp hx with rfl | hx
      · exact rfl
      · rcases List.mem_cons.mp hx with rfl | hx
        · trivial
        · cases hx
    · rw [put_len]; exact hl

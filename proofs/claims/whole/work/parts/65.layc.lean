/-! 65.layc: fault and lay of both -/
theorem okV_V0 : okV V0 := ⟨Nat.zero_le _, Nat.zero_le _, Nat.zero_le _⟩
theorem cp_rd {H ke n : Nat} {tf : Nat → Int32} {S : ST} {tn sz : Nat} {P K : Nat → ST} {V : WT} {fb : Nat → Int32} {e : MR} {to s : Nat → Int32} (h : CPk H ke n tf S tn sz P K V fb e to s) {V1 : WT} (hW : okW V1) (b1 : Nat → Int32) (d1 a1 : Int32) : CPk (H + 24) ke n tf S tn sz P K V fb (sRd e (tk V1) b1 d1 a1) to s := by
  obtain ⟨c1, c2, c3, c4, c5, c6⟩ := cp_w (H2 := H + 24) (by omega) h
  exact ⟨c1, c2, c3, c4, c5, c6.1, fun j hj => tk_big hW hj⟩
set_option maxRecDepth 20000 in
theorem sp_fault (l : Launch) {H : Nat} (hH : H ≤ 100000) {w : List va_E} (h : CoI H w) : Sby l M_X8_fault M_X9_fault [] H w := by
  obtain ⟨ke, la, sp, n, tf, S, tn, sz, P, K, V, dn, fb, e, to, s, hI, hm, hC⟩ := h
  have hC0 := hC
  obtain ⟨hcW, hst, ⟨ta, hTC, hTX⟩, hcP, hcK, hE⟩ := hC0
  have hW1 := rdR_okW ta n 200 0 V0 e.2.2.2.1 (nI 0) okV_V0 okW_V0
  refine stp_mk hm rfl rfl (oc_xl (v := (rdR ta n 200 0 V0 e.2.2.2.1 (nI 0)).1) hI rfl rfl (fun nm nx U un ub hYU => con_post (t_X8_fault l nm nx n tf ta hTC (nI ke) (nI tn) (nI sz) S U un ub V dn fb) ?_)) (t_X9_fault l e to s e.2.2.1 e.2.2.2.1 e.2.2.2.2.1 e.2.2.2.2.2.2.2.2.2.1 ta n hTX hE.2) (cp_rd hC hW1 _ _ _)
  rintro r u ⟨h1, nm2, nx2, hu⟩
  have hr := rl_all ta n 200 0 V0 e.2.2.2.1 (clV U) ub (nI 0) (rl_cl U _ _)
  have hi := ri_all ta n 200 0 (clV U) ub (nI 0) (ri_cl hYU)
  exact ⟨by rw [h1, hr.1], nm2, nx2, _, _, _, hi.2.1, hu⟩
set_option maxRecDepth 20000 in
theorem sp_lay (l : Launch) {H : Nat} (hH : H ≤ 100000) {w : List va_E} (h : CoI H w) : Sby l M_X8_lay M_X9_lay [] H w := by
  obtain ⟨ke, la, sp, n, tf, S, tn, sz, P, K, V, dn, fb, e, to, s, hI, hm, hC⟩ := h
  have hC0 := hC
  obtain ⟨hcW, hst, ⟨ta, hTC, hTX⟩, hcP, hcK, hE⟩ := hC0
  have hW1 := rdR_okW ta n 200 0 V0 e.2.2.2.1 (nI 0) okV_V0 okW_V0
  have hr := fun U ub => rl_all ta n 200 0 V0 e.2.2.2.1 (clV U) ub (nI 0) (rl_cl U _ _)
  by_cases c1 : (rdR ta n 200 0 V0 e.2.2.2.1 (nI 0)).1 = (-4)
  · by_cases c2 : vnb (rdR ta n 200 0 V0 e.2.2.2.1 (nI 0)).2.1 = 0
    · refine stp_mk hm rfl rfl (oc_xl (v := (-2)) hI rfl rfl (fun nm nx U un ub hYU => con_post (t_X8_lay_no2 l nm nx n tf ta hTC (nI ke) (nI tn) (nI sz) S U un ub V dn fb ((hr U ub).1.symm.trans c1) ((hr U ub).2.1.1.symm.trans c2)) ?_)) (t_X9_lay_no2 l e to s e.2.2.1 e.2.2.2.1 e.2.2.2.2.1 e.2.2.2.2.2.2.2.2.2.1 ta n hTX hE.2 c1 c2) (cp_rd hC hW1 _ _ _)
      rintro r u ⟨h1, nm2, nx2, hu⟩
      have hi := ri_all ta n 200 0 (clV U) ub (nI 0) (ri_cl hYU)
      exact ⟨h1, nm2, nx2, _, _, _, hi.2.1, hu⟩
    · have hz := stP_z hst
      obtain ⟨hV, hX, hY, hb0, th, pa, ki, sg, kn, E, hkn, hto⟩ := hcW
      have hZS : okZ S := by obtain ⟨⟨⟨a, _, hS⟩, _⟩, _⟩ := hst; exact hS.1
      have h9 := t_X9_lay_ok l e to s e.2.2.1 e.2.2.2.1 e.2.2.2.2.1 e.2.2.2.2.2.2.2.2.2.1 ta n hTX hE.2 hz (fun j hj => by rw [hto]; exact tk_big (V := wV V th pa ki sg kn) hkn hj) c1 c2
      generalize hR1 : rdR ta n 200 0 V0 e.2.2.2.1 (nI 0) = R1 at hW1 hr c1 c2 h9
      refine ⟨nI (vnb R1.2.1), fun u => (∃ U un ub, (reL R1.2.1 R1.2.2.1 U ub ∧ RI U ub ∧ un = R1.2.2.2.1) ∧ I8 u (nI 0) sp la n tf (cyS U un ub) tn 0 P K U un ub) ∧ bMod u e to s ∧ u.length = w.length, con_post (oc_xl2 (av := [.ref 0]) (v := nI (vnb R1.2.1)) (PV := fun U un ub => reL R1.2.1 R1.2.2.1 U ub ∧ RI U ub ∧ un = R1.2.2.2.1) hI rfl rfl (fun nm nx U un ub hYU => ?_)) ?_, ?_⟩
      · have hi := ri_all ta n 200 0 (clV U) ub (nI 0) (ri_cl hYU)
        have hU := hr U ub
        refine con_post (t_X8_lay_ok l nm nx n tf ta hTC (nI ke) (nI tn) (nI sz) S U un ub V dn fb (hU.1.symm.trans c1) (fun q => c2 (hU.2.1.1.trans q)) hZS hi.2.1.2.2.2.2.1 hi.1) ?_
        rintro r u ⟨h1, nm2, nx2, hu⟩
        exact ⟨by rw [h1, hU.2.1.1], nm2, nx2, _, _, _, V, dn, fb, hY, ⟨hU.2.1, hi, (congrArg (fun z => z.1) hU.2.2).symm⟩, hu⟩
      · rintro r u ⟨h1, h2, h3⟩
        exact ⟨h1, h2, h3.1 e to s hm, h3.2⟩
      · rintro u ⟨⟨U, un, ub, ⟨hrl, hri, hun⟩, hI2⟩, hm2, hlen⟩
        refine ⟨⟨hlen, _, hm2.1⟩, ?_⟩
        refine con_post (oc_mw hm2 rfl (av := [.ref 0]) (av2 := [.ref 109]) rfl rfl h9) ?_
        rintro r u2 ⟨g1, g2, g3, g4⟩
        refine ⟨g1, ⟨0, sp, la, n, tf, _, tn, 0, P, K, U, un, ub, _, _, _, g4 _ _ _ _ _ _ _ _ _ _ _ _ _ hI2, g2, ?_⟩, g3.trans hlen⟩
        have hw := rl_w hrl
        have hb1 := hri.1
        refine ⟨⟨hri.1, hri.2.2.1, hri.2.1, ?_, _, _, _, _, _, hw.2, hW1, congrArg tk hw.1⟩, ⟨okA_cy un hri.1 hri.2.2.1 hri.2.1.2.2.2.2.1 hri.2.2.2 _, boS (vnf U) R1.2.2.1, fun j hj => ?_, fun f hf => ?_, ?_⟩, ⟨ta, hTC, hTX⟩, ⟨hcP.1, by omega, rfl, hcP.2.2.2.1, fun i hi => absurd hi (Nat.not_lt_zero i)⟩, ⟨by omega, rfl, hcK.2.2.1, fun i hi => absurd hi (Nat.not_lt_zero i)⟩, hE.1, fun j hj => tk_big hW1 hj⟩
        · have := hrl.1; omega
        · unfold boS
          have := hri.1.2.1
          rw [if_neg (by omega)]
        · unfold boS
          rw [if_pos hf]
          exact (hrl.2.2.2.2.2 f hf).2.2.2
        · refine congrArg pk ?_
          unfold lyS cyS cyU
          rw [hrl.2.1, hun]
  · refine stp_mk hm rfl rfl (oc_xl (v := (-2)) hI rfl rfl (fun nm nx U un ub hYU => con_post (t_X8_lay_no1 l nm nx n tf ta hTC (nI ke) (nI tn) (nI sz) S U un ub V dn fb (fun q => c1 ((hr U ub).1.trans q))) ?_)) (t_X9_lay_no1 l e to s e.2.2.1 e.2.2.2.1 e.2.2.2.2.1 e.2.2.2.2.2.2.2.2.2.1 ta n hTX hE.2 c1) (cp_rd hC hW1 _ _ _)
    rintro r u ⟨h1, nm2, nx2, hu⟩
    have hi := ri_all ta n 200 0 (clV U) ub (nI 0) (ri_cl hYU)
    exact ⟨h1, nm2, nx2, _, _, _, hi.2.1, hu⟩

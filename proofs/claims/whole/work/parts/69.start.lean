/-! 69.start: both, fresh, stand side by side -/
set_option maxRecDepth 20000 in
theorem t_X8_init (l : Launch) : ConE EZ l M_X8_init [.ref 0] [.inr (8, dfX8)] QX8 := by
  refine con_ofE rfl rfl (Nat.le_of_ble_eq_true rfl) ?_
  refine h_lsN (ls' := [some (.ref 0), none]) rfl ?_
  exact t_X8_make l QX8 (fun w I hs hc hl => lp_text l 107 0 w fz (by decide) I ⟨by decide, fun p hp => absurd hp (Nat.not_lt_zero p)⟩ hs hc hl)
set_option maxRecDepth 20000 in
theorem R8_obs : vnb R8.2.1 = 5 ∧ vnf R8.2.1 = 6 ∧ vnc R8.2.1 = 4 ∧ vca R8.2.1 = nI 4 ∧ R8.2.2.2.1 = nI 16 := by decide +kernel
set_option maxRecDepth 20000 in
theorem R8_bays : ∀ b, b < 5 → vth VM b = vth R8.2.1 b ∧ vpa VM b = vpa R8.2.1 b := by decide +kernel
set_option maxRecDepth 20000 in
theorem R8_butts : ∀ f, f < 6 → vki VM f = vki R8.2.1 f ∧ vsg VM f = vsg R8.2.1 f ∧ vkn VM f = vkn R8.2.1 f ∧ be6 f = R8.2.2.1 f := by decide +kernel
theorem R8_rel : reL VM be6 R8.2.1 R8.2.2.1 := by
  obtain ⟨h1, h2, h3, h4, h5⟩ := R8_obs
  refine ⟨h1.symm, h2.symm, h3.symm, h4.symm, fun b hb_ => R8_bays b (by rw [h1] at hb_; exact hb_), fun f hf => R8_butts f (by rw [h2] at hf; exact hf)⟩
theorem R8_ri : RI R8.2.1 R8.2.2.1 := ri_all tz 107 200 0 (clV V0) fz (nI 0) (ri_cl (U := V0) (ub := fz) ⟨fun _ _ => rfl, fun _ _ => rfl, fun _ _ => rfl, fun _ _ => rfl, fun _ _ => rfl, fun _ _ => rfl⟩)
theorem co_init {u : List va_E} {tf : Nat → Int32} (hI : I8 u (nI 0) 94 87 0 tf (cyS R8.2.1 R8.2.2.2.1 R8.2.2.1) 0 0 (fun _ => Z0) (fun _ => Z0) R8.2.1 R8.2.2.2.1 R8.2.2.1) (hm : bMod u eM (tk VM) (pk SM0)) : CoI 0 u := by
  have hri := R8_ri
  have hrl := R8_rel
  have hun : R8.2.2.2.1 = nI 16 := R8_obs.2.2.2.2
  refine ⟨0, 94, 87, 0, tf, _, 0, 0, _, _, _, _, _, eM, _, _, hI, hm, ?_⟩
  have hw := rl_w hrl
  refine ⟨⟨hri.1, hri.2.2.1, hri.2.1, by rw [R8_obs.1]; decide, _, _, _, _, _, hw.2, okW_VM, congrArg tk hw.1⟩, ⟨okA_cy _ hri.1 hri.2.2.1 hri.2.1.2.2.2.2.1 hri.2.2.2 _, boS (vnf R8.2.1) be6, fun j hj => ?_, fun f hf => ?_, ?_⟩, ⟨tz, ⟨by decide, fun p hp => absurd hp (Nat.not_lt_zero p)⟩, ⟨rfl, by decide, fun p hp => absurd hp (Nat.not_lt_zero p)⟩⟩, ⟨by decide, by decide, rfl, fun _ => zZ0, fun i hi => absurd hi (Nat.not_lt_zero i)⟩, ⟨by decide, rfl, fun _ => zZ0, fun i hi => absurd hi (Nat.not_lt_zero i)⟩, fun j hj => rfl, fun j hj => tk_big okW_VM hj⟩
  · unfold boS
    have := hri.1.2.1
    rw [if_neg (by omega)]
  · unfold boS
    rw [if_pos hf]
    exact (hrl.2.2.2.2.2 f hf).2.2.2
  · refine congrArg pk ?_
    unfold SM0 lyS cyS cyU
    rw [hrl.2.1, hun]

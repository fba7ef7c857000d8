/-! 60.openm: lay and fault, and the reference's calls, in the open world -/
theorem oc_xl {l : Launch} {M : MC} {av av2 : List Value} {w : List va_E} {v : Int32} {kc : Int32} {la sp n : Nat} {tf : Nat → Int32} {S : ST} {tn sz : Nat} {P K : Nat → ST} {V : WT} {dn : Int32} {fb : Nat → Int32} (I : I8 w kc la sp n tf S tn sz P K V dn fb) (hk0 : mkc M = 0) (hav : av.map (rv (sg (ps_xl la sp))) = av2) (hcon : ∀ nm nx U un ub, okY U ub → Con l M av (xl 12 5 nm nx n tf kc (nI tn) (nI sz) S U un ub V dn fb) (fun r u => r = some (.int v) ∧ ∃ nm nx U un ub, okY U ub ∧ u = xl 12 5 nm nx n tf kc (nI tn) (nI sz) S U un ub V dn fb)) : Con l M av2 w (fun r u => r = some (.int v) ∧ I8 u kc la sp n tf S tn sz P K V dn fb ∧ JM w u) := by
  have I0 := I
  obtain ⟨fl, hl, ho, ht, ⟨nm, nx, hr⟩, hc, hi, hro, hno, htr, hk, hw, ⟨U, un, ub, hY, hs⟩⟩ := I
  have h := con_open (ps := ps_xl la sp) (hcon nm nx U un ub hY) hk0 (cut_xl ho hr ht hs hw hno htr.1) (nd_xl fl) (by rintro r u ⟨-, _, _, _, _, _, -, rfl⟩; rfl)
  rw [hav] at h
  refine con_post h ?_
  rintro r u ⟨r1, u1, ⟨rfl, _, _, _, _, _, hY2, hu⟩, rfl, rfl⟩
  exact ⟨rfl, put_xl hY2 I0 hu⟩
theorem oc_xl2 {l : Launch} {M : MC} {av av2 : List Value} {w : List va_E} {v : Int32} {kc : Int32} {la sp n : Nat} {tf : Nat → Int32} {S : ST} {tn sz : Nat} {P K : Nat → ST} {V : WT} {dn : Int32} {fb : Nat → Int32} {PV : WT → Int32 → (Nat → Int32) → Prop} (I : I8 w kc la sp n tf S tn sz P K V dn fb) (hk0 : mkc M = 0) (hav : av.map (rv (sg (ps_xl la sp))) = av2) (hcon : ∀ nm nx U un ub, okY U ub → Con l M av (xl 12 5 nm nx n tf kc (nI tn) (nI sz) S U un ub V dn fb) (fun r u => r = some (.int v) ∧ ∃ nm nx U un ub V2 dn2 fb2, okY V2 fb2 ∧ PV U un ub ∧ u = xl 5 12 nm nx n tf (nI 0) (nI tn) (nI 0) (cyS U un ub) U un ub V2 dn2 fb2)) : Con l M av2 w (fun r u => r = some (.int v) ∧ (∃ U un ub, PV U un ub ∧ I8 u (nI 0) sp la n tf (cyS U un ub) tn 0 P K U un ub) ∧ JM w u) := by
  have I0 := I
  obtain ⟨fl, hl, ho, ht, ⟨nm, nx, hr⟩, hc, hi, hro, hno, htr, hk, hw, ⟨U, un, ub, hY, hs⟩⟩ := I
  have h := con_open (ps := ps_xl la sp) (hcon nm nx U un ub hY) hk0 (cut_xl ho hr ht hs hw hno htr.1) (nd_xl fl) (by rintro r u ⟨-, _, _, _, _, _, _, _, _, -, -, rfl⟩; rfl)
  rw [hav] at h
  refine con_post h ?_
  rintro r u ⟨r1, u1, ⟨rfl, _, _, U2, un2, ub2, _, _, _, hY2, hPV, hu⟩, rfl, rfl⟩
  have := put_xl2 hY2 I0 hu
  exact ⟨rfl, ⟨U2, un2, ub2, hPV, this.1⟩, this.2⟩
abbrev ps_mw : List Nat := [109, 110, 111, 112, 113, 114, 115, 116, 117]
theorem nd_mw : va_nd (ps_mw.take 9) = true := by decide +kernel
theorem no_mw_obj : ([0] : List Nat).all (fun i => !(ps_mw.take 9).contains i) = true := by decide +kernel
theorem no_mw_txt : ([1, 2] : List Nat).all (fun i => !(ps_mw.take 9).contains i) = true := by decide +kernel
theorem no_mw_rdr : ([3, 4] : List Nat).all (fun i => !(ps_mw.take 9).contains i) = true := by decide +kernel
theorem no_mw_clk : ([5, 6, 7, 8] : List Nat).all (fun i => !(ps_mw.take 9).contains i) = true := by decide +kernel
theorem no_mw_tri : ([9, 10, 11, 12, 13, 14, 15, 16, 17] : List Nat).all (fun i => !(ps_mw.take 9).contains i) = true := by decide +kernel
theorem no_mw_ros : ([18, 19, 20, 21, 22, 23, 24, 25, 26, 27, 28, 29, 30, 31, 32, 33, 34, 35, 36, 37, 38, 39, 40, 41, 42, 43, 44, 45, 46, 47] : List Nat).all (fun i => !(ps_mw.take 9).contains i) = true := by decide +kernel
theorem no_mw_now : ([48, 49, 50, 51] : List Nat).all (fun i => !(ps_mw.take 9).contains i) = true := by decide +kernel
theorem no_mw_trl : ([52, 53, 54, 55, 56, 57, 58, 59, 60, 61, 62, 63, 64, 65, 66, 67, 68, 69, 70, 71, 72, 73, 74, 75, 76, 77, 78, 79, 80, 81, 82, 83, 84, 85] : List Nat).all (fun i => !(ps_mw.take 9).contains i) = true := by decide +kernel
theorem no_mw_kep : ([86, 101, 102, 103, 104, 105, 106, 107, 108] : List Nat).all (fun i => !(ps_mw.take 9).contains i) = true := by decide +kernel
theorem no_mw_wal {la sp : Nat} (fl : (la = 87 ∧ sp = 94 ∨ la = 94 ∧ sp = 87)) : (List.range 7).all (fun i => !(ps_mw.take 9).contains (la + i)) = true := by
  rcases fl with ⟨rfl, rfl⟩ | ⟨rfl, rfl⟩ <;> decide +kernel
theorem no_mw_spa {la sp : Nat} (fl : (la = 87 ∧ sp = 94 ∨ la = 94 ∧ sp = 87)) : (List.range 7).all (fun i => !(ps_mw.take 9).contains (sp + i)) = true := by
  rcases fl with ⟨rfl, rfl⟩ | ⟨rfl, rfl⟩ <;> decide +kernel
theorem cut_mw {w : List va_E} {e : MR} {to s : Nat → Int32} (h : bMod w e to s) : (ps_mw.take (mw e to s).length).map (fun i => w[i]?) = (mw e to s).map (fun x => some (ren ps_mw x)) := lcons h.1 (lcons h.2.1 (lcons h.2.2.1 (lcons h.2.2.2.1 (lcons h.2.2.2.2.1 (lcons h.2.2.2.2.2.1 (lcons h.2.2.2.2.2.2.1 (lcons h.2.2.2.2.2.2.2.1 (lcons h.2.2.2.2.2.2.2.2 (rfl)))))))))
theorem put_mw {w u : List va_E} {e : MR} {to s : Nat → Int32} (hl : 117 < w.length) (hu : u = mw e to s) : bMod (putM w ps_mw u) e to s ∧ (putM w ps_mw u).length = w.length ∧ ∀ kc la sp n tf S tn sz P K V dn fb, I8 w kc la sp n tf S tn sz P K V dn fb → I8 (putM w ps_mw u) kc la sp n tf S tn sz P K V dn fb := by
  have hlen : u.length = 9 := by rw [hu]; rfl
  have PP : ∀ (j q : Nat) (y : va_E), (ps_mw.take 9)[j]? = some q → (mw e to s)[j]? = some y → q ≤ 117 → (putM w ps_mw u)[q]? = some (ren ps_mw y) := fun j q y h1 h2 h3 => put_in (w := w) (u := u) (ps := ps_mw) (n := 9) (j := j) (k := q) (y := y) hlen h1 nd_mw (by rw [hu]; exact h2) (Nat.lt_of_le_of_lt h3 hl)
  clear hu
  refine ⟨⟨(PP 0 109 _ rfl rfl (by omega)).trans rfl, (PP 1 110 _ rfl rfl (by omega)).trans rfl, (PP 2 111 _ rfl rfl (by omega)).trans rfl, (PP 3 112 _ rfl rfl (by omega)).trans rfl, (PP 4 113 _ rfl rfl (by omega)).trans rfl, (PP 5 114 _ rfl rfl (by omega)).trans rfl, (PP 6 115 _ rfl rfl (by omega)).trans rfl, (PP 7 116 _ rfl rfl (by omega)).trans rfl, (PP 8 117 _ rfl rfl (by omega)).trans rfl⟩, put_len _ _ _, ?_⟩
  rintro kc la sp n tf S tn sz P K V dn fb ⟨fl, hl, ho, ht, hr, hc, hi, hro, hno, htr, hk, hw, hs⟩
  refine ⟨fl, ?_, oObj hlen no_mw_obj ho, oTxt hlen no_mw_txt ht, oRdr hlen no_mw_rdr hr, oClk hlen no_mw_clk hc, oTri hlen no_mw_tri hi, oRos hlen no_mw_ros hro, oNow hlen no_mw_now hno, oTrl hlen no_mw_trl htr, oKep hlen no_mw_kep hk, wl_out hlen (no_mw_wal fl) hw, oSpa hlen (no_mw_spa fl) hs⟩
  rw [put_len]; exact hl
theorem oc_mw {l : Launch} {M : MC} {av av2 : List Value} {w : List va_E} {v : Option Value} {e e2 : MR} {to s to2 s2 : Nat → Int32} (hm : bMod w e to s) (hk0 : mkc M = 0) (hav : av.map (rv (sg ps_mw)) = av2) (hv : v.map (rv (sg ps_mw)) = v) (hcon : Fn l M av (mw e to s) v (mw e2 to2 s2)) : Con l M av2 w (fun r u => r = v ∧ bMod u e2 to2 s2 ∧ u.length = w.length ∧ ∀ kc la sp n tf S tn sz P K V dn fb, I8 w kc la sp n tf S tn sz P K V dn fb → I8 u kc la sp n tf S tn sz P K V dn fb) := by
  have hl : 117 < w.length := (List.getElem?_eq_some_iff.mp hm.2.2.2.2.2.2.2.2).1
  have h := con_open (ps := ps_mw) hcon hk0 (cut_mw hm) nd_mw (by rintro r u ⟨-, rfl⟩; rfl)
  rw [hav] at h
  refine con_post h ?_
  rintro r u ⟨r1, u1, ⟨rfl, hu⟩, rfl, rfl⟩
  exact ⟨hv, put_mw hl hu⟩

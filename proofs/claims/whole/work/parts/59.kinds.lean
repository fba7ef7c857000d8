/-! 59.kinds: the other kinds of call in the open world -/
theorem c8 {Q : Nat → Prop} (h0 : Q 0) (h1 : Q 1) (h2 : Q 2) (h3 : Q 3) (h4 : Q 4) (h5 : Q 5) (h6 : Q 6) (h7 : Q 7) {i : Nat} (hi : i < 8) : Q i := by
  rcases (show i = 0 ∨ i = 1 ∨ i = 2 ∨ i = 3 ∨ i = 4 ∨ i = 5 ∨ i = 6 ∨ i = 7 by omega) with rfl | rfl | rfl | rfl | rfl | rfl | rfl | rfl <;> assumption
abbrev ps_xb (la sp k : Nat) : List Nat := [0, 52, 48, 49, 50, 51, la, la + 1, la + 2, la + 3, la + 4, la + 5, la + 6, 5, 6, 7, 8, 53, 54 + 4 * k, 54 + 4 * k + 1, 54 + 4 * k + 2, 54 + 4 * k + 3, 1, 3, 9, 18, 86, sp, 54, 58, 62, 66, 70, 74, 78, 82]
theorem nd_xb {la sp k : Nat} (fl : (la = 87 ∧ sp = 94 ∨ la = 94 ∧ sp = 87)) (hk8 : k < 8) : va_nd ((ps_xb la sp k).take 22) = true := by
  rcases fl with ⟨rfl, rfl⟩ | ⟨rfl, rfl⟩ <;> (rcases (show k = 0 ∨ k = 1 ∨ k = 2 ∨ k = 3 ∨ k = 4 ∨ k = 5 ∨ k = 6 ∨ k = 7  by omega) with rfl | rfl | rfl | rfl | rfl | rfl | rfl | rfl <;> decide +kernel)
theorem cut_xb {w : List va_E} {la sp k : Nat} (hk8 : k < 8) {T : ST} {rb lb pb : Nat → Int32} {kc : Int32} {tn sz : Nat} {S : ST} {V : WT} {dn : Int32} {fb : Nat → Int32} (h0 : bObj w kc la sp) (h1 : w[52]? = some (.inr (5, [.ref 53, .int (nI tn), .int (nI sz)]))) (h2 : stF w 48 S) (h3 : wlF w la V dn fb) (h4 : coF w 5 rb lb pb) (h5 : w[53]? = some (sarr 54 8)) (h6 : stF w (54 + 4 * k) T) : ((ps_xb la sp k).take (xb kc (nI tn) (nI sz) k T S V dn fb rb lb pb).length).map (fun i => w[i]?) = (xb kc (nI tn) (nI sz) k T S V dn fb rb lb pb).map (fun x => some (ren (ps_xb la sp k) x)) := lcons h0 (lcons h1 (lcons h2.1 (lcons h2.2.1 (lcons h2.2.2.1 (lcons h2.2.2.2 (lcons h3.1 (lcons h3.2.1 (lcons h3.2.2.1 (lcons h3.2.2.2.1 (lcons h3.2.2.2.2.1 (lcons h3.2.2.2.2.2.1 (lcons h3.2.2.2.2.2.2 (lcons h4.1 (lcons h4.2.1 (lcons h4.2.2.1 (lcons h4.2.2.2 (lcons (h5.trans (congrArg some (ren_rarr_s hk8 rfl (fun i hi => c8 (Q := fun i => sg (ps_xb la sp k) (28 + i) = 54 + 4 * i) rfl rfl rfl rfl rfl rfl rfl rfl hi)).symm)) (lcons h6.1 (lcons h6.2.1 (lcons h6.2.2.1 (lcons h6.2.2.2 (rfl))))))))))))))))))))))
theorem no_xb_txt {la sp k : Nat} (fl : (la = 87 ∧ sp = 94 ∨ la = 94 ∧ sp = 87)) (hk8 : k < 8) : ([1, 2] : List Nat).all (fun i => !((ps_xb la sp k).take 22).contains i) = true := by
  rcases fl with ⟨rfl, rfl⟩ | ⟨rfl, rfl⟩ <;> (rcases (show k = 0 ∨ k = 1 ∨ k = 2 ∨ k = 3 ∨ k = 4 ∨ k = 5 ∨ k = 6 ∨ k = 7  by omega) with rfl | rfl | rfl | rfl | rfl | rfl | rfl | rfl <;> decide +kernel)
theorem no_xb_rdr {la sp k : Nat} (fl : (la = 87 ∧ sp = 94 ∨ la = 94 ∧ sp = 87)) (hk8 : k < 8) : ([3, 4] : List Nat).all (fun i => !((ps_xb la sp k).take 22).contains i) = true := by
  rcases fl with ⟨rfl, rfl⟩ | ⟨rfl, rfl⟩ <;> (rcases (show k = 0 ∨ k = 1 ∨ k = 2 ∨ k = 3 ∨ k = 4 ∨ k = 5 ∨ k = 6 ∨ k = 7  by omega) with rfl | rfl | rfl | rfl | rfl | rfl | rfl | rfl <;> decide +kernel)
theorem no_xb_tri {la sp k : Nat} (fl : (la = 87 ∧ sp = 94 ∨ la = 94 ∧ sp = 87)) (hk8 : k < 8) : ([9, 10, 11, 12, 13, 14, 15, 16, 17] : List Nat).all (fun i => !((ps_xb la sp k).take 22).contains i) = true := by
  rcases fl with ⟨rfl, rfl⟩ | ⟨rfl, rfl⟩ <;> (rcases (show k = 0 ∨ k = 1 ∨ k = 2 ∨ k = 3 ∨ k = 4 ∨ k = 5 ∨ k = 6 ∨ k = 7  by omega) with rfl | rfl | rfl | rfl | rfl | rfl | rfl | rfl <;> decide +kernel)
theorem no_xb_ros {la sp k : Nat} (fl : (la = 87 ∧ sp = 94 ∨ la = 94 ∧ sp = 87)) (hk8 : k < 8) : ([18, 19, 20, 21, 22, 23, 24, 25, 26, 27, 28, 29, 30, 31, 32, 33, 34, 35, 36, 37, 38, 39, 40, 41, 42, 43, 44, 45, 46, 47] : List Nat).all (fun i => !((ps_xb la sp k).take 22).contains i) = true := by
  rcases fl with ⟨rfl, rfl⟩ | ⟨rfl, rfl⟩ <;> (rcases (show k = 0 ∨ k = 1 ∨ k = 2 ∨ k = 3 ∨ k = 4 ∨ k = 5 ∨ k = 6 ∨ k = 7  by omega) with rfl | rfl | rfl | rfl | rfl | rfl | rfl | rfl <;> decide +kernel)
theorem no_xb_kep {la sp k : Nat} (fl : (la = 87 ∧ sp = 94 ∨ la = 94 ∧ sp = 87)) (hk8 : k < 8) : ([86, 101, 102, 103, 104, 105, 106, 107, 108] : List Nat).all (fun i => !((ps_xb la sp k).take 22).contains i) = true := by
  rcases fl with ⟨rfl, rfl⟩ | ⟨rfl, rfl⟩ <;> (rcases (show k = 0 ∨ k = 1 ∨ k = 2 ∨ k = 3 ∨ k = 4 ∨ k = 5 ∨ k = 6 ∨ k = 7  by omega) with rfl | rfl | rfl | rfl | rfl | rfl | rfl | rfl <;> decide +kernel)
theorem no_xb_spa {la sp k : Nat} (fl : (la = 87 ∧ sp = 94 ∨ la = 94 ∧ sp = 87)) (hk8 : k < 8) : (List.range 7).all (fun i => !((ps_xb la sp k).take 22).contains (sp + i)) = true := by
  rcases fl with ⟨rfl, rfl⟩ | ⟨rfl, rfl⟩ <;> (rcases (show k = 0 ∨ k = 1 ∨ k = 2 ∨ k = 3 ∨ k = 4 ∨ k = 5 ∨ k = 6 ∨ k = 7  by omega) with rfl | rfl | rfl | rfl | rfl | rfl | rfl | rfl <;> decide +kernel)
theorem no_xb_mod {la sp k : Nat} (fl : (la = 87 ∧ sp = 94 ∨ la = 94 ∧ sp = 87)) (hk8 : k < 8) : ([109, 110, 111, 112, 113, 114, 115, 116, 117] : List Nat).all (fun i => !((ps_xb la sp k).take 22).contains i) = true := by
  rcases fl with ⟨rfl, rfl⟩ | ⟨rfl, rfl⟩ <;> (rcases (show k = 0 ∨ k = 1 ∨ k = 2 ∨ k = 3 ∨ k = 4 ∨ k = 5 ∨ k = 6 ∨ k = 7  by omega) with rfl | rfl | rfl | rfl | rfl | rfl | rfl | rfl <;> decide +kernel)
theorem no_xb_trl {la sp k i : Nat} (fl : (la = 87 ∧ sp = 94 ∨ la = 94 ∧ sp = 87)) (hk8 : k < 8) (hi : i < 8) (h : ¬ i = k) : (List.range 4).all (fun j => !((ps_xb la sp k).take 22).contains (54 + 4 * i + j)) = true := by
  rcases fl with ⟨rfl, rfl⟩ | ⟨rfl, rfl⟩
  · have : ∀ k, k < 8 → ∀ i, i < 8 → ¬ i = k → (List.range 4).all (fun j => !((ps_xb 87 94 k).take 22).contains (54 + 4 * i + j)) = true := by decide +kernel
    exact this k hk8 i hi h
  · have : ∀ k, k < 8 → ∀ i, i < 8 → ¬ i = k → (List.range 4).all (fun j => !((ps_xb 94 87 k).take 22).contains (54 + 4 * i + j)) = true := by decide +kernel
    exact this k hk8 i hi h
set_option maxRecDepth 20000 in
theorem put_xb {w u : List va_E} {kc : Int32} {la sp n : Nat} {tf : Nat → Int32} {S : ST} {tn sz : Nat} {P K : Nat → ST} {V : WT} {dn : Int32} {fb : Nat → Int32} {k : Nat} (hk8 : k < 8) {T2 S2 : ST} {tn2 sz2 : Nat} {rb lb pb : Nat → Int32}  (I : I8 w kc la sp n tf S tn sz P K V dn fb) (hu : u = xb kc (nI tn2) (nI sz2) k T2 S2 V dn fb rb lb pb) : I8 (putM w (ps_xb la sp k) u) kc la sp n tf S2 tn2 sz2 (pu P k T2) K V dn fb ∧ JM w (putM w (ps_xb la sp k) u) := by
  obtain ⟨fl, hl, ho, ht, hr, hc, hi, hro, hno, htr, hk, hw, hs⟩ := I
  have hlen : u.length = 22 := by rw [hu]; rfl
  have PP : ∀ (j q : Nat) (y : va_E), ((ps_xb la sp k).take 22)[j]? = some q → (xb kc (nI tn2) (nI sz2) k T2 S2 V dn fb rb lb pb)[j]? = some y → q < 109 → (putM w (ps_xb la sp k) u)[q]? = some (ren (ps_xb la sp k) y) := fun j q y h1 h2 h3 => put_in (w := w) (u := u) (ps := ps_xb la sp k) (n := 22) (j := j) (k := q) (y := y) hlen h1 (nd_xb fl hk8) (by rw [hu]; exact h2) (Nat.lt_of_lt_of_le h3 hl)
  clear hu
  refine ⟨⟨fl, ?_, ?_, ?_, ?_, ?_, ?_, ?_, ?_, ?_, ?_, ?_, ?_⟩, fun e to s hm => oMod hlen (no_xb_mod fl hk8) hm, put_len _ _ _⟩
  · rw [put_len]; exact hl
  · exact (PP 0 (0) _ rfl rfl (by omega)).trans rfl
  · exact oTxt hlen (no_xb_txt fl hk8) ht
  · exact oRdr hlen (no_xb_rdr fl hk8) hr
  · exact ⟨rb, lb, pb, ⟨(PP 13 (5) _ rfl rfl (by omega)).trans rfl, (PP 14 (6) _ rfl rfl (by omega)).trans rfl, (PP 15 (7) _ rfl rfl (by omega)).trans rfl, (PP 16 (8) _ rfl rfl (by omega)).trans rfl⟩⟩
  · exact oTri hlen (no_xb_tri fl hk8) hi
  · exact oRos hlen (no_xb_ros fl hk8) hro
  · exact ⟨(PP 2 (48) _ rfl rfl (by omega)).trans rfl, (PP 3 (49) _ rfl rfl (by omega)).trans rfl, (PP 4 (50) _ rfl rfl (by omega)).trans rfl, (PP 5 (51) _ rfl rfl (by omega)).trans rfl⟩
  · refine ⟨(PP 1 (52) _ rfl rfl (by omega)).trans rfl, (PP 17 53 _ rfl rfl (by omega)).trans (congrArg some (ren_rarr_s hk8 rfl (fun i hi => c8 (Q := fun i => sg (ps_xb la sp k) (28 + i) = 54 + 4 * i) rfl rfl rfl rfl rfl rfl rfl rfl hi))), fun i hi => ?_⟩
    by_cases hik : i = k
    · subst hik
      rw [pu_at]
      exact ⟨(PP 18 (54 + 4 * i) _ rfl rfl (by omega)).trans rfl, (PP 19 (54 + 4 * i + 1) _ rfl rfl (by omega)).trans rfl, (PP 20 (54 + 4 * i + 2) _ rfl rfl (by omega)).trans rfl, (PP 21 (54 + 4 * i + 3) _ rfl rfl (by omega)).trans rfl⟩
    · rw [pu_ne _ _ _ _ hik]
      exact st_out hlen (no_xb_trl fl hk8 hi hik) (htr.2.2 i hi)
  · exact oKep hlen (no_xb_kep fl hk8) hk
  · exact ⟨(PP 6 (la) _ rfl rfl (by omega)).trans rfl, (PP 7 (la + 1) _ rfl rfl (by omega)).trans rfl, (PP 8 (la + 2) _ rfl rfl (by omega)).trans rfl, (PP 9 (la + 3) _ rfl rfl (by omega)).trans rfl, (PP 10 (la + 4) _ rfl rfl (by omega)).trans rfl, (PP 11 (la + 5) _ rfl rfl (by omega)).trans rfl, (PP 12 (la + 6) _ rfl rfl (by omega)).trans rfl⟩
  · exact oSpa hlen (no_xb_spa fl hk8) hs
theorem oc_xb {l : Launch} {M : MC} {av av2 : List Value} {w : List va_E} {v : Int32} {kc : Int32} {la sp n : Nat} {tf : Nat → Int32} {S : ST} {tn sz : Nat} {P K : Nat → ST} {V : WT} {dn : Int32} {fb : Nat → Int32} {T2 S2 : ST} {tn2 sz2 : Nat} {k : Nat} (hk8 : k < 8) (I : I8 w kc la sp n tf S tn sz P K V dn fb) (hk0 : mkc M = 0) (hav : av.map (rv (sg (ps_xb la sp k))) = av2) (hcon : ∀ rb lb pb, Con l M av (xb kc (nI tn) (nI sz) k (P k) S V dn fb rb lb pb) (fun r u => r = some (.int v) ∧ ∃ rb lb pb, u = xb kc (nI tn2) (nI sz2) k T2 S2 V dn fb rb lb pb)) : Con l M av2 w (fun r u => r = some (.int v) ∧ I8 u kc la sp n tf S2 tn2 sz2 (pu P k T2) K V dn fb ∧ JM w u) := by
  have I0 := I
  obtain ⟨fl, hl, ho, ht, hr, ⟨rb, lb, pb, hc⟩, hi, hro, hno, htr, hk, hw, hs⟩ := I
  have h := con_open (ps := ps_xb la sp k) (hcon rb lb pb) hk0 (cut_xb hk8 ho htr.1 hno hw hc htr.2.1 (htr.2.2 k hk8)) (nd_xb fl hk8) (by rintro r u ⟨-, _, _, _, rfl⟩; rfl)
  rw [hav] at h
  refine con_post h ?_
  rintro r u ⟨r1, u1, ⟨rfl, _, _, _, hu⟩, rfl, rfl⟩
  exact ⟨rfl, put_xb hk8 I0 hu⟩
abbrev ps_xc (la sp : Nat) : List Nat := [0, la, la + 1, la + 2, la + 3, la + 4, la + 5, la + 6, 48, 49, 50, 51, 5, 6, 7, 8, 52, 1, 3, 9, 18, 86, sp, 53, 2]
theorem nd_xc {la sp : Nat} (fl : (la = 87 ∧ sp = 94 ∨ la = 94 ∧ sp = 87)) : va_nd ((ps_xc la sp).take 18) = true := by
  rcases fl with ⟨rfl, rfl⟩ | ⟨rfl, rfl⟩ <;> decide +kernel
theorem cut_xc {w : List va_E} {la sp : Nat} {rb lb pb : Nat → Int32} {kc : Int32} {tn sz n : Nat} {S : ST} {V : WT} {dn : Int32} {fb : Nat → Int32} (h0 : bObj w kc la sp) (h3 : wlF w la V dn fb) (h2 : stF w 48 S) (h4 : coF w 5 rb lb pb) (h1 : w[52]? = some (.inr (5, [.ref 53, .int (nI tn), .int (nI sz)]))) (h6 : w[1]? = some (.inr (4, [.ref 2, .int (nI n)]))) : ((ps_xc la sp).take (xc kc (nI tn) (nI sz) (nI n) S V dn fb rb lb pb).length).map (fun i => w[i]?) = (xc kc (nI tn) (nI sz) (nI n) S V dn fb rb lb pb).map (fun x => some (ren (ps_xc la sp) x)) := lcons h0 (lcons h3.1 (lcons h3.2.1 (lcons h3.2.2.1 (lcons h3.2.2.2.1 (lcons h3.2.2.2.2.1 (lcons h3.2.2.2.2.2.1 (lcons h3.2.2.2.2.2.2 (lcons h2.1 (lcons h2.2.1 (lcons h2.2.2.1 (lcons h2.2.2.2 (lcons h4.1 (lcons h4.2.1 (lcons h4.2.2.1 (lcons h4.2.2.2 (lcons h1 (lcons h6 (rfl))))))))))))))))))
theorem no_xc_rdr {la sp : Nat} (fl : (la = 87 ∧ sp = 94 ∨ la = 94 ∧ sp = 87)) : ([3, 4] : List Nat).all (fun i => !((ps_xc la sp).take 18).contains i) = true := by
  rcases fl with ⟨rfl, rfl⟩ | ⟨rfl, rfl⟩ <;> decide +kernel
theorem no_xc_tri {la sp : Nat} (fl : (la = 87 ∧ sp = 94 ∨ la = 94 ∧ sp = 87)) : ([9, 10, 11, 12, 13, 14, 15, 16, 17] : List Nat).all (fun i => !((ps_xc la sp).take 18).contains i) = true := by
  rcases fl with ⟨rfl, rfl⟩ | ⟨rfl, rfl⟩ <;> decide +kernel
theorem no_xc_ros {la sp : Nat} (fl : (la = 87 ∧ sp = 94 ∨ la = 94 ∧ sp = 87)) : ([18, 19, 20, 21, 22, 23, 24, 25, 26, 27, 28, 29, 30, 31, 32, 33, 34, 35, 36, 37, 38, 39, 40, 41, 42, 43, 44, 45, 46, 47] : List Nat).all (fun i => !((ps_xc la sp).take 18).contains i) = true := by
  rcases fl with ⟨rfl, rfl⟩ | ⟨rfl, rfl⟩ <;> decide +kernel
theorem no_xc_kep {la sp : Nat} (fl : (la = 87 ∧ sp = 94 ∨ la = 94 ∧ sp = 87)) : ([86, 101, 102, 103, 104, 105, 106, 107, 108] : List Nat).all (fun i => !((ps_xc la sp).take 18).contains i) = true := by
  rcases fl with ⟨rfl, rfl⟩ | ⟨rfl, rfl⟩ <;> decide +kernel
theorem no_xc_spa {la sp : Nat} (fl : (la = 87 ∧ sp = 94 ∨ la = 94 ∧ sp = 87)) : (List.range 7).all (fun i => !((ps_xc la sp).take 18).contains (sp + i)) = true := by
  rcases fl with ⟨rfl, rfl⟩ | ⟨rfl, rfl⟩ <;> decide +kernel
theorem no_xc_mod {la sp : Nat} (fl : (la = 87 ∧ sp = 94 ∨ la = 94 ∧ sp = 87)) : ([109, 110, 111, 112, 113, 114, 115, 116, 117] : List Nat).all (fun i => !((ps_xc la sp).take 18).contains i) = true := by
  rcases fl with ⟨rfl, rfl⟩ | ⟨rfl, rfl⟩ <;> decide +kernel
theorem no_xc_t2 {la sp : Nat} (fl : (la = 87 ∧ sp = 94 ∨ la = 94 ∧ sp = 87)) : ((ps_xc la sp).take 18).contains 2 = false := by
  rcases fl with ⟨rfl, rfl⟩ | ⟨rfl, rfl⟩ <;> decide +kernel
theorem no_xc_r {la sp : Nat} (fl : (la = 87 ∧ sp = 94 ∨ la = 94 ∧ sp = 87)) : ((ps_xc la sp).take 18).contains 53 = false := by
  rcases fl with ⟨rfl, rfl⟩ | ⟨rfl, rfl⟩ <;> decide +kernel
theorem no_xc_trl {la sp i : Nat} (fl : (la = 87 ∧ sp = 94 ∨ la = 94 ∧ sp = 87)) (hi : i < 8) : (List.range 4).all (fun j => !((ps_xc la sp).take 18).contains (54 + 4 * i + j)) = true := by
  rcases fl with ⟨rfl, rfl⟩ | ⟨rfl, rfl⟩
  · have : ∀ i, i < 8 → (List.range 4).all (fun j => !((ps_xc 87 94).take 18).contains (54 + 4 * i + j)) = true := by decide +kernel
    exact this i hi
  · have : ∀ i, i < 8 → (List.range 4).all (fun j => !((ps_xc 94 87).take 18).contains (54 + 4 * i + j)) = true := by decide +kernel
    exact this i hi
set_option maxRecDepth 20000 in
theorem put_xc {w u : List va_E} {kc : Int32} {la sp n : Nat} {tf : Nat → Int32} {S : ST} {tn sz : Nat} {P K : Nat → ST} {V : WT} {dn : Int32} {fb : Nat → Int32} {rb lb pb : Nat → Int32}  (I : I8 w kc la sp n tf S tn sz P K V dn fb) (hu : u = xc kc (nI tn) (nI sz) (nI n) S V dn fb rb lb pb) : I8 (putM w (ps_xc la sp) u) kc la sp n tf S tn sz P K V dn fb ∧ JM w (putM w (ps_xc la sp) u) := by
  obtain ⟨fl, hl, ho, ht, hr, hc, hi, hro, hno, htr, hk, hw, hs⟩ := I
  have hlen : u.length = 18 := by rw [hu]; rfl
  have PP : ∀ (j q : Nat) (y : va_E), ((ps_xc la sp).take 18)[j]? = some q → (xc kc (nI tn) (nI sz) (nI n) S V dn fb rb lb pb)[j]? = some y → q < 109 → (putM w (ps_xc la sp) u)[q]? = some (ren (ps_xc la sp) y) := fun j q y h1 h2 h3 => put_in (w := w) (u := u) (ps := ps_xc la sp) (n := 18) (j := j) (k := q) (y := y) hlen h1 (nd_xc fl) (by rw [hu]; exact h2) (Nat.lt_of_lt_of_le h3 hl)
  clear hu
  refine ⟨⟨fl, ?_, ?_, ?_, ?_, ?_, ?_, ?_, ?_, ?_, ?_, ?_, ?_⟩, fun e to s hm => oMod hlen (no_xc_mod fl) hm, put_len _ _ _⟩
  · rw [put_len]; exact hl
  · exact (PP 0 (0) _ rfl rfl (by omega)).trans rfl
  · exact ⟨(PP 17 (1) _ rfl rfl (by omega)).trans rfl, (put_out hlen (no_xc_t2 fl)).trans ht.2⟩
  · exact oRdr hlen (no_xc_rdr fl) hr
  · exact ⟨rb, lb, pb, ⟨(PP 12 (5) _ rfl rfl (by omega)).trans rfl, (PP 13 (6) _ rfl rfl (by omega)).trans rfl, (PP 14 (7) _ rfl rfl (by omega)).trans rfl, (PP 15 (8) _ rfl rfl (by omega)).trans rfl⟩⟩
  · exact oTri hlen (no_xc_tri fl) hi
  · exact oRos hlen (no_xc_ros fl) hro
  · exact ⟨(PP 8 (48) _ rfl rfl (by omega)).trans rfl, (PP 9 (49) _ rfl rfl (by omega)).trans rfl, (PP 10 (50) _ rfl rfl (by omega)).trans rfl, (PP 11 (51) _ rfl rfl (by omega)).trans rfl⟩
  · exact ⟨(PP 16 (52) _ rfl rfl (by omega)).trans rfl, (put_out hlen (no_xc_r fl)).trans htr.2.1, fun i hi => st_out hlen (no_xc_trl fl hi) (htr.2.2 i hi)⟩
  · exact oKep hlen (no_xc_kep fl) hk
  · exact ⟨(PP 1 (la) _ rfl rfl (by omega)).trans rfl, (PP 2 (la + 1) _ rfl rfl (by omega)).trans rfl, (PP 3 (la + 2) _ rfl rfl (by omega)).trans rfl, (PP 4 (la + 3) _ rfl rfl (by omega)).trans rfl, (PP 5 (la + 4) _ rfl rfl (by omega)).trans rfl, (PP 6 (la + 5) _ rfl rfl (by omega)).trans rfl, (PP 7 (la + 6) _ rfl rfl (by omega)).trans rfl⟩
  · exact oSpa hlen (no_xc_spa fl) hs
theorem oc_xc {l : Launch} {M : MC} {av av2 : List Value} {w : List va_E} {v : Int32} {kc : Int32} {la sp n : Nat} {tf : Nat → Int32} {S : ST} {tn sz : Nat} {P K : Nat → ST} {V : WT} {dn : Int32} {fb : Nat → Int32} (I : I8 w kc la sp n tf S tn sz P K V dn fb) (hk0 : mkc M = 0) (hav : av.map (rv (sg (ps_xc la sp))) = av2) (hcon : ∀ rb lb pb, Con l M av (xc kc (nI tn) (nI sz) (nI n) S V dn fb rb lb pb) (fun r u => r = some (.int v) ∧ ∃ rb lb pb, u = xc kc (nI tn) (nI sz) (nI n) S V dn fb rb lb pb)) : Con l M av2 w (fun r u => r = some (.int v) ∧ I8 u kc la sp n tf S tn sz P K V dn fb ∧ JM w u) := by
  have I0 := I
  obtain ⟨fl, hl, ho, ht, hr, ⟨rb, lb, pb, hc⟩, hi, hro, hno, htr, hk, hw, hs⟩ := I
  have h := con_open (ps := ps_xc la sp) (hcon rb lb pb) hk0 (cut_xc ho hw hno hc htr.1 ht.1) (nd_xc fl) (by rintro r u ⟨-, _, _, _, rfl⟩; rfl)
  rw [hav] at h
  refine con_post h ?_
  rintro r u ⟨r1, u1, ⟨rfl, _, _, _, hu⟩, rfl, rfl⟩
  exact ⟨rfl, put_xc I0 hu⟩
abbrev ps_xt (la sp : Nat) : List Nat := [0, 1, 2, 3, 5, 9, 18, 48, 52, 86, la, sp]
theorem nd_xt {la sp : Nat} (fl : (la = 87 ∧ sp = 94 ∨ la = 94 ∧ sp = 87)) : va_nd ((ps_xt la sp).take 3) = true := by
  rcases fl with ⟨rfl, rfl⟩ | ⟨rfl, rfl⟩ <;> decide +kernel
theorem cut_xt {w : List va_E} {la sp : Nat} {kc : Int32} {n : Nat} {tf : Nat → Int32} (h0 : bObj w kc la sp) (h1 : bTxt w n tf) : ((ps_xt la sp).take (xt kc n tf).length).map (fun i => w[i]?) = (xt kc n tf).map (fun x => some (ren (ps_xt la sp) x)) := lcons h0 (lcons h1.1 (lcons h1.2 (rfl)))
theorem no_xt_rdr {la sp : Nat} (fl : (la = 87 ∧ sp = 94 ∨ la = 94 ∧ sp = 87)) : ([3, 4] : List Nat).all (fun i => !((ps_xt la sp).take 3).contains i) = true := by
  rcases fl with ⟨rfl, rfl⟩ | ⟨rfl, rfl⟩ <;> decide +kernel
theorem no_xt_clk {la sp : Nat} (fl : (la = 87 ∧ sp = 94 ∨ la = 94 ∧ sp = 87)) : ([5, 6, 7, 8] : List Nat).all (fun i => !((ps_xt la sp).take 3).contains i) = true := by
  rcases fl with ⟨rfl, rfl⟩ | ⟨rfl, rfl⟩ <;> decide +kernel
theorem no_xt_tri {la sp : Nat} (fl : (la = 87 ∧ sp = 94 ∨ la = 94 ∧ sp = 87)) : ([9, 10, 11, 12, 13, 14, 15, 16, 17] : List Nat).all (fun i => !((ps_xt la sp).take 3).contains i) = true := by
  rcases fl with ⟨rfl, rfl⟩ | ⟨rfl, rfl⟩ <;> decide +kernel
theorem no_xt_ros {la sp : Nat} (fl : (la = 87 ∧ sp = 94 ∨ la = 94 ∧ sp = 87)) : ([18, 19, 20, 21, 22, 23, 24, 25, 26, 27, 28, 29, 30, 31, 32, 33, 34, 35, 36, 37, 38, 39, 40, 41, 42, 43, 44, 45, 46, 47] : List Nat).all (fun i => !((ps_xt la sp).take 3).contains i) = true := by
  rcases fl with ⟨rfl, rfl⟩ | ⟨rfl, rfl⟩ <;> decide +kernel
theorem no_xt_now {la sp : Nat} (fl : (la = 87 ∧ sp = 94 ∨ la = 94 ∧ sp = 87)) : ([48, 49, 50, 51] : List Nat).all (fun i => !((ps_xt la sp).take 3).contains i) = true := by
  rcases fl with ⟨rfl, rfl⟩ | ⟨rfl, rfl⟩ <;> decide +kernel
theorem no_xt_trl {la sp : Nat} (fl : (la = 87 ∧ sp = 94 ∨ la = 94 ∧ sp = 87)) : ([52, 53, 54, 55, 56, 57, 58, 59, 60, 61, 62, 63, 64, 65, 66, 67, 68, 69, 70, 71, 72, 73, 74, 75, 76, 77, 78, 79, 80, 81, 82, 83, 84, 85] : List Nat).all (fun i => !((ps_xt la sp).take 3).contains i) = true := by
  rcases fl with ⟨rfl, rfl⟩ | ⟨rfl, rfl⟩ <;> decide +kernel
theorem no_xt_kep {la sp : Nat} (fl : (la = 87 ∧ sp = 94 ∨ la = 94 ∧ sp = 87)) : ([86, 101, 102, 103, 104, 105, 106, 107, 108] : List Nat).all (fun i => !((ps_xt la sp).take 3).contains i) = true := by
  rcases fl with ⟨rfl, rfl⟩ | ⟨rfl, rfl⟩ <;> decide +kernel
theorem no_xt_wal {la sp : Nat} (fl : (la = 87 ∧ sp = 94 ∨ la = 94 ∧ sp = 87)) : (List.range 7).all (fun i => !((ps_xt la sp).take 3).contains (la + i)) = true := by
  rcases fl with ⟨rfl, rfl⟩ | ⟨rfl, rfl⟩ <;> decide +kernel
theorem no_xt_spa {la sp : Nat} (fl : (la = 87 ∧ sp = 94 ∨ la = 94 ∧ sp = 87)) : (List.range 7).all (fun i => !((ps_xt la sp).take 3).contains (sp + i)) = true := by
  rcases fl with ⟨rfl, rfl⟩ | ⟨rfl, rfl⟩ <;> decide +kernel
theorem no_xt_mod {la sp : Nat} (fl : (la = 87 ∧ sp = 94 ∨ la = 94 ∧ sp = 87)) : ([109, 110, 111, 112, 113, 114, 115, 116, 117] : List Nat).all (fun i => !((ps_xt la sp).take 3).contains i) = true := by
  rcases fl with ⟨rfl, rfl⟩ | ⟨rfl, rfl⟩ <;> decide +kernel
set_option maxRecDepth 20000 in
theorem put_xt {w u : List va_E} {kc : Int32} {la sp n : Nat} {tf : Nat → Int32} {S : ST} {tn sz : Nat} {P K : Nat → ST} {V : WT} {dn : Int32} {fb : Nat → Int32} {n2 : Nat} {tf2 : Nat → Int32}  (I : I8 w kc la sp n tf S tn sz P K V dn fb) (hu : u = xt kc n2 tf2) : I8 (putM w (ps_xt la sp) u) kc la sp n2 tf2 S tn sz P K V dn fb ∧ JM w (putM w (ps_xt la sp) u) := by
  obtain ⟨fl, hl, ho, ht, hr, hc, hi, hro, hno, htr, hk, hw, hs⟩ := I
  have hlen : u.length = 3 := by rw [hu]; rfl
  have PP : ∀ (j q : Nat) (y : va_E), ((ps_xt la sp).take 3)[j]? = some q → (xt kc n2 tf2)[j]? = some y → q < 109 → (putM w (ps_xt la sp) u)[q]? = some (ren (ps_xt la sp) y) := fun j q y h1 h2 h3 => put_in (w := w) (u := u) (ps := ps_xt la sp) (n := 3) (j := j) (k := q) (y := y) hlen h1 (nd_xt fl) (by rw [hu]; exact h2) (Nat.lt_of_lt_of_le h3 hl)
  clear hu
  refine ⟨⟨fl, ?_, ?_, ?_, ?_, ?_, ?_, ?_, ?_, ?_, ?_, ?_, ?_⟩, fun e to s hm => oMod hlen (no_xt_mod fl) hm, put_len _ _ _⟩
  · rw [put_len]; exact hl
  · exact (PP 0 (0) _ rfl rfl (by omega)).trans rfl
  · exact ⟨(PP 1 (1) _ rfl rfl (by omega)).trans rfl, (PP 2 (2) _ rfl rfl (by omega)).trans rfl⟩
  · exact oRdr hlen (no_xt_rdr fl) hr
  · exact oClk hlen (no_xt_clk fl) hc
  · exact oTri hlen (no_xt_tri fl) hi
  · exact oRos hlen (no_xt_ros fl) hro
  · exact oNow hlen (no_xt_now fl) hno
  · exact oTrl hlen (no_xt_trl fl) htr
  · exact oKep hlen (no_xt_kep fl) hk
  · exact wl_out hlen (no_xt_wal fl) hw
  · exact oSpa hlen (no_xt_spa fl) hs
theorem oc_xt {l : Launch} {M : MC} {av av2 : List Value} {w : List va_E} {v : Int32} {kc : Int32} {la sp n : Nat} {tf : Nat → Int32} {S : ST} {tn sz : Nat} {P K : Nat → ST} {V : WT} {dn : Int32} {fb : Nat → Int32} {n2 : Nat} {tf2 : Nat → Int32} (I : I8 w kc la sp n tf S tn sz P K V dn fb) (hk0 : mkc M = 0) (hav : av.map (rv (sg (ps_xt la sp))) = av2) (hcon : Con l M av (xt kc n tf) (fun r u => r = some (.int v) ∧ u = xt kc n2 tf2)) : Con l M av2 w (fun r u => r = some (.int v) ∧ I8 u kc la sp n2 tf2 S tn sz P K V dn fb ∧ JM w u) := by
  have I0 := I
  obtain ⟨fl, hl, ho, ht, hr, hc, hi, hro, hno, htr, hk, hw, hs⟩ := I
  have h := con_open (ps := ps_xt la sp) hcon hk0 (cut_xt ho ht) (nd_xt fl) (by rintro r u ⟨-, rfl⟩; rfl)
  rw [hav] at h
  refine con_post h ?_
  rintro r u ⟨r1, u1, ⟨rfl, hu⟩, rfl, rfl⟩
  exact ⟨rfl, put_xt I0 hu⟩
abbrev ps_xk (la sp : Nat) : List Nat := [0, 86, 101, 102, 103, 104, 105, 106, 107, 108, 48, 49, 50, 51, 52, 1, 3, 5, 9, 18, la, sp, 53]
theorem nd_xk {la sp : Nat} (fl : (la = 87 ∧ sp = 94 ∨ la = 94 ∧ sp = 87)) : va_nd ((ps_xk la sp).take 15) = true := by
  rcases fl with ⟨rfl, rfl⟩ | ⟨rfl, rfl⟩ <;> decide +kernel
theorem cut_xk {w : List va_E} {la sp : Nat} {kc : Int32} {tn sz : Nat} {K : Nat → ST} {S : ST} (h0 : bObj w kc la sp) (h1 : bKep w K) (h2 : stF w 48 S) (h3 : w[52]? = some (.inr (5, [.ref 53, .int (nI tn), .int (nI sz)]))) : ((ps_xk la sp).take (xk kc (nI tn) (nI sz) K S).length).map (fun i => w[i]?) = (xk kc (nI tn) (nI sz) K S).map (fun x => some (ren (ps_xk la sp) x)) := lcons h0 (lcons (h1.1.trans (congrArg some (ren_sarr (b2 := 101) (fun j hj => by rcases (show j = 0 ∨ j = 1 by omega) with rfl | rfl <;> rfl)).symm)) (lcons ((h1.2 0 (by decide)).1) (lcons ((h1.2 0 (by decide)).2.1) (lcons ((h1.2 0 (by decide)).2.2.1) (lcons ((h1.2 0 (by decide)).2.2.2) (lcons ((h1.2 1 (by decide)).1) (lcons ((h1.2 1 (by decide)).2.1) (lcons ((h1.2 1 (by decide)).2.2.1) (lcons ((h1.2 1 (by decide)).2.2.2) (lcons h2.1 (lcons h2.2.1 (lcons h2.2.2.1 (lcons h2.2.2.2 (lcons h3 (rfl)))))))))))))))
theorem no_xk_txt {la sp : Nat} (fl : (la = 87 ∧ sp = 94 ∨ la = 94 ∧ sp = 87)) : ([1, 2] : List Nat).all (fun i => !((ps_xk la sp).take 15).contains i) = true := by
  rcases fl with ⟨rfl, rfl⟩ | ⟨rfl, rfl⟩ <;> decide +kernel
theorem no_xk_rdr {la sp : Nat} (fl : (la = 87 ∧ sp = 94 ∨ la = 94 ∧ sp = 87)) : ([3, 4] : List Nat).all (fun i => !((ps_xk la sp).take 15).contains i) = true := by
  rcases fl with ⟨rfl, rfl⟩ | ⟨rfl, rfl⟩ <;> decide +kernel
theorem no_xk_clk {la sp : Nat} (fl : (la = 87 ∧ sp = 94 ∨ la = 94 ∧ sp = 87)) : ([5, 6, 7, 8] : List Nat).all (fun i => !((ps_xk la sp).take 15).contains i) = true := by
  rcases fl with ⟨rfl, rfl⟩ | ⟨rfl, rfl⟩ <;> decide +kernel
theorem no_xk_tri {la sp : Nat} (fl : (la = 87 ∧ sp = 94 ∨ la = 94 ∧ sp = 87)) : ([9, 10, 11, 12, 13, 14, 15, 16, 17] : List Nat).all (fun i => !((ps_xk la sp).take 15).contains i) = true := by
  rcases fl with ⟨rfl, rfl⟩ | ⟨rfl, rfl⟩ <;> decide +kernel
theorem no_xk_ros {la sp : Nat} (fl : (la = 87 ∧ sp = 94 ∨ la = 94 ∧ sp = 87)) : ([18, 19, 20, 21, 22, 23, 24, 25, 26, 27, 28, 29, 30, 31, 32, 33, 34, 35, 36, 37, 38, 39, 40, 41, 42, 43, 44, 45, 46, 47] : List Nat).all (fun i => !((ps_xk la sp).take 15).contains i) = true := by
  rcases fl with ⟨rfl, rfl⟩ | ⟨rfl, rfl⟩ <;> decide +kernel
theorem no_xk_wal {la sp : Nat} (fl : (la = 87 ∧ sp = 94 ∨ la = 94 ∧ sp = 87)) : (List.range 7).all (fun i => !((ps_xk la sp).take 15).contains (la + i)) = true := by
  rcases fl with ⟨rfl, rfl⟩ | ⟨rfl, rfl⟩ <;> decide +kernel
theorem no_xk_spa {la sp : Nat} (fl : (la = 87 ∧ sp = 94 ∨ la = 94 ∧ sp = 87)) : (List.range 7).all (fun i => !((ps_xk la sp).take 15).contains (sp + i)) = true := by
  rcases fl with ⟨rfl, rfl⟩ | ⟨rfl, rfl⟩ <;> decide +kernel
theorem no_xk_mod {la sp : Nat} (fl : (la = 87 ∧ sp = 94 ∨ la = 94 ∧ sp = 87)) : ([109, 110, 111, 112, 113, 114, 115, 116, 117] : List Nat).all (fun i => !((ps_xk la sp).take 15).contains i) = true := by
  rcases fl with ⟨rfl, rfl⟩ | ⟨rfl, rfl⟩ <;> decide +kernel
theorem no_xk_r {la sp : Nat} (fl : (la = 87 ∧ sp = 94 ∨ la = 94 ∧ sp = 87)) : ((ps_xk la sp).take 15).contains 53 = false := by
  rcases fl with ⟨rfl, rfl⟩ | ⟨rfl, rfl⟩ <;> decide +kernel
theorem no_xk_trl {la sp i : Nat} (fl : (la = 87 ∧ sp = 94 ∨ la = 94 ∧ sp = 87)) (hi : i < 8) : (List.range 4).all (fun j => !((ps_xk la sp).take 15).contains (54 + 4 * i + j)) = true := by
  rcases fl with ⟨rfl, rfl⟩ | ⟨rfl, rfl⟩
  · have : ∀ i, i < 8 → (List.range 4).all (fun j => !((ps_xk 87 94).take 15).contains (54 + 4 * i + j)) = true := by decide +kernel
    exact this i hi
  · have : ∀ i, i < 8 → (List.range 4).all (fun j => !((ps_xk 94 87).take 15).contains (54 + 4 * i + j)) = true := by decide +kernel
    exact this i hi
set_option maxRecDepth 20000 in
theorem put_xk {w u : List va_E} {kc : Int32} {la sp n : Nat} {tf : Nat → Int32} {S : ST} {tn sz : Nat} {P K : Nat → ST} {V : WT} {dn : Int32} {fb : Nat → Int32} {kc2 : Int32} {sz2 : Nat} {K2 : Nat → ST} {S2 : ST}  (I : I8 w kc la sp n tf S tn sz P K V dn fb) (hu : u = xk kc2 (nI tn) (nI sz2) K2 S2) : I8 (putM w (ps_xk la sp) u) kc2 la sp n tf S2 tn sz2 P K2 V dn fb ∧ JM w (putM w (ps_xk la sp) u) := by
  obtain ⟨fl, hl, ho, ht, hr, hc, hi, hro, hno, htr, hk, hw, hs⟩ := I
  have hlen : u.length = 15 := by rw [hu]; rfl
  have PP : ∀ (j q : Nat) (y : va_E), ((ps_xk la sp).take 15)[j]? = some q → (xk kc2 (nI tn) (nI sz2) K2 S2)[j]? = some y → q < 109 → (putM w (ps_xk la sp) u)[q]? = some (ren (ps_xk la sp) y) := fun j q y h1 h2 h3 => put_in (w := w) (u := u) (ps := ps_xk la sp) (n := 15) (j := j) (k := q) (y := y) hlen h1 (nd_xk fl) (by rw [hu]; exact h2) (Nat.lt_of_lt_of_le h3 hl)
  clear hu
  refine ⟨⟨fl, ?_, ?_, ?_, ?_, ?_, ?_, ?_, ?_, ?_, ?_, ?_, ?_⟩, fun e to s hm => oMod hlen (no_xk_mod fl) hm, put_len _ _ _⟩
  · rw [put_len]; exact hl
  · exact (PP 0 (0) _ rfl rfl (by omega)).trans rfl
  · exact oTxt hlen (no_xk_txt fl) ht
  · exact oRdr hlen (no_xk_rdr fl) hr
  · exact oClk hlen (no_xk_clk fl) hc
  · exact oTri hlen (no_xk_tri fl) hi
  · exact oRos hlen (no_xk_ros fl) hro
  · exact ⟨(PP 10 (48) _ rfl rfl (by omega)).trans rfl, (PP 11 (49) _ rfl rfl (by omega)).trans rfl, (PP 12 (50) _ rfl rfl (by omega)).trans rfl, (PP 13 (51) _ rfl rfl (by omega)).trans rfl⟩
  · exact ⟨(PP 14 (52) _ rfl rfl (by omega)).trans rfl, (put_out hlen (no_xk_r fl)).trans htr.2.1, fun i hi => st_out hlen (no_xk_trl fl hi) (htr.2.2 i hi)⟩
  · refine ⟨(PP 1 86 _ rfl rfl (by omega)).trans (congrArg some (ren_sarr (b2 := 101) (fun j hj => by rcases (show j = 0 ∨ j = 1 by omega) with rfl | rfl <;> rfl))), fun i hi => ?_⟩
    rcases (show i = 0 ∨ i = 1 by omega) with rfl | rfl
    · exact ⟨(PP 2 (101) _ rfl rfl (by omega)).trans rfl, (PP 3 (102) _ rfl rfl (by omega)).trans rfl, (PP 4 (103) _ rfl rfl (by omega)).trans rfl, (PP 5 (104) _ rfl rfl (by omega)).trans rfl⟩
    · exact ⟨(PP 6 (105) _ rfl rfl (by omega)).trans rfl, (PP 7 (106) _ rfl rfl (by omega)).trans rfl, (PP 8 (107) _ rfl rfl (by omega)).trans rfl, (PP 9 (108) _ rfl rfl (by omega)).trans rfl⟩
  · exact wl_out hlen (no_xk_wal fl) hw
  · exact oSpa hlen (no_xk_spa fl) hs
theorem oc_xk {l : Launch} {M : MC} {av av2 : List Value} {w : List va_E} {v : Int32} {kc : Int32} {la sp n : Nat} {tf : Nat → Int32} {S : ST} {tn sz : Nat} {P K : Nat → ST} {V : WT} {dn : Int32} {fb : Nat → Int32} {kc2 : Int32} {sz2 : Nat} {K2 : Nat → ST} {S2 : ST} (I : I8 w kc la sp n tf S tn sz P K V dn fb) (hk0 : mkc M = 0) (hav : av.map (rv (sg (ps_xk la sp))) = av2) (hcon : Con l M av (xk kc (nI tn) (nI sz) K S) (fun r u => r = some (.int v) ∧ u = xk kc2 (nI tn) (nI sz2) K2 S2)) : Con l M av2 w (fun r u => r = some (.int v) ∧ I8 u kc2 la sp n tf S2 tn sz2 P K2 V dn fb ∧ JM w u) := by
  have I0 := I
  obtain ⟨fl, hl, ho, ht, hr, hc, hi, hro, hno, htr, hk, hw, hs⟩ := I
  have h := con_open (ps := ps_xk la sp) hcon hk0 (cut_xk ho hk hno htr.1) (nd_xk fl) (by rintro r u ⟨-, rfl⟩; rfl)
  rw [hav] at h
  refine con_post h ?_
  rintro r u ⟨r1, u1, ⟨rfl, hu⟩, rfl, rfl⟩
  exact ⟨rfl, put_xk I0 hu⟩
abbrev ps_xl (la sp : Nat) : List Nat := [0, 3, 4, 1, 2, sp, sp + 1, sp + 2, sp + 3, sp + 4, sp + 5, sp + 6, la, la + 1, la + 2, la + 3, la + 4, la + 5, la + 6, 48, 49, 50, 51, 52, 5, 9, 18, 86, 53]
theorem nd_xl {la sp : Nat} (fl : (la = 87 ∧ sp = 94 ∨ la = 94 ∧ sp = 87)) : va_nd ((ps_xl la sp).take 24) = true := by
  rcases fl with ⟨rfl, rfl⟩ | ⟨rfl, rfl⟩ <;> decide +kernel
theorem cut_xl {w : List va_E} {la sp : Nat} {nm : Nat → Int32} {nx : Int32} {n : Nat} {tf : Nat → Int32} {kc : Int32} {tn sz : Nat} {S : ST} {U : WT} {un : Int32} {ub : Nat → Int32} {V : WT} {dn : Int32} {fb : Nat → Int32} (h0 : bObj w kc la sp) (h1 : cRdr w nm nx) (h2 : bTxt w n tf) (h3 : wlF w sp U un ub) (h4 : wlF w la V dn fb) (h5 : stF w 48 S) (h6 : w[52]? = some (.inr (5, [.ref 53, .int (nI tn), .int (nI sz)]))) : ((ps_xl la sp).take (xl 12 5 nm nx n tf kc (nI tn) (nI sz) S U un ub V dn fb).length).map (fun i => w[i]?) = (xl 12 5 nm nx n tf kc (nI tn) (nI sz) S U un ub V dn fb).map (fun x => some (ren (ps_xl la sp) x)) := lcons h0 (lcons h1.1 (lcons h1.2 (lcons h2.1 (lcons h2.2 (lcons h3.1 (lcons h3.2.1 (lcons h3.2.2.1 (lcons h3.2.2.2.1 (lcons h3.2.2.2.2.1 (lcons h3.2.2.2.2.2.1 (lcons h3.2.2.2.2.2.2 (lcons h4.1 (lcons h4.2.1 (lcons h4.2.2.1 (lcons h4.2.2.2.1 (lcons h4.2.2.2.2.1 (lcons h4.2.2.2.2.2.1 (lcons h4.2.2.2.2.2.2 (lcons h5.1 (lcons h5.2.1 (lcons h5.2.2.1 (lcons h5.2.2.2 (lcons h6 (rfl))))))))))))))))))))))))
theorem no_xl_clk {la sp : Nat} (fl : (la = 87 ∧ sp = 94 ∨ la = 94 ∧ sp = 87)) : ([5, 6, 7, 8] : List Nat).all (fun i => !((ps_xl la sp).take 24).contains i) = true := by
  rcases fl with ⟨rfl, rfl⟩ | ⟨rfl, rfl⟩ <;> decide +kernel
theorem no_xl_tri {la sp : Nat} (fl : (la = 87 ∧ sp = 94 ∨ la = 94 ∧ sp = 87)) : ([9, 10, 11, 12, 13, 14, 15, 16, 17] : List Nat).all (fun i => !((ps_xl la sp).take 24).contains i) = true := by
  rcases fl with ⟨rfl, rfl⟩ | ⟨rfl, rfl⟩ <;> decide +kernel
theorem no_xl_ros {la sp : Nat} (fl : (la = 87 ∧ sp = 94 ∨ la = 94 ∧ sp = 87)) : ([18, 19, 20, 21, 22, 23, 24, 25, 26, 27, 28, 29, 30, 31, 32, 33, 34, 35, 36, 37, 38, 39, 40, 41, 42, 43, 44, 45, 46, 47] : List Nat).all (fun i => !((ps_xl la sp).take 24).contains i) = true := by
  rcases fl with ⟨rfl, rfl⟩ | ⟨rfl, rfl⟩ <;> decide +kernel
theorem no_xl_kep {la sp : Nat} (fl : (la = 87 ∧ sp = 94 ∨ la = 94 ∧ sp = 87)) : ([86, 101, 102, 103, 104, 105, 106, 107, 108] : List Nat).all (fun i => !((ps_xl la sp).take 24).contains i) = true := by
  rcases fl with ⟨rfl, rfl⟩ | ⟨rfl, rfl⟩ <;> decide +kernel
theorem no_xl_mod {la sp : Nat} (fl : (la = 87 ∧ sp = 94 ∨ la = 94 ∧ sp = 87)) : ([109, 110, 111, 112, 113, 114, 115, 116, 117] : List Nat).all (fun i => !((ps_xl la sp).take 24).contains i) = true := by
  rcases fl with ⟨rfl, rfl⟩ | ⟨rfl, rfl⟩ <;> decide +kernel
theorem no_xl_r {la sp : Nat} (fl : (la = 87 ∧ sp = 94 ∨ la = 94 ∧ sp = 87)) : ((ps_xl la sp).take 24).contains 53 = false := by
  rcases fl with ⟨rfl, rfl⟩ | ⟨rfl, rfl⟩ <;> decide +kernel
theorem no_xl_trl {la sp i : Nat} (fl : (la = 87 ∧ sp = 94 ∨ la = 94 ∧ sp = 87)) (hi : i < 8) : (List.range 4).all (fun j => !((ps_xl la sp).take 24).contains (54 + 4 * i + j)) = true := by
  rcases fl with ⟨rfl, rfl⟩ | ⟨rfl, rfl⟩
  · have : ∀ i, i < 8 → (List.range 4).all (fun j => !((ps_xl 87 94).take 24).contains (54 + 4 * i + j)) = true := by decide +kernel
    exact this i hi
  · have : ∀ i, i < 8 → (List.range 4).all (fun j => !((ps_xl 94 87).take 24).contains (54 + 4 * i + j)) = true := by decide +kernel
    exact this i hi
set_option maxRecDepth 20000 in
theorem put_xl {w u : List va_E} {kc : Int32} {la sp n : Nat} {tf : Nat → Int32} {S : ST} {tn sz : Nat} {P K : Nat → ST} {V : WT} {dn : Int32} {fb : Nat → Int32} {nm : Nat → Int32} {nx : Int32} {U : WT} {un : Int32} {ub : Nat → Int32} (hY : okY U ub) (I : I8 w kc la sp n tf S tn sz P K V dn fb) (hu : u = xl 12 5 nm nx n tf kc (nI tn) (nI sz) S U un ub V dn fb) : I8 (putM w (ps_xl la sp) u) kc la sp n tf S tn sz P K V dn fb ∧ JM w (putM w (ps_xl la sp) u) := by
  obtain ⟨fl, hl, ho, ht, hr, hc, hi, hro, hno, htr, hk, hw, hs⟩ := I
  have hlen : u.length = 24 := by rw [hu]; rfl
  have PP : ∀ (j q : Nat) (y : va_E), ((ps_xl la sp).take 24)[j]? = some q → (xl 12 5 nm nx n tf kc (nI tn) (nI sz) S U un ub V dn fb)[j]? = some y → q < 109 → (putM w (ps_xl la sp) u)[q]? = some (ren (ps_xl la sp) y) := fun j q y h1 h2 h3 => put_in (w := w) (u := u) (ps := ps_xl la sp) (n := 24) (j := j) (k := q) (y := y) hlen h1 (nd_xl fl) (by rw [hu]; exact h2) (Nat.lt_of_lt_of_le h3 hl)
  clear hu
  refine ⟨⟨fl, ?_, ?_, ?_, ?_, ?_, ?_, ?_, ?_, ?_, ?_, ?_, ?_⟩, fun e to s hm => oMod hlen (no_xl_mod fl) hm, put_len _ _ _⟩
  · rw [put_len]; exact hl
  · exact (PP 0 (0) _ rfl rfl (by omega)).trans rfl
  · exact ⟨(PP 3 (1) _ rfl rfl (by omega)).trans rfl, (PP 4 (2) _ rfl rfl (by omega)).trans rfl⟩
  · exact ⟨nm, nx, (PP 1 (3) _ rfl rfl (by omega)).trans rfl, (PP 2 (4) _ rfl rfl (by omega)).trans rfl⟩
  · exact oClk hlen (no_xl_clk fl) hc
  · exact oTri hlen (no_xl_tri fl) hi
  · exact oRos hlen (no_xl_ros fl) hro
  · exact ⟨(PP 19 (48) _ rfl rfl (by omega)).trans rfl, (PP 20 (49) _ rfl rfl (by omega)).trans rfl, (PP 21 (50) _ rfl rfl (by omega)).trans rfl, (PP 22 (51) _ rfl rfl (by omega)).trans rfl⟩
  · exact ⟨(PP 23 (52) _ rfl rfl (by omega)).trans rfl, (put_out hlen (no_xl_r fl)).trans htr.2.1, fun i hi => st_out hlen (no_xl_trl fl hi) (htr.2.2 i hi)⟩
  · exact oKep hlen (no_xl_kep fl) hk
  · exact ⟨(PP 12 (la) _ rfl rfl (by omega)).trans rfl, (PP 13 (la + 1) _ rfl rfl (by omega)).trans rfl, (PP 14 (la + 2) _ rfl rfl (by omega)).trans rfl, (PP 15 (la + 3) _ rfl rfl (by omega)).trans rfl, (PP 16 (la + 4) _ rfl rfl (by omega)).trans rfl, (PP 17 (la + 5) _ rfl rfl (by omega)).trans rfl, (PP 18 (la + 6) _ rfl rfl (by omega)).trans rfl⟩
  · exact ⟨U, un, ub, hY, ⟨(PP 5 (sp) _ rfl rfl (by omega)).trans rfl, (PP 6 (sp + 1) _ rfl rfl (by omega)).trans rfl, (PP 7 (sp + 2) _ rfl rfl (by omega)).trans rfl, (PP 8 (sp + 3) _ rfl rfl (by omega)).trans rfl, (PP 9 (sp + 4) _ rfl rfl (by omega)).trans rfl, (PP 10 (sp + 5) _ rfl rfl (by omega)).trans rfl, (PP 11 (sp + 6) _ rfl rfl (by omega)).trans rfl⟩⟩
set_option maxRecDepth 20000 in
theorem put_xl2 {w u : List va_E} {kc : Int32} {la sp n : Nat} {tf : Nat → Int32} {S : ST} {tn sz : Nat} {P K : Nat → ST} {V : WT} {dn : Int32} {fb : Nat → Int32} {nm : Nat → Int32} {nx : Int32} {U : WT} {un : Int32} {ub : Nat → Int32} {kc2 : Int32} {sz2 : Nat} {S2 : ST} {V2 : WT} {dn2 : Int32} {fb2 : Nat → Int32} (hY : okY V2 fb2) (I : I8 w kc la sp n tf S tn sz P K V dn fb) (hu : u = xl 5 12 nm nx n tf kc2 (nI tn) (nI sz2) S2 U un ub V2 dn2 fb2) : I8 (putM w (ps_xl la sp) u) kc2 sp la n tf S2 tn sz2 P K U un ub ∧ JM w (putM w (ps_xl la sp) u) := by
  obtain ⟨fl, hl, ho, ht, hr, hc, hi, hro, hno, htr, hk, hw, hs⟩ := I
  have hlen : u.length = 24 := by rw [hu]; rfl
  have PP : ∀ (j q : Nat) (y : va_E), ((ps_xl la sp).take 24)[j]? = some q → (xl 5 12 nm nx n tf kc2 (nI tn) (nI sz2) S2 U un ub V2 dn2 fb2)[j]? = some y → q < 109 → (putM w (ps_xl la sp) u)[q]? = some (ren (ps_xl la sp) y) := fun j q y h1 h2 h3 => put_in (w := w) (u := u) (ps := ps_xl la sp) (n := 24) (j := j) (k := q) (y := y) hlen h1 (nd_xl fl) (by rw [hu]; exact h2) (Nat.lt_of_lt_of_le h3 hl)
  clear hu
  refine ⟨⟨fl.elim (fun h => Or.inr ⟨h.2, h.1⟩) (fun h => Or.inl ⟨h.2, h.1⟩), ?_, ?_, ?_, ?_, ?_, ?_, ?_, ?_, ?_, ?_, ?_, ?_⟩, fun e to s hm => oMod hlen (no_xl_mod fl) hm, put_len _ _ _⟩
  · rw [put_len]; exact hl
  · exact (PP 0 (0) _ rfl rfl (by omega)).trans rfl
  · exact ⟨(PP 3 (1) _ rfl rfl (by omega)).trans rfl, (PP 4 (2) _ rfl rfl (by omega)).trans rfl⟩
  · exact ⟨nm, nx, (PP 1 (3) _ rfl rfl (by omega)).trans rfl, (PP 2 (4) _ rfl rfl (by omega)).trans rfl⟩
  · exact oClk hlen (no_xl_clk fl) hc
  · exact oTri hlen (no_xl_tri fl) hi
  · exact oRos hlen (no_xl_ros fl) hro
  · exact ⟨(PP 19 (48) _ rfl rfl (by omega)).trans rfl, (PP 20 (49) _ rfl rfl (by omega)).trans rfl, (PP 21 (50) _ rfl rfl (by omega)).trans rfl, (PP 22 (51) _ rfl rfl (by omega)).trans rfl⟩
  · exact ⟨(PP 23 (52) _ rfl rfl (by omega)).trans rfl, (put_out hlen (no_xl_r fl)).trans htr.2.1, fun i hi => st_out hlen (no_xl_trl fl hi) (htr.2.2 i hi)⟩
  · exact oKep hlen (no_xl_kep fl) hk
  · exact ⟨(PP 5 (sp) _ rfl rfl (by omega)).trans rfl, (PP 6 (sp + 1) _ rfl rfl (by omega)).trans rfl, (PP 7 (sp + 2) _ rfl rfl (by omega)).trans rfl, (PP 8 (sp + 3) _ rfl rfl (by omega)).trans rfl, (PP 9 (sp + 4) _ rfl rfl (by omega)).trans rfl, (PP 10 (sp + 5) _ rfl rfl (by omega)).trans rfl, (PP 11 (sp + 6) _ rfl rfl (by omega)).trans rfl⟩
  · exact ⟨V2, dn2, fb2, hY, ⟨(PP 12 (la) _ rfl rfl (by omega)).trans rfl, (PP 13 (la + 1) _ rfl rfl (by omega)).trans rfl, (PP 14 (la + 2) _ rfl rfl (by omega)).trans rfl, (PP 15 (la + 3) _ rfl rfl (by omega)).trans rfl, (PP 16 (la + 4) _ rfl rfl (by omega)).trans rfl, (PP 17 (la + 5) _ rfl rfl (by omega)).trans rfl, (PP 18 (la + 6) _ rfl rfl (by omega)).trans rfl⟩⟩
abbrev ps_xr (la sp : Nat) : List Nat := [18, 19, 20, 21, 22, la, la + 1, la + 2, la + 3, la + 4, la + 5, la + 6, 23, 24, 25, 26, 27, 28, 29, 30, 31, 32, 33, 34, 35, 36, 37, 38, 39, 40, 41, 42, 43, 44, 45, 46, 47, 48, 49, 50, 51, 0, 1, 3, 5, 9, 52, 86, sp]
theorem nd_xr {la sp : Nat} (fl : (la = 87 ∧ sp = 94 ∨ la = 94 ∧ sp = 87)) : va_nd ((ps_xr la sp).take 42) = true := by
  rcases fl with ⟨rfl, rfl⟩ | ⟨rfl, rfl⟩ <;> decide +kernel
theorem cut_xr {w : List va_E} {la sp : Nat} {kc : Int32} {m fk : Nat} {A : Nat → ST} {ra lo pr : Nat → Int32} {V : WT} {dn : Int32} {fb : Nat → Int32} {S : ST} (h0 : bObj w kc la sp) (h1 : cRos w m fk A ra lo pr) (h2 : wlF w la V dn fb) (h3 : stF w 48 S) : ((ps_xr la sp).take (xr kc m fk A ra lo pr V dn fb S).length).map (fun i => w[i]?) = (xr kc m fk A ra lo pr V dn fb S).map (fun x => some (ren (ps_xr la sp) x)) := lcons h1.1 (lcons h1.2.1.1 (lcons h1.2.1.2.1 (lcons h1.2.1.2.2.1 (lcons h1.2.1.2.2.2 (lcons h2.1 (lcons h2.2.1 (lcons h2.2.2.1 (lcons h2.2.2.2.1 (lcons h2.2.2.2.2.1 (lcons h2.2.2.2.2.2.1 (lcons h2.2.2.2.2.2.2 (lcons (h1.2.2.1.trans (congrArg some (ren_sarr (b2 := 24) (fun j hj => by rcases (show j = 0 ∨ j = 1 ∨ j = 2 ∨ j = 3 ∨ j = 4 ∨ j = 5 by omega) with rfl | rfl | rfl | rfl | rfl | rfl <;> rfl)).symm)) (lcons ((h1.2.2.2 0 (by decide)).1) (lcons ((h1.2.2.2 0 (by decide)).2.1) (lcons ((h1.2.2.2 0 (by decide)).2.2.1) (lcons ((h1.2.2.2 0 (by decide)).2.2.2) (lcons ((h1.2.2.2 1 (by decide)).1) (lcons ((h1.2.2.2 1 (by decide)).2.1) (lcons ((h1.2.2.2 1 (by decide)).2.2.1) (lcons ((h1.2.2.2 1 (by decide)).2.2.2) (lcons ((h1.2.2.2 2 (by decide)).1) (lcons ((h1.2.2.2 2 (by decide)).2.1) (lcons ((h1.2.2.2 2 (by decide)).2.2.1) (lcons ((h1.2.2.2 2 (by decide)).2.2.2) (lcons ((h1.2.2.2 3 (by decide)).1) (lcons ((h1.2.2.2 3 (by decide)).2.1) (lcons ((h1.2.2.2 3 (by decide)).2.2.1) (lcons ((h1.2.2.2 3 (by decide)).2.2.2) (lcons ((h1.2.2.2 4 (by decide)).1) (lcons ((h1.2.2.2 4 (by decide)).2.1) (lcons ((h1.2.2.2 4 (by decide)).2.2.1) (lcons ((h1.2.2.2 4 (by decide)).2.2.2) (lcons ((h1.2.2.2 5 (by decide)).1) (lcons ((h1.2.2.2 5 (by decide)).2.1) (lcons ((h1.2.2.2 5 (by decide)).2.2.1) (lcons ((h1.2.2.2 5 (by decide)).2.2.2) (lcons h3.1 (lcons h3.2.1 (lcons h3.2.2.1 (lcons h3.2.2.2 (lcons h0 (rfl))))))))))))))))))))))))))))))))))))))))))
theorem no_xr_txt {la sp : Nat} (fl : (la = 87 ∧ sp = 94 ∨ la = 94 ∧ sp = 87)) : ([1, 2] : List Nat).all (fun i => !((ps_xr la sp).take 42).contains i) = true := by
  rcases fl with ⟨rfl, rfl⟩ | ⟨rfl, rfl⟩ <;> decide +kernel
theorem no_xr_rdr {la sp : Nat} (fl : (la = 87 ∧ sp = 94 ∨ la = 94 ∧ sp = 87)) : ([3, 4] : List Nat).all (fun i => !((ps_xr la sp).take 42).contains i) = true := by
  rcases fl with ⟨rfl, rfl⟩ | ⟨rfl, rfl⟩ <;> decide +kernel
theorem no_xr_clk {la sp : Nat} (fl : (la = 87 ∧ sp = 94 ∨ la = 94 ∧ sp = 87)) : ([5, 6, 7, 8] : List Nat).all (fun i => !((ps_xr la sp).take 42).contains i) = true := by
  rcases fl with ⟨rfl, rfl⟩ | ⟨rfl, rfl⟩ <;> decide +kernel
theorem no_xr_tri {la sp : Nat} (fl : (la = 87 ∧ sp = 94 ∨ la = 94 ∧ sp = 87)) : ([9, 10, 11, 12, 13, 14, 15, 16, 17] : List Nat).all (fun i => !((ps_xr la sp).take 42).contains i) = true := by
  rcases fl with ⟨rfl, rfl⟩ | ⟨rfl, rfl⟩ <;> decide +kernel
theorem no_xr_trl {la sp : Nat} (fl : (la = 87 ∧ sp = 94 ∨ la = 94 ∧ sp = 87)) : ([52, 53, 54, 55, 56, 57, 58, 59, 60, 61, 62, 63, 64, 65, 66, 67, 68, 69, 70, 71, 72, 73, 74, 75, 76, 77, 78, 79, 80, 81, 82, 83, 84, 85] : List Nat).all (fun i => !((ps_xr la sp).take 42).contains i) = true := by
  rcases fl with ⟨rfl, rfl⟩ | ⟨rfl, rfl⟩ <;> decide +kernel
theorem no_xr_kep {la sp : Nat} (fl : (la = 87 ∧ sp = 94 ∨ la = 94 ∧ sp = 87)) : ([86, 101, 102, 103, 104, 105, 106, 107, 108] : List Nat).all (fun i => !((ps_xr la sp).take 42).contains i) = true := by
  rcases fl with ⟨rfl, rfl⟩ | ⟨rfl, rfl⟩ <;> decide +kernel
theorem no_xr_spa {la sp : Nat} (fl : (la = 87 ∧ sp = 94 ∨ la = 94 ∧ sp = 87)) : (List.range 7).all (fun i => !((ps_xr la sp).take 42).contains (sp + i)) = true := by
  rcases fl with ⟨rfl, rfl⟩ | ⟨rfl, rfl⟩ <;> decide +kernel
theorem no_xr_mod {la sp : Nat} (fl : (la = 87 ∧ sp = 94 ∨ la = 94 ∧ sp = 87)) : ([109, 110, 111, 112, 113, 114, 115, 116, 117] : List Nat).all (fun i => !((ps_xr la sp).take 42).contains i) = true := by
  rcases fl with ⟨rfl, rfl⟩ | ⟨rfl, rfl⟩ <;> decide +kernel
set_option maxRecDepth 20000 in
theorem put_xr {w u : List va_E} {kc : Int32} {la sp n : Nat} {tf : Nat → Int32} {S : ST} {tn sz : Nat} {P K : Nat → ST} {V : WT} {dn : Int32} {fb : Nat → Int32} {m fk : Nat} {A : Nat → ST} {ra lo pr : Nat → Int32} (hm : m ≤ 5) (hfk : fk ≤ 262144) (hA : ∀ j, okZ (A j)) (I : I8 w kc la sp n tf S tn sz P K V dn fb) (hu : u = xr kc m fk A ra lo pr V dn fb S) : I8 (putM w (ps_xr la sp) u) kc la sp n tf S tn sz P K V dn fb ∧ JM w (putM w (ps_xr la sp) u) := by
  obtain ⟨fl, hl, ho, ht, hr, hc, hi, hro, hno, htr, hk, hw, hs⟩ := I
  have hlen : u.length = 42 := by rw [hu]; rfl
  have PP : ∀ (j q : Nat) (y : va_E), ((ps_xr la sp).take 42)[j]? = some q → (xr kc m fk A ra lo pr V dn fb S)[j]? = some y → q < 109 → (putM w (ps_xr la sp) u)[q]? = some (ren (ps_xr la sp) y) := fun j q y h1 h2 h3 => put_in (w := w) (u := u) (ps := ps_xr la sp) (n := 42) (j := j) (k := q) (y := y) hlen h1 (nd_xr fl) (by rw [hu]; exact h2) (Nat.lt_of_lt_of_le h3 hl)
  clear hu
  refine ⟨⟨fl, ?_, ?_, ?_, ?_, ?_, ?_, ?_, ?_, ?_, ?_, ?_, ?_⟩, fun e to s hm => oMod hlen (no_xr_mod fl) hm, put_len _ _ _⟩
  · rw [put_len]; exact hl
  · exact (PP 41 (0) _ rfl rfl (by omega)).trans rfl
  · exact oTxt hlen (no_xr_txt fl) ht
  · exact oRdr hlen (no_xr_rdr fl) hr
  · exact oClk hlen (no_xr_clk fl) hc
  · exact oTri hlen (no_xr_tri fl) hi
  · refine ⟨m, fk, A, ra, lo, pr, hm, hfk, hA, (PP 0 (18) _ rfl rfl (by omega)).trans rfl, ⟨(PP 1 (19) _ rfl rfl (by omega)).trans rfl, (PP 2 (20) _ rfl rfl (by omega)).trans rfl, (PP 3 (21) _ rfl rfl (by omega)).trans rfl, (PP 4 (22) _ rfl rfl (by omega)).trans rfl⟩, (PP 12 23 _ rfl rfl (by omega)).trans (congrArg some (ren_sarr (b2 := 24) (fun j hj => by rcases (show j = 0 ∨ j = 1 ∨ j = 2 ∨ j = 3 ∨ j = 4 ∨ j = 5 by omega) with rfl | rfl | rfl | rfl | rfl | rfl <;> rfl))), fun i hi => ?_⟩
    rcases (show i = 0 ∨ i = 1 ∨ i = 2 ∨ i = 3 ∨ i = 4 ∨ i = 5 by omega) with rfl | rfl | rfl | rfl | rfl | rfl
    · exact ⟨(PP 13 (24) _ rfl rfl (by omega)).trans rfl, (PP 14 (25) _ rfl rfl (by omega)).trans rfl, (PP 15 (26) _ rfl rfl (by omega)).trans rfl, (PP 16 (27) _ rfl rfl (by omega)).trans rfl⟩
    · exact ⟨(PP 17 (28) _ rfl rfl (by omega)).trans rfl, (PP 18 (29) _ rfl rfl (by omega)).trans rfl, (PP 19 (30) _ rfl rfl (by omega)).trans rfl, (PP 20 (31) _ rfl rfl (by omega)).trans rfl⟩
    · exact ⟨(PP 21 (32) _ rfl rfl (by omega)).trans rfl, (PP 22 (33) _ rfl rfl (by omega)).trans rfl, (PP 23 (34) _ rfl rfl (by omega)).trans rfl, (PP 24 (35) _ rfl rfl (by omega)).trans rfl⟩
    · exact ⟨(PP 25 (36) _ rfl rfl (by omega)).trans rfl, (PP 26 (37) _ rfl rfl (by omega)).trans rfl, (PP 27 (38) _ rfl rfl (by omega)).trans rfl, (PP 28 (39) _ rfl rfl (by omega)).trans rfl⟩
    · exact ⟨(PP 29 (40) _ rfl rfl (by omega)).trans rfl, (PP 30 (41) _ rfl rfl (by omega)).trans rfl, (PP 31 (42) _ rfl rfl (by omega)).trans rfl, (PP 32 (43) _ rfl rfl (by omega)).trans rfl⟩
    · exact ⟨(PP 33 (44) _ rfl rfl (by omega)).trans rfl, (PP 34 (45) _ rfl rfl (by omega)).trans rfl, (PP 35 (46) _ rfl rfl (by omega)).trans rfl, (PP 36 (47) _ rfl rfl (by omega)).trans rfl⟩
  · exact ⟨(PP 37 (48) _ rfl rfl (by omega)).trans rfl, (PP 38 (49) _ rfl rfl (by omega)).trans rfl, (PP 39 (50) _ rfl rfl (by omega)).trans rfl, (PP 40 (51) _ rfl rfl (by omega)).trans rfl⟩
  · exact oTrl hlen (no_xr_trl fl) htr
  · exact oKep hlen (no_xr_kep fl) hk
  · exact ⟨(PP 5 (la) _ rfl rfl (by omega)).trans rfl, (PP 6 (la + 1) _ rfl rfl (by omega)).trans rfl, (PP 7 (la + 2) _ rfl rfl (by omega)).trans rfl, (PP 8 (la + 3) _ rfl rfl (by omega)).trans rfl, (PP 9 (la + 4) _ rfl rfl (by omega)).trans rfl, (PP 10 (la + 5) _ rfl rfl (by omega)).trans rfl, (PP 11 (la + 6) _ rfl rfl (by omega)).trans rfl⟩
  · exact oSpa hlen (no_xr_spa fl) hs
theorem oc_xr {l : Launch} {M : MC} {av av2 : List Value} {w : List va_E} {v : Int32} {kc : Int32} {la sp n : Nat} {tf : Nat → Int32} {S : ST} {tn sz : Nat} {P K : Nat → ST} {V : WT} {dn : Int32} {fb : Nat → Int32} (I : I8 w kc la sp n tf S tn sz P K V dn fb) (hk0 : mkc M = 0) (hav : av.map (rv (sg (ps_xr la sp))) = av2) (hcon : ∀ m fk A ra lo pr, m ≤ 5 → fk ≤ 262144 → (∀ j, okZ (A j)) → Con l M av (xr kc m fk A ra lo pr V dn fb S) (fun r u => r = some (.int v) ∧ ∃ m fk A ra lo pr, m ≤ 5 ∧ fk ≤ 262144 ∧ (∀ j, okZ (A j)) ∧ u = xr kc m fk A ra lo pr V dn fb S)) : Con l M av2 w (fun r u => r = some (.int v) ∧ I8 u kc la sp n tf S tn sz P K V dn fb ∧ JM w u) := by
  have I0 := I
  obtain ⟨fl, hl, ho, ht, hr, hc, hi, ⟨m, fk, A, ra, lo, pr, hm, hfk, hA, hro⟩, hno, htr, hk, hw, hs⟩ := I
  have h := con_open (ps := ps_xr la sp) (hcon m fk A ra lo pr hm hfk hA) hk0 (cut_xr ho hro hw hno) (nd_xr fl) (by rintro r u ⟨-, _, _, _, _, _, _, -, -, -, rfl⟩; rfl)
  rw [hav] at h
  refine con_post h ?_
  rintro r u ⟨r1, u1, ⟨rfl, _, _, _, _, _, _, hm2, hfk2, hA2, hu⟩, rfl, rfl⟩
  exact ⟨rfl, put_xr hm2 hfk2 hA2 I0 hu⟩

/-! 58.cells: the class's cells, and the reference's, in an open world -/
def bObj (w : List va_E) (kc : Int32) (la sp : Nat) : Prop := w[0]? = some (.inr (8, [.ref 1, .ref 3, .ref 5, .ref 9, .ref 18, .ref 48, .ref 52, .ref 86, .int kc, .ref la, .ref sp]))
def bTxt (w : List va_E) (n : Nat) (tf : Nat → Int32) : Prop := w[1]? = some (.inr (4, [.ref 2, .int (nI n)])) ∧ w[2]? = some (.inl (1, 200, .inl tf))
def cRdr (w : List va_E) (nm : Nat → Int32) (nx : Int32) : Prop := w[3]? = some (.inr (1, [.ref 4, .int nx])) ∧ w[4]? = some (.inl (0, 4, .inl nm))
def bRdr (w : List va_E) : Prop := ∃ nm nx, cRdr w nm nx
def bClk (w : List va_E) : Prop := ∃ rb lb pb, coF w 5 rb lb pb
def cTri (w : List va_E) (fell : Int32) (T : ST) (ra lo pr : Nat → Int32) : Prop := w[9]? = some (.inr (6, [.ref 10, .ref 14, .int fell])) ∧ stF w 10 T ∧ coF w 14 ra lo pr
def bTri (w : List va_E) : Prop := ∃ fell T ra lo pr, okZ T ∧ cTri w fell T ra lo pr
def cRos (w : List va_E) (m fk : Nat) (A : Nat → ST) (ra lo pr : Nat → Int32) : Prop := w[18]? = some (.inr (2, [.ref 19, .ref 23, .int (nI m), .int (nI fk)])) ∧ coF w 19 ra lo pr ∧ w[23]? = some (sarr 24 6) ∧ ∀ i, i < 6 → stF w (24 + 4 * i) (A i)
def bRos (w : List va_E) : Prop := ∃ m fk A ra lo pr, m ≤ 5 ∧ fk ≤ 262144 ∧ (∀ j, okZ (A j)) ∧ cRos w m fk A ra lo pr
def bTrl (w : List va_E) (tn sz : Nat) (P : Nat → ST) : Prop := w[52]? = some (.inr (5, [.ref 53, .int (nI tn), .int (nI sz)])) ∧ w[53]? = some (sarr 54 8) ∧ ∀ i, i < 8 → stF w (54 + 4 * i) (P i)
def bKep (w : List va_E) (K : Nat → ST) : Prop := w[86]? = some (sarr 101 2) ∧ ∀ i, i < 2 → stF w (101 + 4 * i) (K i)
def bSpa (w : List va_E) (sp : Nat) : Prop := ∃ U un ub, okY U ub ∧ wlF w sp U un ub
def bMod (w : List va_E) (e : MR) (to s : Nat → Int32) : Prop := w[109]? = some (.inr (9, [.ref 110, .int e.2.1, .ref 111, .ref 112, .ref 113, .int e.2.2.2.2.1, .ref 114, .ref 115, .int e.2.2.2.2.2.2.1, .ref 116, .int e.2.2.2.2.2.2.2.2.1, .int e.2.2.2.2.2.2.2.2.2.1, .ref 117])) ∧ w[110]? = some (.inl (0, 200, .inl e.1)) ∧ w[111]? = some (.inl (0, 38, .inl to)) ∧ w[112]? = some (.inl (0, 38, .inl e.2.2.1)) ∧ w[113]? = some (.inl (0, 6, .inl e.2.2.2.1)) ∧ w[114]? = some (.inl (0, 23, .inl s)) ∧ w[115]? = some (.inl (0, 184, .inl e.2.2.2.2.2.1)) ∧ w[116]? = some (.inl (0, 46, .inl e.2.2.2.2.2.2.2.1)) ∧ w[117]? = some (.inl (0, 23, .inl e.2.2.2.2.2.2.2.2.2.2))
/-- kc how many are kept; la, sp where the laid wall stands, where the spare one; n, tf the text; S now; tn, sz, P the trail; K what is kept; V, dn, fb the wall -/
def I8 (w : List va_E) (kc : Int32) (la sp n : Nat) (tf : Nat → Int32) (S : ST) (tn sz : Nat) (P K : Nat → ST) (V : WT) (dn : Int32) (fb : Nat → Int32)   : Prop := (la = 87 ∧ sp = 94 ∨ la = 94 ∧ sp = 87) ∧ 109 ≤ w.length ∧ bObj w kc la sp ∧ bTxt w n tf ∧ bRdr w ∧ bClk w ∧ bTri w ∧ bRos w ∧ stF w 48 S ∧ bTrl w tn sz P ∧ bKep w K ∧ wlF w la V dn fb ∧ bSpa w sp
section OUT
variable {w u : List va_E} {ps : List Nat} {n : Nat}
theorem ou {L : List Nat} {k : Nat} (hn : u.length = n) (h : L.all (fun i => !(ps.take n).contains i) = true) (hk : L.contains k = true) : (putM w ps u)[k]? = w[k]? := by
  refine put_out hn ?_
  have := List.all_eq_true.mp h k (List.contains_iff_mem.mp hk)
  rwa [Bool.not_eq_true'] at this

theorem oObj {kc : Int32} {la sp : Nat} (hn : u.length = n) (h : ([0] : List Nat).all (fun i => !(ps.take n).contains i) = true) (b : bObj w kc la sp) : bObj (putM w ps u) kc la sp := (ou hn h (k := 0) rfl).trans b
theorem oTxt {m : Nat} {tf : Nat → Int32} (hn : u.length = n) (h : ([1, 2] : List Nat).all (fun i => !(ps.take n).contains i) = true) (b : bTxt w m tf) : bTxt (putM w ps u) m tf := ⟨(ou hn h (k := 1) rfl).trans b.1, (ou hn h (k := 2) rfl).trans b.2⟩
theorem oRdr (hn : u.length = n) (h : ([3, 4] : List Nat).all (fun i => !(ps.take n).contains i) = true) (b : bRdr w) : bRdr (putM w ps u) := by
  obtain ⟨nm, nx, b1, b2⟩ := b
  exact ⟨nm, nx, (ou hn h (k := 3) rfl).trans b1, (ou hn h (k := 4) rfl).trans b2⟩
theorem oClk (hn : u.length = n) (h : ([5, 6, 7, 8] : List Nat).all (fun i => !(ps.take n).contains i) = true) (b : bClk w) : bClk (putM w ps u) := by
  obtain ⟨x, y, z, b⟩ := b
  exact ⟨x, y, z, ⟨(ou hn h (k := 5) rfl).trans b.1, (ou hn h (k := 6) rfl).trans b.2.1, (ou hn h (k := 7) rfl).trans b.2.2.1, (ou hn h (k := 8) rfl).trans b.2.2.2⟩⟩
theorem oTri (hn : u.length = n) (h : ([9, 10, 11, 12, 13, 14, 15, 16, 17] : List Nat).all (fun i => !(ps.take n).contains i) = true) (b : bTri w) : bTri (putM w ps u) := by
  obtain ⟨f, T, x, y, z, hT, b1, b2, b3⟩ := b
  exact ⟨f, T, x, y, z, hT, (ou hn h (k := 9) rfl).trans b1, ⟨(ou hn h (k := 10) rfl).trans b2.1, (ou hn h (k := 11) rfl).trans b2.2.1, (ou hn h (k := 12) rfl).trans b2.2.2.1, (ou hn h (k := 13) rfl).trans b2.2.2.2⟩, ⟨(ou hn h (k := 14) rfl).trans b3.1, (ou hn h (k := 15) rfl).trans b3.2.1, (ou hn h (k := 16) rfl).trans b3.2.2.1, (ou hn h (k := 17) rfl).trans b3.2.2.2⟩⟩
theorem oRos (hn : u.length = n) (h : ([18, 19, 20, 21, 22, 23, 24, 25, 26, 27, 28, 29, 30, 31, 32, 33, 34, 35, 36, 37, 38, 39, 40, 41, 42, 43, 44, 45, 46, 47] : List Nat).all (fun i => !(ps.take n).contains i) = true) (b : bRos w) : bRos (putM w ps u) := by
  obtain ⟨m, f, A, x, y, z, hm, hf, hA, b1, b2, b3, b4⟩ := b
  refine ⟨m, f, A, x, y, z, hm, hf, hA, (ou hn h (k := 18) rfl).trans b1, ⟨(ou hn h (k := 19) rfl).trans b2.1, (ou hn h (k := 20) rfl).trans b2.2.1, (ou hn h (k := 21) rfl).trans b2.2.2.1, (ou hn h (k := 22) rfl).trans b2.2.2.2⟩, (ou hn h (k := 23) rfl).trans b3, fun i hi => ?_⟩
  have b5 := b4 i hi
  rcases (show i = 0 ∨ i = 1 ∨ i = 2 ∨ i = 3 ∨ i = 4 ∨ i = 5 by omega) with rfl | rfl | rfl | rfl | rfl | rfl
  · exact ⟨(ou hn h (k := 24) rfl).trans b5.1, (ou hn h (k := 25) rfl).trans b5.2.1, (ou hn h (k := 26) rfl).trans b5.2.2.1, (ou hn h (k := 27) rfl).trans b5.2.2.2⟩
  · exact ⟨(ou hn h (k := 28) rfl).trans b5.1, (ou hn h (k := 29) rfl).trans b5.2.1, (ou hn h (k := 30) rfl).trans b5.2.2.1, (ou hn h (k := 31) rfl).trans b5.2.2.2⟩
  · exact ⟨(ou hn h (k := 32) rfl).trans b5.1, (ou hn h (k := 33) rfl).trans b5.2.1, (ou hn h (k := 34) rfl).trans b5.2.2.1, (ou hn h (k := 35) rfl).trans b5.2.2.2⟩
  · exact ⟨(ou hn h (k := 36) rfl).trans b5.1, (ou hn h (k := 37) rfl).trans b5.2.1, (ou hn h (k := 38) rfl).trans b5.2.2.1, (ou hn h (k := 39) rfl).trans b5.2.2.2⟩
  · exact ⟨(ou hn h (k := 40) rfl).trans b5.1, (ou hn h (k := 41) rfl).trans b5.2.1, (ou hn h (k := 42) rfl).trans b5.2.2.1, (ou hn h (k := 43) rfl).trans b5.2.2.2⟩
  · exact ⟨(ou hn h (k := 44) rfl).trans b5.1, (ou hn h (k := 45) rfl).trans b5.2.1, (ou hn h (k := 46) rfl).trans b5.2.2.1, (ou hn h (k := 47) rfl).trans b5.2.2.2⟩
theorem oNow {S : ST} (hn : u.length = n) (h : ([48, 49, 50, 51] : List Nat).all (fun i => !(ps.take n).contains i) = true) (b : stF w 48 S) : stF (putM w ps u) 48 S := ⟨(ou hn h (k := 48) rfl).trans b.1, (ou hn h (k := 49) rfl).trans b.2.1, (ou hn h (k := 50) rfl).trans b.2.2.1, (ou hn h (k := 51) rfl).trans b.2.2.2⟩
theorem oTrl {tn sz : Nat} {P : Nat → ST} (hn : u.length = n) (h : ([52, 53, 54, 55, 56, 57, 58, 59, 60, 61, 62, 63, 64, 65, 66, 67, 68, 69, 70, 71, 72, 73, 74, 75, 76, 77, 78, 79, 80, 81, 82, 83, 84, 85] : List Nat).all (fun i => !(ps.take n).contains i) = true) (b : bTrl w tn sz P) : bTrl (putM w ps u) tn sz P := by
  obtain ⟨b1, b3, b4⟩ := b
  refine ⟨(ou hn h (k := 52) rfl).trans b1, (ou hn h (k := 53) rfl).trans b3, fun i hi => ?_⟩
  have b5 := b4 i hi
  rcases (show i = 0 ∨ i = 1 ∨ i = 2 ∨ i = 3 ∨ i = 4 ∨ i = 5 ∨ i = 6 ∨ i = 7 by omega) with rfl | rfl | rfl | rfl | rfl | rfl | rfl | rfl
  · exact ⟨(ou hn h (k := 54) rfl).trans b5.1, (ou hn h (k := 55) rfl).trans b5.2.1, (ou hn h (k := 56) rfl).trans b5.2.2.1, (ou hn h (k := 57) rfl).trans b5.2.2.2⟩
  · exact ⟨(ou hn h (k := 58) rfl).trans b5.1, (ou hn h (k := 59) rfl).trans b5.2.1, (ou hn h (k := 60) rfl).trans b5.2.2.1, (ou hn h (k := 61) rfl).trans b5.2.2.2⟩
  · exact ⟨(ou hn h (k := 62) rfl).trans b5.1, (ou hn h (k := 63) rfl).trans b5.2.1, (ou hn h (k := 64) rfl).trans b5.2.2.1, (ou hn h (k := 65) rfl).trans b5.2.2.2⟩
  · exact ⟨(ou hn h (k := 66) rfl).trans b5.1, (ou hn h (k := 67) rfl).trans b5.2.1, (ou hn h (k := 68) rfl).trans b5.2.2.1, (ou hn h (k := 69) rfl).trans b5.2.2.2⟩
  · exact ⟨(ou hn h (k := 70) rfl).trans b5.1, (ou hn h (k := 71) rfl).trans b5.2.1, (ou hn h (k := 72) rfl).trans b5.2.2.1, (ou hn h (k := 73) rfl).trans b5.2.2.2⟩
  · exact ⟨(ou hn h (k := 74) rfl).trans b5.1, (ou hn h (k := 75) rfl).trans b5.2.1, (ou hn h (k := 76) rfl).trans b5.2.2.1, (ou hn h (k := 77) rfl).trans b5.2.2.2⟩
  · exact ⟨(ou hn h (k := 78) rfl).trans b5.1, (ou hn h (k := 79) rfl).trans b5.2.1, (ou hn h (k := 80) rfl).trans b5.2.2.1, (ou hn h (k := 81) rfl).trans b5.2.2.2⟩
  · exact ⟨(ou hn h (k := 82) rfl).trans b5.1, (ou hn h (k := 83) rfl).trans b5.2.1, (ou hn h (k := 84) rfl).trans b5.2.2.1, (ou hn h (k := 85) rfl).trans b5.2.2.2⟩
theorem oKep {K : Nat → ST} (hn : u.length = n) (h : ([86, 101, 102, 103, 104, 105, 106, 107, 108] : List Nat).all (fun i => !(ps.take n).contains i) = true) (b : bKep w K) : bKep (putM w ps u) K := by
  obtain ⟨b3, b4⟩ := b
  refine ⟨(ou hn h (k := 86) rfl).trans b3, fun i hi => ?_⟩
  have b5 := b4 i hi
  rcases (show i = 0 ∨ i = 1 by omega) with rfl | rfl
  · exact ⟨(ou hn h (k := 101) rfl).trans b5.1, (ou hn h (k := 102) rfl).trans b5.2.1, (ou hn h (k := 103) rfl).trans b5.2.2.1, (ou hn h (k := 104) rfl).trans b5.2.2.2⟩
  · exact ⟨(ou hn h (k := 105) rfl).trans b5.1, (ou hn h (k := 106) rfl).trans b5.2.1, (ou hn h (k := 107) rfl).trans b5.2.2.1, (ou hn h (k := 108) rfl).trans b5.2.2.2⟩
theorem oMod {e : MR} {to s : Nat → Int32} (hn : u.length = n) (h : ([109, 110, 111, 112, 113, 114, 115, 116, 117] : List Nat).all (fun i => !(ps.take n).contains i) = true) (b : bMod w e to s) : bMod (putM w ps u) e to s := ⟨(ou hn h (k := 109) rfl).trans b.1, (ou hn h (k := 110) rfl).trans b.2.1, (ou hn h (k := 111) rfl).trans b.2.2.1, (ou hn h (k := 112) rfl).trans b.2.2.2.1, (ou hn h (k := 113) rfl).trans b.2.2.2.2.1, (ou hn h (k := 114) rfl).trans b.2.2.2.2.2.1, (ou hn h (k := 115) rfl).trans b.2.2.2.2.2.2.1, (ou hn h (k := 116) rfl).trans b.2.2.2.2.2.2.2.1, (ou hn h (k := 117) rfl).trans b.2.2.2.2.2.2.2.2⟩
theorem oSpa {sp : Nat} (hn : u.length = n) (h : (List.range 7).all (fun i => !(ps.take n).contains (sp + i)) = true) (b : bSpa w sp) : bSpa (putM w ps u) sp := by
  obtain ⟨U, un, ub, hY, b⟩ := b
  exact ⟨U, un, ub, hY, wl_out hn h b⟩
end OUT
def JM (w u : List va_E) : Prop := (∀ e to s, bMod w e to s → bMod u e to s) ∧ u.length = w.length
theorem pu_same (P : Nat → ST) (k : Nat) : pu P k (P k) = P := by
  funext i
  unfold pu
  by_cases h : i = k
  · rw [if_pos h, h]
  · rw [if_neg h]
theorem pu_at (P : Nat → ST) (k : Nat) (S : ST) : pu P k S k = S := if_pos rfl
theorem pu_ne (P : Nat → ST) (k : Nat) (S : ST) (i : Nat) (h : ¬ i = k) : pu P k S i = P i := if_neg h
abbrev ps_xa (la sp : Nat) : List Nat := [0, 9, 10, 11, 12, 13, 14, 15, 16, 17, 48, 49, 50, 51, la, la + 1, la + 2, la + 3, la + 4, la + 5, la + 6, 5, 6, 7, 8, sp, sp + 1, sp + 2, sp + 3, sp + 4, sp + 5, sp + 6, 1, 3, 18, 52, 86]
theorem nd_xa {la sp : Nat} (fl : (la = 87 ∧ sp = 94 ∨ la = 94 ∧ sp = 87)) : va_nd ((ps_xa la sp).take 32) = true := by
  rcases fl with ⟨rfl, rfl⟩ | ⟨rfl, rfl⟩ <;> decide +kernel
theorem cut_xa {w : List va_E} {la sp : Nat} {fell : Int32} {T : ST} {ra lo pr rb lb pb : Nat → Int32} {U : WT} {un : Int32} {ub : Nat → Int32} {kc : Int32} {S : ST} {V : WT} {dn : Int32} {fb : Nat → Int32} (h0 : bObj w kc la sp) (h1 : cTri w fell T ra lo pr) (h2 : stF w 48 S) (h3 : wlF w la V dn fb) (h4 : coF w 5 rb lb pb) (h5 : wlF w sp U un ub) : ((ps_xa la sp).take (xa fell T ra lo pr rb lb pb kc S V dn fb U un ub).length).map (fun i => w[i]?) = (xa fell T ra lo pr rb lb pb kc S V dn fb U un ub).map (fun x => some (ren (ps_xa la sp) x)) := lcons h0 (lcons h1.1 (lcons h1.2.1.1 (lcons h1.2.1.2.1 (lcons h1.2.1.2.2.1 (lcons h1.2.1.2.2.2 (lcons h1.2.2.1 (lcons h1.2.2.2.1 (lcons h1.2.2.2.2.1 (lcons h1.2.2.2.2.2 (lcons h2.1 (lcons h2.2.1 (lcons h2.2.2.1 (lcons h2.2.2.2 (lcons h3.1 (lcons h3.2.1 (lcons h3.2.2.1 (lcons h3.2.2.2.1 (lcons h3.2.2.2.2.1 (lcons h3.2.2.2.2.2.1 (lcons h3.2.2.2.2.2.2 (lcons h4.1 (lcons h4.2.1 (lcons h4.2.2.1 (lcons h4.2.2.2 (lcons h5.1 (lcons h5.2.1 (lcons h5.2.2.1 (lcons h5.2.2.2.1 (lcons h5.2.2.2.2.1 (lcons h5.2.2.2.2.2.1 (lcons h5.2.2.2.2.2.2 (rfl))))))))))))))))))))))))))))))))
theorem no_xa_txt {la sp : Nat} (fl : (la = 87 ∧ sp = 94 ∨ la = 94 ∧ sp = 87)) : ([1, 2] : List Nat).all (fun i => !((ps_xa la sp).take 32).contains i) = true := by
  rcases fl with ⟨rfl, rfl⟩ | ⟨rfl, rfl⟩ <;> decide +kernel
theorem no_xa_rdr {la sp : Nat} (fl : (la = 87 ∧ sp = 94 ∨ la = 94 ∧ sp = 87)) : ([3, 4] : List Nat).all (fun i => !((ps_xa la sp).take 32).contains i) = true := by
  rcases fl with ⟨rfl, rfl⟩ | ⟨rfl, rfl⟩ <;> decide +kernel
theorem no_xa_ros {la sp : Nat} (fl : (la = 87 ∧ sp = 94 ∨ la = 94 ∧ sp = 87)) : ([18, 19, 20, 21, 22, 23, 24, 25, 26, 27, 28, 29, 30, 31, 32, 33, 34, 35, 36, 37, 38, 39, 40, 41, 42, 43, 44, 45, 46, 47] : List Nat).all (fun i => !((ps_xa la sp).take 32).contains i) = true := by
  rcases fl with ⟨rfl, rfl⟩ | ⟨rfl, rfl⟩ <;> decide +kernel
theorem no_xa_trl {la sp : Nat} (fl : (la = 87 ∧ sp = 94 ∨ la = 94 ∧ sp = 87)) : ([52, 53, 54, 55, 56, 57, 58, 59, 60, 61, 62, 63, 64, 65, 66, 67, 68, 69, 70, 71, 72, 73, 74, 75, 76, 77, 78, 79, 80, 81, 82, 83, 84, 85] : List Nat).all (fun i => !((ps_xa la sp).take 32).contains i) = true := by
  rcases fl with ⟨rfl, rfl⟩ | ⟨rfl, rfl⟩ <;> decide +kernel
theorem no_xa_kep {la sp : Nat} (fl : (la = 87 ∧ sp = 94 ∨ la = 94 ∧ sp = 87)) : ([86, 101, 102, 103, 104, 105, 106, 107, 108] : List Nat).all (fun i => !((ps_xa la sp).take 32).contains i) = true := by
  rcases fl with ⟨rfl, rfl⟩ | ⟨rfl, rfl⟩ <;> decide +kernel
theorem no_xa_mod {la sp : Nat} (fl : (la = 87 ∧ sp = 94 ∨ la = 94 ∧ sp = 87)) : ([109, 110, 111, 112, 113, 114, 115, 116, 117] : List Nat).all (fun i => !((ps_xa la sp).take 32).contains i) = true := by
  rcases fl with ⟨rfl, rfl⟩ | ⟨rfl, rfl⟩ <;> decide +kernel
set_option maxRecDepth 20000 in
theorem put_xa {w u : List va_E} {kc : Int32} {la sp n : Nat} {tf : Nat → Int32} {S : ST} {tn sz : Nat} {P K : Nat → ST} {V : WT} {dn : Int32} {fb : Nat → Int32} {fell : Int32} {T : ST} {ra lo pr rb lb pb : Nat → Int32} {U : WT} {un : Int32} {ub : Nat → Int32} (hT : okZ T) (hY : okY U ub) (I : I8 w kc la sp n tf S tn sz P K V dn fb) (hu : u = xa fell T ra lo pr rb lb pb kc S V dn fb U un ub) : I8 (putM w (ps_xa la sp) u) kc la sp n tf S tn sz P K V dn fb ∧ JM w (putM w (ps_xa la sp) u) := by
  obtain ⟨fl, hl, ho, ht, hr, hc, hi, hro, hno, htr, hk, hw, hs⟩ := I
  have hlen : u.length = 32 := by rw [hu]; rfl
  have PP : ∀ (j q : Nat) (y : va_E), ((ps_xa la sp).take 32)[j]? = some q → (xa fell T ra lo pr rb lb pb kc S V dn fb U un ub)[j]? = some y → q < 109 → (putM w (ps_xa la sp) u)[q]? = some (ren (ps_xa la sp) y) := fun j q y h1 h2 h3 => put_in (w := w) (u := u) (ps := ps_xa la sp) (n := 32) (j := j) (k := q) (y := y) hlen h1 (nd_xa fl) (by rw [hu]; exact h2) (Nat.lt_of_lt_of_le h3 hl)
  clear hu
  refine ⟨⟨fl, ?_, ?_, ?_, ?_, ?_, ?_, ?_, ?_, ?_, ?_, ?_, ?_⟩, fun e to s hm => oMod hlen (no_xa_mod fl) hm, put_len _ _ _⟩
  · rw [put_len]; exact hl
  · exact (PP 0 (0) _ rfl rfl (by omega)).trans rfl
  · exact oTxt hlen (no_xa_txt fl) ht
  · exact oRdr hlen (no_xa_rdr fl) hr
  · exact ⟨rb, lb, pb, ⟨(PP 21 (5) _ rfl rfl (by omega)).trans rfl, (PP 22 (6) _ rfl rfl (by omega)).trans rfl, (PP 23 (7) _ rfl rfl (by omega)).trans rfl, (PP 24 (8) _ rfl rfl (by omega)).trans rfl⟩⟩
  · exact ⟨fell, T, ra, lo, pr, hT, (PP 1 (9) _ rfl rfl (by omega)).trans rfl, ⟨(PP 2 (10) _ rfl rfl (by omega)).trans rfl, (PP 3 (11) _ rfl rfl (by omega)).trans rfl, (PP 4 (12) _ rfl rfl (by omega)).trans rfl, (PP 5 (13) _ rfl rfl (by omega)).trans rfl⟩, ⟨(PP 6 (14) _ rfl rfl (by omega)).trans rfl, (PP 7 (15) _ rfl rfl (by omega)).trans rfl, (PP 8 (16) _ rfl rfl (by omega)).trans rfl, (PP 9 (17) _ rfl rfl (by omega)).trans rfl⟩⟩
  · exact oRos hlen (no_xa_ros fl) hro
  · exact ⟨(PP 10 (48) _ rfl rfl (by omega)).trans rfl, (PP 11 (49) _ rfl rfl (by omega)).trans rfl, (PP 12 (50) _ rfl rfl (by omega)).trans rfl, (PP 13 (51) _ rfl rfl (by omega)).trans rfl⟩
  · exact oTrl hlen (no_xa_trl fl) htr
  · exact oKep hlen (no_xa_kep fl) hk
  · exact ⟨(PP 14 (la) _ rfl rfl (by omega)).trans rfl, (PP 15 (la + 1) _ rfl rfl (by omega)).trans rfl, (PP 16 (la + 2) _ rfl rfl (by omega)).trans rfl, (PP 17 (la + 3) _ rfl rfl (by omega)).trans rfl, (PP 18 (la + 4) _ rfl rfl (by omega)).trans rfl, (PP 19 (la + 5) _ rfl rfl (by omega)).trans rfl, (PP 20 (la + 6) _ rfl rfl (by omega)).trans rfl⟩
  · exact ⟨U, un, ub, hY, ⟨(PP 25 (sp) _ rfl rfl (by omega)).trans rfl, (PP 26 (sp + 1) _ rfl rfl (by omega)).trans rfl, (PP 27 (sp + 2) _ rfl rfl (by omega)).trans rfl, (PP 28 (sp + 3) _ rfl rfl (by omega)).trans rfl, (PP 29 (sp + 4) _ rfl rfl (by omega)).trans rfl, (PP 30 (sp + 5) _ rfl rfl (by omega)).trans rfl, (PP 31 (sp + 6) _ rfl rfl (by omega)).trans rfl⟩⟩
theorem oc_xa {l : Launch} {M : MC} {av av2 : List Value} {w : List va_E} {v : Int32} {kc : Int32} {la sp n : Nat} {tf : Nat → Int32} {S : ST} {tn sz : Nat} {P K : Nat → ST} {V : WT} {dn : Int32} {fb : Nat → Int32} (I : I8 w kc la sp n tf S tn sz P K V dn fb) (hk0 : mkc M = 0) (hav : av.map (rv (sg (ps_xa la sp))) = av2) (hcon : ∀ fell T ra lo pr rb lb pb U un ub, okZ T → okY U ub → Con l M av (xa fell T ra lo pr rb lb pb kc S V dn fb U un ub) (fun r u => r = some (.int v) ∧ ∃ fell T ra lo pr rb lb pb U un ub, okZ T ∧ okY U ub ∧ u = xa fell T ra lo pr rb lb pb kc S V dn fb U un ub)) : Con l M av2 w (fun r u => r = some (.int v) ∧ I8 u kc la sp n tf S tn sz P K V dn fb ∧ JM w u) := by
  have I0 := I
  obtain ⟨fl, hl, ho, ht, hr, ⟨rb, lb, pb, hc⟩, ⟨fell, T, ra, lo, pr, hT, hi⟩, hro, hno, htr, hk, hw, ⟨U, un, ub, hY, hs⟩⟩ := I
  have h := con_open (ps := ps_xa la sp) (hcon fell T ra lo pr rb lb pb U un ub hT hY) hk0 (cut_xa ho hi hno hw hc hs) (nd_xa fl) (by rintro r u ⟨-, _, _, _, _, _, _, _, _, _, _, _, -, -, rfl⟩; rfl)
  rw [hav] at h
  refine con_post h ?_
  rintro r u ⟨r1, u1, ⟨rfl, _, _, _, _, _, _, _, _, _, _, _, hT2, hY2, hu⟩, rfl, rfl⟩
  exact ⟨rfl, put_xa hT2 hY2 I0 hu⟩

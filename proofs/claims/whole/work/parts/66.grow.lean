/-! 66.grow: a new object with its own cells, put into a field, in an open world -/
theorem clW_of {n : Nat} : ∀ {w : List va_E}, (∀ x ∈ w, clE n x) → clW n w
  | [], _ => trivial
  | x :: w, h => ⟨h x List.mem_cons_self, clW_of (fun y hy => h y (List.mem_cons_of_mem _ hy))⟩
theorem clW_app {n : Nat} {a b : List va_E} (h1 : clW n a) (h2 : clW n b) : clW n (a ++ b) := clW_of (fun x hx => by
  rcases List.mem_append.mp hx with h | h
  · exact clW_mem h1 x h
  · exact clW_mem h2 x h)
theorem clR_le {n m : Nat} (h : n ≤ m) {v : Value} (hv : clR n v = true) : clR m v = true := by
  cases v with
  | ref i => exact decide_eq_true (Nat.lt_of_lt_of_le (of_decide_eq_true hv) h)
  | _ => rfl
theorem clE_le {n m : Nat} (h : n ≤ m) {x : va_E} (hx : clE n x) : clE m x := by
  rcases x with ⟨c, N, f⟩ | ⟨c, fs⟩
  · rcases f with f | f | f | f | f
    · trivial
    · trivial
    · trivial
    · trivial
    · exact fun j r hr => Nat.lt_of_lt_of_le (hx j r hr) h
  · exact List.all_eq_true.mpr (fun v hv => clR_le h (List.all_eq_true.mp hx v hv))
theorem clW_le {n m : Nat} (h : n ≤ m) {w : List va_E} (hw : clW n w) : clW m w := clW_of (fun x hx => clE_le h (clW_mem hw x hx))
theorem clL_le {n m : Nat} (h : n ≤ m) {ls : List (Option Value)} (hl : clL n ls = true) : clL m ls = true := by
  unfold clL at hl ⊢
  refine List.all_eq_true.mpr (fun o ho => ?_)
  have := List.all_eq_true.mp hl o ho
  cases o with
  | none => rfl
  | some v => exact clR_le h this
theorem clE_ren {n m : Nat} {ps : List Nat} (h : ∀ j, j < n → sg ps j < m) {x : va_E} (hx : clE n x) : clE m (ren ps x) := by
  rcases x with ⟨c, N, f⟩ | ⟨c, fs⟩
  · rcases f with f | f | f | f | f
    · trivial
    · trivial
    · trivial
    · trivial
    · intro j r hr
      have hr : (f j).map (sg ps) = some r := hr
      obtain ⟨q, hq, rfl⟩ := Option.map_eq_some_iff.mp hr
      exact h q (hx j q hq)
  · show (fs.map (rv (sg ps))).all (clR m) = true
    refine List.all_eq_true.mpr (fun v hv => ?_)
    obtain ⟨u, hu, rfl⟩ := List.mem_map.mp hv
    have := List.all_eq_true.mp hx u hu
    cases u with
    | ref i => exact decide_eq_true (h i (of_decide_eq_true this))
    | _ => rfl
theorem clW_ren {n m : Nat} {ps : List Nat} (h : ∀ j, j < n → sg ps j < m) {w : List va_E} (hw : clW n w) : clW m (w.map (ren ps)) := clW_of (fun x hx => by
  obtain ⟨y, hy, rfl⟩ := List.mem_map.mp hx
  exact clE_ren h (clW_mem hw y hy))
theorem clW_set {n k : Nat} {w : List va_E} {x : va_E} (hw : clW n w) (hx : clE n x) : clW n (w.set k x) := clW_of (fun y hy => by
  rcases List.mem_or_eq_of_mem_set hy with h | h
  · exact clW_mem hw y h
  · exact h ▸ hx)
def rg (k m : Nat) : List Nat := List.range' k m
theorem sg_rg {k m j : Nat} (h : j < m) : sg (rg k m) j = k + j := by
  unfold sg rg
  rw [List.getD_eq_getElem?_getD, List.getElem?_range' h]
  simp
/-- k cells so far, all of them closed; the object itself at place 0 -/
def CSt (k : Nat) (w : List va_E) (fs : List Value) : Prop := w.length = k ∧ clW k w ∧ w[0]? = some (.inr (8, fs)) ∧ 0 < k
theorem cs_set {k : Nat} {w : List va_E} {fs : List Value} (i : Nat) {v : Value} (h : CSt k w fs) (hv : clR k v = true) : CSt k (w.set 0 (.inr (8, fs.set i v))) (fs.set i v) ∧ ∀ j, 0 < j → (w.set 0 (.inr (8, fs.set i v)))[j]? = w[j]? := by
  obtain ⟨h1, h2, h3, h4⟩ := h
  refine ⟨⟨by rw [List.length_set]; exact h1, clW_set h2 ?_, List.getElem?_set_self (by omega), h4⟩, fun j hj => List.getElem?_set_ne (by omega)⟩
  refine List.all_eq_true.mpr (fun u hu => ?_)
  rcases List.mem_or_eq_of_mem_set hu with q | q
  · exact List.all_eq_true.mp (clW_mem h2 _ (List.mem_of_getElem? h3)) u q
  · exact q ▸ hv
theorem cs_app {k m : Nat} {w b : List va_E} {fs : List Value} (h : CSt k w fs) (hb : clW m b) (hl : b.length = m) : CSt (k + m) (w ++ b.map (ren (rg k m))) fs ∧ (∀ j, j < k → (w ++ b.map (ren (rg k m)))[j]? = w[j]?) ∧ ∀ j, j < m → (w ++ b.map (ren (rg k m)))[k + j]? = (b.map (ren (rg k m)))[j]? := by
  obtain ⟨h1, h2, h3, h4⟩ := h
  refine ⟨⟨by rw [List.length_append, List.length_map, h1, hl], clW_app (clW_le (by omega) h2) (clW_ren (fun j hj => by rw [sg_rg hj]; omega) hb), ?_, by omega⟩, fun j hj => List.getElem?_append_left (by omega), fun j hj => ?_⟩
  · rw [List.getElem?_append_left (by omega)]; exact h3
  · rw [List.getElem?_append_right (by omega), h1, Nat.add_sub_cancel_left]
section MK
variable {E : State → (Nat → Prop) → Prop} {l : Launch} {M M1 : MC} {z : Nat × Nat × Nat} {Q : Option Value → List va_E → Prop} {pc n k nn ix ix2 ci N : Nat} {ls : List (Option Value)} {st : List Value} {w news : List va_E} {y0 : va_E} {fs fs0 : List Value} {C : String} {T : u_T} {ty : Nat → FieldType}
theorem h_mkN (hcs : CSt k w fs) (hd1 : decode (mby M) pc = .ok (.new ix, 3)) (hd2 : decode (mby M) (pc + 3) = .ok (.dup, 1)) (hd3 : decode (mby M) (pc + 4) = .ok (.invokespecial ix2, 3)) (hin : ∀ w ∈ u_ws C T N, w ∈ big) (hty : ∀ k, k < N → parseFieldDescriptor (T k).2.2.1 = some (ty k)) (hcl : Cond.classLink (mnm M).cls ix C ∈ big) (hinst : Cond.instantiable C N ∈ big) (hini : Cond.initialized C ∈ big) (hc : vwCl[ci]? = some (C, T, N)) (hfs : ∀ j, j < N → defaultValue (ty j) = vp_V fs0 j) (hf0 : fs0.all (clR 0) = true) (hcall : CIN (mnm M).cls ix2 M1 0) (hcon : Con l M1 [.ref 0] [.inr (ci, fs0)] (fun r u => r = none ∧ u = y0 :: news)) (hnn : news.length = nn) (hcn : clW (1 + nn) (y0 :: news)) (hst : st.all (clR k) = true) (hcls : clL 1 ls = true) (hdp : mdp M1 + 1 ≤ mdp M ∧ mlo M1 ≤ 29 ∧ 0 < mkc M1 ∧ z.2.1 + 1 + mkc M1 ≤ mkc M ∧ z.2.2 + N + mks M1 ≤ mks M) (hrs : (st.map fun v => v.category).sum ≤ 7) (hn : pc + 7 = n)
    (kk : GE E l M (z.1, z.2.1 + 1 + mkc M1, z.2.2 + N + mks M1) Q n ls (.ref k :: st) (w ++ (y0 :: news).map (ren (rg k (1 + nn))))) : GE E l M z Q pc ls st w := by
  obtain ⟨c1, c2, c3, c4⟩ := hcs
  obtain ⟨d1, d2, d3, d4, d5⟩ := hdp
  subst hn
  have hcx : clE 0 (.inr (ci, fs0)) := hf0
  refine h_new (k := k) (n := pc + 3) c1 hd1 hin hty hcl hinst hini hc hfs hf0 c2 hst (clL_le (by omega) hcls) ⟨by omega, by omega⟩ rfl ?_
  refine h_dup (n := pc + 4) hd2 rfl rfl ?_
  refine h_callIN (a := k) (k := k + 1) (nn := nn) (ps := rg k (1 + nn)) (n := pc + 7) (x0 := .inr (ci, fs0)) (by rw [List.length_append, c1]; rfl) hnn hcall hcon hd3 (by rw [List.getElem?_append_right (by omega), c1, Nat.sub_self]; rfl) hcx hcn (fun j hj => ?_) (clW_app (clW_le (by omega) c2) ⟨clE_le (by omega) hcx, trivial⟩) ?_ (clL_le (by omega) hcls) ⟨d1, d2, d3, d4, d5⟩ ?_ rfl ?_
  · rw [sg_rg hj]
    by_cases q : j = 0
    · rw [if_pos q, q]; rfl
    · rw [if_neg q]; omega
  · rw [List.all_cons, Bool.and_eq_true]
    exact ⟨decide_eq_true (Nat.lt_succ_self k), List.all_eq_true.mpr (fun v hv => clR_le (by omega) (List.all_eq_true.mp hst v hv))⟩
  · show 1 + (st.map fun v => v.category).sum ≤ 8
    omega
  · refine h_wN (w' := w ++ (y0 :: news).map (ren (rg k (1 + nn)))) ?_ kk
    rw [List.set_append_right _ _ (by omega), c1, Nat.sub_self, List.append_assoc]
    rfl
theorem h_mkI (hcs : CSt k w fs) (hd1 : decode (mby M) pc = .ok (.new ix, 3)) (hd2 : decode (mby M) (pc + 3) = .ok (.dup, 1)) (hd3 : decode (mby M) (pc + 4) = .ok (.invokespecial ix2, 3)) (hin : ∀ w ∈ u_ws C T N, w ∈ big) (hty : ∀ k, k < N → parseFieldDescriptor (T k).2.2.1 = some (ty k)) (hcl : Cond.classLink (mnm M).cls ix C ∈ big) (hinst : Cond.instantiable C N ∈ big) (hini : Cond.initialized C ∈ big) (hc : vwCl[ci]? = some (C, T, N)) (hfs : ∀ j, j < N → defaultValue (ty j) = vp_V fs0 j) (hf0 : fs0.all (clR 0) = true) (hcall : CI (mnm M).cls ix2 M1 0) (hcon : Con l M1 [.ref 0] [.inr (ci, fs0)] (fun r u => r = none ∧ u = y0 :: news)) (hnn : news.length = nn) (hcn : clW (1 + nn) (y0 :: news)) (hst : st.all (clR k) = true) (hcls : clL 1 ls = true) (hdp : mdp M1 + 1 ≤ mdp M ∧ mlo M1 ≤ 29 ∧ 0 < mkc M1 ∧ z.2.1 + 1 + mkc M1 ≤ mkc M ∧ z.2.2 + N + mks M1 ≤ mks M) (hrs : (st.map fun v => v.category).sum ≤ 7) (hn : pc + 7 = n)
    (kk : GE E l M (z.1, z.2.1 + 1 + mkc M1, z.2.2 + N + mks M1) Q n ls (.ref k :: st) (w ++ (y0 :: news).map (ren (rg k (1 + nn))))) : GE E l M z Q pc ls st w := by
  obtain ⟨c1, c2, c3, c4⟩ := hcs
  obtain ⟨d1, d2, d3, d4, d5⟩ := hdp
  subst hn
  have hcx : clE 0 (.inr (ci, fs0)) := hf0
  refine h_new (k := k) (n := pc + 3) c1 hd1 hin hty hcl hinst hini hc hfs hf0 c2 hst (clL_le (by omega) hcls) ⟨by omega, by omega⟩ rfl ?_
  refine h_dup (n := pc + 4) hd2 rfl rfl ?_
  refine h_callI (a := k) (k := k + 1) (nn := nn) (ps := rg k (1 + nn)) (n := pc + 7) (x0 := .inr (ci, fs0)) (by rw [List.length_append, c1]; rfl) hnn hcall hcon hd3 (by rw [List.getElem?_append_right (by omega), c1, Nat.sub_self]; rfl) hcx hcn (fun j hj => ?_) (clW_app (clW_le (by omega) c2) ⟨clE_le (by omega) hcx, trivial⟩) ?_ (clL_le (by omega) hcls) ⟨d1, d2, d3, d4, d5⟩ ?_ rfl ?_
  · rw [sg_rg hj]
    by_cases q : j = 0
    · rw [if_pos q, q]; rfl
    · rw [if_neg q]; omega
  · rw [List.all_cons, Bool.and_eq_true]
    exact ⟨decide_eq_true (Nat.lt_succ_self k), List.all_eq_true.mpr (fun v hv => clR_le (by omega) (List.all_eq_true.mp hst v hv))⟩
  · show 1 + (st.map fun v => v.category).sum ≤ 8
    omega
  · refine h_wN (w' := w ++ (y0 :: news).map (ren (rg k (1 + nn)))) ?_ kk
    rw [List.set_append_right _ _ (by omega), c1, Nat.sub_self, List.append_assoc]
    rfl
theorem h_fldN {i ix3 : Nat} {tyF : FieldType} (hcs : CSt k w fs) (hd0 : decode (mby M) pc = .ok (.aload_n 0, 1)) (hd1 : decode (mby M) (pc + 1) = .ok (.new ix, 3)) (hd2 : decode (mby M) (pc + 4) = .ok (.dup, 1)) (hd3 : decode (mby M) (pc + 5) = .ok (.invokespecial ix2, 3)) (hd4 : decode (mby M) (pc + 8) = .ok (.putfield ix3, 3)) (hin : ∀ w ∈ u_ws C T N, w ∈ big) (hty : ∀ k, k < N → parseFieldDescriptor (T k).2.2.1 = some (ty k)) (hcl : Cond.classLink (mnm M).cls ix C ∈ big) (hinst : Cond.instantiable C N ∈ big) (hini : Cond.initialized C ∈ big) (hc : vwCl[ci]? = some (C, T, N)) (hfs : ∀ j, j < N → defaultValue (ty j) = vp_V fs0 j) (hf0 : fs0.all (clR 0) = true) (hcall : CIN (mnm M).cls ix2 M1 0) (hcon : Con l M1 [.ref 0] [.inr (ci, fs0)] (fun r u => r = none ∧ u = y0 :: news)) (hnn : news.length = nn) (hcn : clW (1 + nn) (y0 :: news)) (hls : ls[0]? = some (some (.ref 0))) (hcls : clL 1 ls = true) (hdp : mdp M1 + 1 ≤ mdp M ∧ mlo M1 ≤ 29 ∧ 0 < mkc M1 ∧ z.2.1 + 1 + mkc M1 ≤ mkc M ∧ z.2.2 + N + mks M1 ≤ mks M) (hf : PF (mnm M).cls ix3 8 i true tyF) (hi0 : (mnm M).name = "<init>") (ho : (vwCl[8]?).map (fun r => r.1) = some (mnm M).cls) (hi : i < fs.length) (hnr : ∀ ad : Nat → Nat, narrow tyF (rv ad (.ref k)) = rv ad (.ref k)) (hfit : ∀ ad : Nat → Nat, fits tyF (rv ad (.ref k)) = true) (hn : pc + 11 = n)
    (kk : ∀ w2, CSt (k + (1 + nn)) w2 (fs.set i (.ref k)) → (∀ j, 0 < j → j < k → w2[j]? = w[j]?) → (∀ j, j < 1 + nn → w2[k + j]? = ((y0 :: news).map (ren (rg k (1 + nn))))[j]?) → GE E l M (z.1, z.2.1 + 1 + mkc M1, z.2.2 + N + mks M1) Q n ls [] w2) : GE E l M z Q pc ls [] w := by
  subst hn
  have h4 := hcs.2.2.2
  refine h_aload_n (n := pc + 1) hd0 hls rfl ?_
  refine h_mkN (n := pc + 8) hcs hd1 hd2 hd3 hin hty hcl hinst hini hc hfs hf0 hcall hcon hnn hcn (by rw [List.all_cons, Bool.and_eq_true]; exact ⟨decide_eq_true h4, rfl⟩) hcls hdp (by decide) rfl ?_
  obtain ⟨a1, a2, a3⟩ := cs_app (m := 1 + nn) hcs hcn (by rw [List.length_cons, hnn, Nat.add_comm])
  refine h_putF hf hi0 ho hd4 a1.2.2.1 hi hnr hfit rfl ?_
  obtain ⟨b1, b2⟩ := cs_set i (v := .ref k) a1 (show clR (k + (1 + nn)) (.ref k) = true from decide_eq_true (Nat.lt_add_of_pos_right (Nat.lt_of_lt_of_le Nat.zero_lt_one (Nat.le_add_right 1 nn))))
  exact kk _ b1 (fun j h0 hj => (b2 j h0).trans (a2 j hj)) (fun j hj => (b2 (k + j) (by omega)).trans (a3 j hj))
theorem h_fldI {i ix3 : Nat} {tyF : FieldType} (hcs : CSt k w fs) (hd0 : decode (mby M) pc = .ok (.aload_n 0, 1)) (hd1 : decode (mby M) (pc + 1) = .ok (.new ix, 3)) (hd2 : decode (mby M) (pc + 4) = .ok (.dup, 1)) (hd3 : decode (mby M) (pc + 5) = .ok (.invokespecial ix2, 3)) (hd4 : decode (mby M) (pc + 8) = .ok (.putfield ix3, 3)) (hin : ∀ w ∈ u_ws C T N, w ∈ big) (hty : ∀ k, k < N → parseFieldDescriptor (T k).2.2.1 = some (ty k)) (hcl : Cond.classLink (mnm M).cls ix C ∈ big) (hinst : Cond.instantiable C N ∈ big) (hini : Cond.initialized C ∈ big) (hc : vwCl[ci]? = some (C, T, N)) (hfs : ∀ j, j < N → defaultValue (ty j) = vp_V fs0 j) (hf0 : fs0.all (clR 0) = true) (hcall : CI (mnm M).cls ix2 M1 0) (hcon : Con l M1 [.ref 0] [.inr (ci, fs0)] (fun r u => r = none ∧ u = y0 :: news)) (hnn : news.length = nn) (hcn : clW (1 + nn) (y0 :: news)) (hls : ls[0]? = some (some (.ref 0))) (hcls : clL 1 ls = true) (hdp : mdp M1 + 1 ≤ mdp M ∧ mlo M1 ≤ 29 ∧ 0 < mkc M1 ∧ z.2.1 + 1 + mkc M1 ≤ mkc M ∧ z.2.2 + N + mks M1 ≤ mks M) (hf : PF (mnm M).cls ix3 8 i true tyF) (hi0 : (mnm M).name = "<init>") (ho : (vwCl[8]?).map (fun r => r.1) = some (mnm M).cls) (hi : i < fs.length) (hnr : ∀ ad : Nat → Nat, narrow tyF (rv ad (.ref k)) = rv ad (.ref k)) (hfit : ∀ ad : Nat → Nat, fits tyF (rv ad (.ref k)) = true) (hn : pc + 11 = n)
    (kk : ∀ w2, CSt (k + (1 + nn)) w2 (fs.set i (.ref k)) → (∀ j, 0 < j → j < k → w2[j]? = w[j]?) → (∀ j, j < 1 + nn → w2[k + j]? = ((y0 :: news).map (ren (rg k (1 + nn))))[j]?) → GE E l M (z.1, z.2.1 + 1 + mkc M1, z.2.2 + N + mks M1) Q n ls [] w2) : GE E l M z Q pc ls [] w := by
  subst hn
  have h4 := hcs.2.2.2
  refine h_aload_n (n := pc + 1) hd0 hls rfl ?_
  refine h_mkI (n := pc + 8) hcs hd1 hd2 hd3 hin hty hcl hinst hini hc hfs hf0 hcall hcon hnn hcn (by rw [List.all_cons, Bool.and_eq_true]; exact ⟨decide_eq_true h4, rfl⟩) hcls hdp (by decide) rfl ?_
  obtain ⟨a1, a2, a3⟩ := cs_app (m := 1 + nn) hcs hcn (by rw [List.length_cons, hnn, Nat.add_comm])
  refine h_putF hf hi0 ho hd4 a1.2.2.1 hi hnr hfit rfl ?_
  obtain ⟨b1, b2⟩ := cs_set i (v := .ref k) a1 (show clR (k + (1 + nn)) (.ref k) = true from decide_eq_true (Nat.lt_add_of_pos_right (Nat.lt_of_lt_of_le Nat.zero_lt_one (Nat.le_add_right 1 nn))))
  exact kk _ b1 (fun j h0 hj => (b2 j h0).trans (a2 j hj)) (fun j hj => (b2 (k + j) (by omega)).trans (a3 j hj))
theorem h_fldW {i ix3 : Nat} {tyF : FieldType} (hcs : CSt k w fs) (hd0 : decode (mby M) pc = .ok (.aload_n 0, 1)) (hd1 : decode (mby M) (pc + 1) = .ok (.new ix, 3)) (hd2 : decode (mby M) (pc + 4) = .ok (.dup, 1)) (hd3 : decode (mby M) (pc + 5) = .ok (.invokespecial ix2, 3)) (hd4 : decode (mby M) (pc + 8) = .ok (.putfield ix3, 3)) (hin : ∀ w ∈ u_ws C T N, w ∈ big) (hty : ∀ k, k < N → parseFieldDescriptor (T k).2.2.1 = some (ty k)) (hcl : Cond.classLink (mnm M).cls ix C ∈ big) (hinst : Cond.instantiable C N ∈ big) (hini : Cond.initialized C ∈ big) (hc : vwCl[ci]? = some (C, T, N)) (hfs : ∀ j, j < N → defaultValue (ty j) = vp_V fs0 j) (hf0 : fs0.all (clR 0) = true) (hcall : CIN (mnm M).cls ix2 M1 0) (hcon : Con l M1 [.ref 0] [.inr (ci, fs0)] (fun r u => r = none ∧ u = y0 :: news)) (hnn : news.length = nn) (hcn : clW (1 + nn) (y0 :: news)) (hls : ls[0]? = some (some (.ref 0))) (hcls : clL 1 ls = true) (hdp : mdp M1 + 1 ≤ mdp M ∧ mlo M1 ≤ 29 ∧ 0 < mkc M1 ∧ z.2.1 + 1 + mkc M1 ≤ mkc M ∧ z.2.2 + N + mks M1 ≤ mks M) (hf : PF (mnm M).cls ix3 8 i false tyF) (hi : i < fs.length) (hnr : ∀ ad : Nat → Nat, narrow tyF (rv ad (.ref k)) = rv ad (.ref k)) (hfit : ∀ ad : Nat → Nat, fits tyF (rv ad (.ref k)) = true) (hn : pc + 11 = n)
    (kk : ∀ w2, CSt (k + (1 + nn)) w2 (fs.set i (.ref k)) → (∀ j, 0 < j → j < k → w2[j]? = w[j]?) → (∀ j, j < 1 + nn → w2[k + j]? = ((y0 :: news).map (ren (rg k (1 + nn))))[j]?) → GE E l M (z.1, z.2.1 + 1 + mkc M1, z.2.2 + N + mks M1) Q n ls [] w2) : GE E l M z Q pc ls [] w := by
  subst hn
  have h4 := hcs.2.2.2
  refine h_aload_n (n := pc + 1) hd0 hls rfl ?_
  refine h_mkN (n := pc + 8) hcs hd1 hd2 hd3 hin hty hcl hinst hini hc hfs hf0 hcall hcon hnn hcn (by rw [List.all_cons, Bool.and_eq_true]; exact ⟨decide_eq_true h4, rfl⟩) hcls hdp (by decide) rfl ?_
  obtain ⟨a1, a2, a3⟩ := cs_app (m := 1 + nn) hcs hcn (by rw [List.length_cons, hnn, Nat.add_comm])
  refine h_put hf hd4 a1.2.2.1 hi hnr hfit rfl ?_
  obtain ⟨b1, b2⟩ := cs_set i (v := .ref k) a1 (show clR (k + (1 + nn)) (.ref k) = true from decide_eq_true (Nat.lt_add_of_pos_right (Nat.lt_of_lt_of_le Nat.zero_lt_one (Nat.le_add_right 1 nn))))
  exact kk _ b1 (fun j h0 hj => (b2 j h0).trans (a2 j hj)) (fun j hj => (b2 (k + j) (by omega)).trans (a3 j hj))
end MK

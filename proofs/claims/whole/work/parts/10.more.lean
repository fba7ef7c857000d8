/-! 10.more: rules in the form in which the walks use them -/
section RM
variable {l : Launch} {M M' : MC} {z : Nat × Nat × Nat} {Q : Option Value → List va_E → Prop} {pc n ix nA : Nat} {ls : List (Option Value)} {st rest : List Value} {w cw cw' : List va_E} {ps : List Nat} {cav : List Value}
theorem g_lsN {ls' : List (Option Value)} (h : ls = ls') (kk : G l M z Q pc ls' st w) : G l M z Q pc ls st w := h ▸ kk
theorem g_wN {w' : List va_E} (h : w = w') (kk : G l M z Q pc ls st w') : G l M z Q pc ls st w := h ▸ kk
theorem g_stN {st' : List Value} (h : st = st') (kk : G l M z Q pc ls st' w) : G l M z Q pc ls st w := h ▸ kk
/-- a static method of numbers -/
theorem g_callSi {v : Int32} (hcall : CS (mnm M).cls ix M' nA) (hcon : Fn l M' cav [] (some (.int v)) []) (hd : decode (mby M) pc = .ok (.invokestatic ix, 3)) (hst : st = cav.reverse ++ rest) (hcav : cav.map (rv (sg [])) = cav)
    (hdp : mdp M' + 1 ≤ mdp M ∧ mlo M' ≤ 29 ∧ mkc M' = 0 ∧ mks M' = 0 ∧ z.2.1 ≤ mkc M ∧ z.2.2 ≤ mks M) (hna : cav.length = nA) (hrs : (rest.map fun v => v.category).sum ≤ 8) (hn : pc + 3 = n) (kk : G l M z Q n ls (.int v :: rest) w) : G l M z Q pc ls st w := by
  refine g_callS (ps := []) hcall hcon hd (by rw [hcav]; exact hst) rfl rfl hdp hna hrs hn (fun r cw' hq => ?_)
  obtain ⟨rfl, rfl⟩ := hq
  exact ⟨rfl, kk⟩
theorem g_callSNi {v : Int32} (hcall : CSN (mnm M).cls ix M' nA) (hcon : Fn l M' cav [] (some (.int v)) []) (hd : decode (mby M) pc = .ok (.invokestatic ix, 3)) (hst : st = cav.reverse ++ rest) (hcav : cav.map (rv (sg [])) = cav)
    (hdp : mdp M' + 1 ≤ mdp M ∧ mlo M' ≤ 29 ∧ mkc M' = 0 ∧ mks M' = 0 ∧ z.2.1 ≤ mkc M ∧ z.2.2 ≤ mks M) (hna : cav.length = nA) (hrs : (rest.map fun v => v.category).sum ≤ 8) (hn : pc + 3 = n) (kk : G l M z Q n ls (.int v :: rest) w) : G l M z Q pc ls st w := by
  refine g_callSN (ps := []) hcall hcon hd (by rw [hcav]; exact hst) rfl rfl hdp hna hrs hn (fun r cw' hq => ?_)
  obtain ⟨rfl, rfl⟩ := hq
  exact ⟨rfl, kk⟩
theorem g_callWi {b0 ci : Nat} {fs : List Value} {v : Int32} {w' : List va_E} (hcall : CV (mnm M).cls ix M' nA) (hcon : Fn l M' (.ref b0 :: cav) w (some (.int v)) w') (hd : decode (mby M) pc = .ok (.invokevirtual ix, 3)) (hst : st = cav.reverse ++ .ref b0 :: rest)
    (hdp : mdp M' + 1 ≤ mdp M ∧ mlo M' ≤ 29 ∧ mkc M' = 0 ∧ mks M' = 0 ∧ z.2.1 ≤ mkc M ∧ z.2.2 ≤ mks M) (hrc : w[b0]? = some (.inr (ci, fs))) (hci : (vwCl[ci]?).map (fun r => r.1) = some (mnm M').cls) (hna : cav.length = nA) (hrs : (rest.map fun v => v.category).sum ≤ 8) (hlen : w'.length = w.length) (hn : pc + 3 = n)
    (kk : G l M z Q n ls (.int v :: rest) w') : G l M z Q pc ls st w := by
  refine g_callW hcall hcon hd hst hdp hrc hci hna hrs hn (fun r u hq => ?_)
  obtain ⟨rfl, rfl⟩ := hq
  exact ⟨hlen, kk⟩
theorem g_callWv {b0 ci : Nat} {fs : List Value} {w' : List va_E} (hcall : CV (mnm M).cls ix M' nA) (hcon : Fn l M' (.ref b0 :: cav) w none w') (hd : decode (mby M) pc = .ok (.invokevirtual ix, 3)) (hst : st = cav.reverse ++ .ref b0 :: rest)
    (hdp : mdp M' + 1 ≤ mdp M ∧ mlo M' ≤ 29 ∧ mkc M' = 0 ∧ mks M' = 0 ∧ z.2.1 ≤ mkc M ∧ z.2.2 ≤ mks M) (hrc : w[b0]? = some (.inr (ci, fs))) (hci : (vwCl[ci]?).map (fun r => r.1) = some (mnm M').cls) (hna : cav.length = nA) (hrs : (rest.map fun v => v.category).sum ≤ 8) (hlen : w'.length = w.length) (hn : pc + 3 = n)
    (kk : G l M z Q n ls rest w') : G l M z Q pc ls st w := by
  refine g_callW hcall hcon hd hst hdp hrc hci hna hrs hn (fun r u hq => ?_)
  obtain ⟨rfl, rfl⟩ := hq
  exact ⟨hlen, kk⟩
theorem g_callVi {b0 ci : Nat} {fs : List Value} {v : Int32} {w' : List va_E} (hcall : CV (mnm M).cls ix M' nA) (hcon : Fn l M' (.ref b0 :: cav) cw (some (.int v)) cw') (hd : decode (mby M) pc = .ok (.invokevirtual ix, 3)) (hst : st = (cav.map (rv (sg ps))).reverse ++ .ref (sg ps b0) :: rest) (hw : ps.map (fun i => w[i]?) = cw.map (fun x => some (ren ps x))) (hnd : va_nd ps = true)
    (hdp : mdp M' + 1 ≤ mdp M ∧ mlo M' ≤ 29 ∧ mkc M' = 0 ∧ mks M' = 0 ∧ z.2.1 ≤ mkc M ∧ z.2.2 ≤ mks M) (hrc : cw[b0]? = some (.inr (ci, fs))) (hci : (vwCl[ci]?).map (fun r => r.1) = some (mnm M').cls) (hna : cav.length = nA) (hrs : (rest.map fun v => v.category).sum ≤ 8) (hlen : cw'.length = cw.length) (hn : pc + 3 = n) (hput : putL w ps cw' = w')
    (kk : G l M z Q n ls (.int v :: rest) w') : G l M z Q pc ls st w := by
  refine g_callV hcall hcon hd hst hw hnd hdp hrc hci hna hrs hn (fun r u hq => ?_)
  obtain ⟨rfl, rfl⟩ := hq
  subst hput
  exact ⟨hlen, kk⟩
theorem g_callVv {b0 ci : Nat} {fs : List Value} {w' : List va_E} (hcall : CV (mnm M).cls ix M' nA) (hcon : Fn l M' (.ref b0 :: cav) cw none cw') (hd : decode (mby M) pc = .ok (.invokevirtual ix, 3)) (hst : st = (cav.map (rv (sg ps))).reverse ++ .ref (sg ps b0) :: rest) (hw : ps.map (fun i => w[i]?) = cw.map (fun x => some (ren ps x))) (hnd : va_nd ps = true)
    (hdp : mdp M' + 1 ≤ mdp M ∧ mlo M' ≤ 29 ∧ mkc M' = 0 ∧ mks M' = 0 ∧ z.2.1 ≤ mkc M ∧ z.2.2 ≤ mks M) (hrc : cw[b0]? = some (.inr (ci, fs))) (hci : (vwCl[ci]?).map (fun r => r.1) = some (mnm M').cls) (hna : cav.length = nA) (hrs : (rest.map fun v => v.category).sum ≤ 8) (hlen : cw'.length = cw.length) (hn : pc + 3 = n) (hput : putL w ps cw' = w')
    (kk : G l M z Q n ls rest w') : G l M z Q pc ls st w := by
  refine g_callV hcall hcon hd hst hw hnd hdp hrc hci hna hrs hn (fun r u hq => ?_)
  obtain ⟨rfl, rfl⟩ := hq
  subst hput
  exact ⟨hlen, kk⟩
theorem g_callPi {v : Int32} {w' : List va_E} (hcall : CS (mnm M).cls ix M' nA) (hcon : Fn l M' cav cw (some (.int v)) cw') (hd : decode (mby M) pc = .ok (.invokestatic ix, 3)) (hst : st = (cav.map (rv (sg ps))).reverse ++ rest) (hw : ps.map (fun i => w[i]?) = cw.map (fun x => some (ren ps x))) (hnd : va_nd ps = true)
    (hdp : mdp M' + 1 ≤ mdp M ∧ mlo M' ≤ 29 ∧ mkc M' = 0 ∧ mks M' = 0 ∧ z.2.1 ≤ mkc M ∧ z.2.2 ≤ mks M) (hna : cav.length = nA) (hrs : (rest.map fun v => v.category).sum ≤ 8) (hlen : cw'.length = cw.length) (hn : pc + 3 = n) (hput : putL w ps cw' = w')
    (kk : G l M z Q n ls (.int v :: rest) w') : G l M z Q pc ls st w := by
  refine g_callS hcall hcon hd hst hw hnd hdp hna hrs hn (fun r u hq => ?_)
  obtain ⟨rfl, rfl⟩ := hq
  subst hput
  exact ⟨hlen, kk⟩
theorem g_callPv {w' : List va_E} (hcall : CS (mnm M).cls ix M' nA) (hcon : Fn l M' cav cw none cw') (hd : decode (mby M) pc = .ok (.invokestatic ix, 3)) (hst : st = (cav.map (rv (sg ps))).reverse ++ rest) (hw : ps.map (fun i => w[i]?) = cw.map (fun x => some (ren ps x))) (hnd : va_nd ps = true)
    (hdp : mdp M' + 1 ≤ mdp M ∧ mlo M' ≤ 29 ∧ mkc M' = 0 ∧ mks M' = 0 ∧ z.2.1 ≤ mkc M ∧ z.2.2 ≤ mks M) (hna : cav.length = nA) (hrs : (rest.map fun v => v.category).sum ≤ 8) (hlen : cw'.length = cw.length) (hn : pc + 3 = n) (hput : putL w ps cw' = w')
    (kk : G l M z Q n ls rest w') : G l M z Q pc ls st w := by
  refine g_callS hcall hcon hd hst hw hnd hdp hna hrs hn (fun r u hq => ?_)
  obtain ⟨rfl, rfl⟩ := hq
  subst hput
  exact ⟨hlen, kk⟩
end RM
/-! truth values, bits -/
def bI (b : Bool) : Int32 := if b then nI 1 else nI 0
theorem bI_t {b : Bool} (h : b = true) : bI b = nI 1 := by rw [h]; rfl
theorem bI_f {b : Bool} (h : b = false) : bI b = nI 0 := by rw [h]; rfl
theorem bI_0 {b : Bool} : bI b = 0 ↔ b = false := by cases b <;> decide
theorem bI_n0 {b : Bool} : ¬ bI b = 0 ↔ b = true := by cases b <;> decide
theorem bI_nar (b : Bool) : narrow .boolean (.int (bI b)) = .int (bI b) := by cases b <;> decide
theorem nI1_eq : (nI 1 = 0) = False := by decide
theorem nI0_eq : (nI 0 = 0) = True := by decide
/-- bit k of x, as the program asks for it -/
def hb (x k : Int32) : Bool := decide (x >>> (k &&& 31) &&& nI 1 = nI 1)
/-- v within lo and hi -/
def inB (v lo hi : Int32) : Bool := decide (lo ≤ v) && decide (v ≤ hi)

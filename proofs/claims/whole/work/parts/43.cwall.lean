/-! 43.cwall: the class's items are the reference's -/
theorem ltc_ltI {ta : Nat → Nat} {n q e : Nat} (h1 : 0 < e) (h2 : e < 1000) : (ltc ta n q = nI e) ↔ (ltI ta n q = nI e) := by
  unfold ltc ltI
  by_cases h : q < n
  · rw [if_pos h, if_pos h]
  · rw [if_neg h, if_neg h]
    constructor
    · intro x
      exact absurd ((nI_eq (by decide) (by omega)).mp x) (by omega)
    · intro x
      exact absurd x ((by decide +kernel : ∀ e, e < 1000 → ¬ (-1 : Int32) = nI e) e h2)
/-- a number with e behind it: it, the place behind -/
def stp (ta : Nat → Nat) (n p e : Nat) : Option (Nat × Nat) := (nrF ta n p).bind (fun r => if ltc ta n r.2 = nI e then some (r.1, r.2 + 1) else none)
theorem nu_n {ta : Nat → Nat} {n p e : Nat} (h1 : 0 < e) (h2 : e < 1000) (h : stp ta n p e = none) (lo hi : Int32) : (nuA ta n p lo hi e).1 = (-1) := by
  unfold stp at h
  unfold nuA
  cases hr : nrF ta n p with
  | none => rfl
  | some r =>
    obtain ⟨v, q⟩ := r
    rw [hr] at h
    have h : (if ltc ta n q = nI e then some (v, q + 1) else none) = none := h
    by_cases he : ltc ta n q = nI e
    · rw [if_pos he] at h; cases h
    · show (if decide (ltI ta n q = nI e) && inB (nI v) lo hi then nI v else (-1)) = (-1)
      rw [decide_eq_false (fun x => he ((ltc_ltI h1 h2).mpr x)), Bool.false_and]
      rfl
theorem nu_s {ta : Nat → Nat} {n p e v q : Nat} (h1 : 0 < e) (h2 : e < 1000) (h : stp ta n p e = some (v, q)) (lo hi : Int32) : nuA ta n p lo hi e = (if inB (nI v) lo hi then nI v else (-1), q) := by
  unfold stp at h
  unfold nuA
  cases hr : nrF ta n p with
  | none => rw [hr] at h; cases h
  | some r =>
    obtain ⟨v2, q2⟩ := r
    rw [hr] at h
    have h : (if ltc ta n q2 = nI e then some (v2, q2 + 1) else none) = some (v, q) := h
    by_cases he : ltc ta n q2 = nI e
    · rw [if_pos he] at h
      cases h
      show (if decide (ltI ta n q2 = nI e) && inB (nI v) lo hi then nI v else (-1), q2 + 1) = _
      rw [decide_eq_true ((ltc_ltI h1 h2).mp he), Bool.true_and]
    · rw [if_neg he] at h; cases h
theorem stp_le {ta : Nat → Nat} {n p e v q : Nat} (h : stp ta n p e = some (v, q)) : v ≤ 99 ∧ p < q ∧ q ≤ p + 3 := by
  unfold stp at h
  cases hr : nrF ta n p with
  | none => rw [hr] at h; cases h
  | some r =>
    obtain ⟨v2, q2⟩ := r
    rw [hr] at h
    have h : (if ltc ta n q2 = nI e then some (v2, q2 + 1) else none) = some (v, q) := h
    have := nrF_ok hr
    by_cases he : ltc ta n q2 = nI e
    · rw [if_pos he] at h
      cases h
      omega
    · rw [if_neg he] at h; cases h
theorem syL_s {ta : Nat → Nat} {n w j i p e : Nat} {nm : Nat → Int32} (he : (if i + 1 = w then 59 else 44) = e) : syL ta n w (j + 1) i p nm = (stp ta n p e).bind (fun r => syL ta n w j (i + 1) r.2 (upd nm i (nI r.1))) := by
  rw [syL, he]
  unfold stp
  cases hr : nrF ta n p with
  | none => rfl
  | some r =>
    obtain ⟨v, q⟩ := r
    show (if ltc ta n q = nI e then syL ta n w j (i + 1) (q + 1) (upd nm i (nI v)) else none) = Option.bind (if ltc ta n q = nI e then some (v, q + 1) else none) _
    by_cases hq : ltc ta n q = nI e
    · rw [if_pos hq, if_pos hq]; rfl
    · rw [if_neg hq, if_neg hq]; rfl
def FlR (R : RT) (V : WT) (be : Nat → Int32) (dn : Int32) : Prop := R.1 = false ∧ R.2.1 = V ∧ R.2.2.1 = be ∧ R.2.2.2.1 = dn
def FlB (R : Bool × WT × Nat) (V : WT) : Prop := R.1 = false ∧ R.2.1 = V
def FlF (R : Bool × WT × (Nat → Int32) × Nat) (V : WT) (be : Nat → Int32) : Prop := R.1 = false ∧ R.2.1 = V ∧ R.2.2.1 = be
theorem neg_v {v : Nat} (hv : v ≤ 99) (B : Bool) : ((if B then nI v else (-1) : Int32) < 0) ↔ B = false := by
  cases B with
  | true => exact ⟨fun h => absurd h (nI_pos (by omega)), fun h => Bool.noConfusion h⟩
  | false => exact ⟨fun _ => rfl, fun _ => neg1_lt⟩
theorem isB_any {nb x : Nat} (hn : nb ≤ 64) (hx : x ≤ 99) : isB nb (nI x) = decide (x < nb) := by
  by_cases h : x < nb
  · rw [isB_nI hn (by omega)]
  · rw [isB_f2 hn (nI_le (by omega) (by omega)), decide_eq_false h]
/-- a bay -/
theorem it_b {ta : Nat → Nat} {n p : Nat} {V : WT} (hV : okV V) (be : Nat → Int32) (dn : Int32) (nm : Nat → Int32) : (syL ta n 2 2 0 p nm = none → FlR (riF ta n p 98 V be dn) V be dn) ∧
    ∀ nm2 p2, syL ta n 2 2 0 p nm = some (nm2, p2) → ∃ t h : Nat, nm2 0 = nI t ∧ nm2 1 = nI h ∧ t ≤ 99 ∧ h ≤ 99 ∧ (¬ (vnb V < 8 ∧ h ≤ 20) → FlR (riF ta n p 98 V be dn) V be dn) ∧ (vnb V < 8 → h ≤ 20 → riF ta n p 98 V be dn = (true, vB V (nI t) (nI h), be, dn, p2)) := by
  have hb8 := hV.1
  have fl : FlB (rbF ta n p V) V → FlR (riF ta n p 98 V be dn) V be dn := fun q => by rw [riF_b]; exact ⟨q.1, q.2, rfl, rfl⟩
  rw [syL_s (e := 44) rfl]
  cases h0 : stp ta n p 44 with
  | none =>
    refine ⟨fun _ => fl ?_, fun _ _ h => by cases h⟩
    have e0 := nu_n (by decide) (by decide) h0 (nI 0) (nI 99)
    unfold rbF nuB
    rw [e0, if_pos (decide_eq_true neg1_lt)]
    exact ⟨rfl, rfl⟩
  | some r0 =>
    obtain ⟨t, q0⟩ := r0
    have l0 := stp_le h0
    have e0 : nuA ta n p (nI 0) (nI 99) 44 = (nI t, q0) := by
      rw [nu_s (by decide) (by decide) h0, inB_nI (by omega) (by decide) (by decide), decide_eq_true (Nat.zero_le _), decide_eq_true l0.1]; rfl
    have n0 : ¬ nI t < 0 := nI_pos (by omega)
    show (syL ta n 2 1 1 q0 (upd nm 0 (nI t)) = none → _) ∧ ∀ nm2 p2, syL ta n 2 1 1 q0 (upd nm 0 (nI t)) = some (nm2, p2) → _
    rw [syL_s (e := 59) rfl]
    cases h1 : stp ta n q0 59 with
    | none =>
      refine ⟨fun _ => fl ?_, fun _ _ h => by cases h⟩
      have e1 := nu_n (by decide) (by decide) h1 (nI 0) (nI 20)
      unfold rbF nuB
      rw [e0, if_neg (by rw [decide_eq_false n0]; exact Bool.false_ne_true), e1, decide_eq_true neg1_lt, Bool.true_or, if_pos rfl]
      exact ⟨rfl, rfl⟩
    | some r1 =>
      obtain ⟨h, q1⟩ := r1
      have l1 := stp_le h1
      have e1 : nuA ta n q0 (nI 0) (nI 20) 59 = (if decide (h ≤ 20) then nI h else (-1), q1) := by
        rw [nu_s (by decide) (by decide) h1, inB_nI (by omega) (by decide) (by decide), decide_eq_true (Nat.zero_le _), Bool.true_and]
      refine ⟨(fun x => by cases x), fun nm2 p2 x => ?_⟩
      have x : some (upd (upd nm 0 (nI t)) 1 (nI h), q1) = some (nm2, p2) := x
      cases x
      refine ⟨t, h, by rw [pk_un (by decide), pk_us], by rw [pk_us], l0.1, l1.1, fun hn => fl ?_, fun h8 h20 => ?_⟩
      · unfold rbF nuB
        rw [e0, if_neg (by rw [decide_eq_false n0]; exact Bool.false_ne_true), e1, if_pos]
        · exact ⟨rfl, rfl⟩
        · show (decide ((if decide (h ≤ 20) then nI h else (-1)) < 0) || decide (vnb V = 8)) = true
          by_cases c : h ≤ 20
          · rw [decide_eq_true (show vnb V = 8 by omega), Bool.or_true]
          · rw [decide_eq_true ((neg_v l1.1 _).mpr (decide_eq_false c)), Bool.true_or]
      · rw [riF_b]
        unfold rbF nuB
        rw [e0, if_neg (by rw [decide_eq_false n0]; exact Bool.false_ne_true), e1, decide_eq_true h20, if_neg]
        · rfl
        · show ¬ (decide (nI h < 0) || decide (vnb V = 8)) = true
          rw [decide_eq_false (nI_pos (by omega)), decide_eq_false (by omega)]
          exact Bool.false_ne_true
/-- carts -/
theorem it_c {ta : Nat → Nat} {n p : Nat} {V : WT} (hV : okV V) (be : Nat → Int32) (dn : Int32) (nm : Nat → Int32) : (syL ta n 1 1 0 p nm = none → FlR (riF ta n p 99 V be dn) V be dn) ∧
    ∀ nm2 p2, syL ta n 1 1 0 p nm = some (nm2, p2) → ∃ c : Nat, nm2 0 = nI c ∧ c ≤ 99 ∧ (¬ (vnc V < 12 ∧ c ≤ 1) → FlR (riF ta n p 99 V be dn) V be dn) ∧ (vnc V < 12 → c ≤ 1 → riF ta n p 99 V be dn = (true, vC V (nI c), be, dn, p2)) := by
  have hc12 := hV.2.2
  rw [syL_s (e := 59) rfl, riF_c]
  cases h0 : stp ta n p 59 with
  | none =>
    refine ⟨fun _ => ?_, fun _ _ h => by cases h⟩
    have e0 := nu_n (by decide) (by decide) h0 (nI 0) (nI 1)
    unfold rcF
    rw [e0, decide_eq_true neg1_lt, Bool.true_or, if_pos rfl]
    exact ⟨rfl, rfl, rfl, rfl⟩
  | some r0 =>
    obtain ⟨c, q0⟩ := r0
    have l0 := stp_le h0
    have e0 : nuA ta n p (nI 0) (nI 1) 59 = (if decide (c ≤ 1) then nI c else (-1), q0) := by
      rw [nu_s (by decide) (by decide) h0, inB_nI (by omega) (by decide) (by decide), decide_eq_true (Nat.zero_le _), Bool.true_and]
    refine ⟨(fun x => by cases x), fun nm2 p2 x => ?_⟩
    have x : some (upd nm 0 (nI c), q0) = some (nm2, p2) := x
    cases x
    refine ⟨c, by rw [pk_us], l0.1, fun hn => ?_, fun h12 h1 => ?_⟩
    · unfold rcF
      rw [e0, if_pos]
      · exact ⟨rfl, rfl, rfl, rfl⟩
      · show (decide ((if decide (c ≤ 1) then nI c else (-1)) < 0) || decide (vnc V = 12)) = true
        by_cases q : c ≤ 1
        · rw [decide_eq_true (show vnc V = 12 by omega), Bool.or_true]
        · rw [decide_eq_true ((neg_v l0.1 _).mpr (decide_eq_false q)), Bool.true_or]
    · unfold rcF
      rw [e0, decide_eq_true h1, if_neg]
      · rfl
      · show ¬ (decide (nI c < 0) || decide (vnc V = 12)) = true
        rw [decide_eq_false (nI_pos (by omega)), decide_eq_false (by omega)]
        exact Bool.false_ne_true
/-- one that is down -/
theorem it_d {ta : Nat → Nat} {n p : Nat} {V : WT} (hV : okV V) (be : Nat → Int32) (dn : Int32) (nm : Nat → Int32) : (syL ta n 1 1 0 p nm = none → FlR (riF ta n p 100 V be dn) V be dn) ∧
    ∀ nm2 p2, syL ta n 1 1 0 p nm = some (nm2, p2) → ∃ x : Nat, nm2 0 = nI x ∧ x ≤ 99 ∧ (¬ x < vnf V → FlR (riF ta n p 100 V be dn) V be dn) ∧ (x < vnf V → riF ta n p 100 V be dn = (true, V, be, dn ||| nI 1 <<< (nI x &&& 31), p2)) := by
  have hf6 := hV.2.1
  rw [syL_s (e := 59) rfl, riF_d]
  cases h0 : stp ta n p 59 with
  | none =>
    refine ⟨fun _ => ?_, fun _ _ h => by cases h⟩
    have e0 := nu_n (by decide) (by decide) h0 (nI 0) (nI (vnf V) - nI 1)
    unfold rdF
    rw [e0, if_neg (by decide)]
    exact ⟨rfl, rfl, rfl, or_0 dn⟩
  | some r0 =>
    obtain ⟨x, q0⟩ := r0
    have l0 := stp_le h0
    have e0 : nuA ta n p (nI 0) (nI (vnf V) - nI 1) 59 = (if decide (x < vnf V) then nI x else (-1), q0) := by
      rw [nu_s (by decide) (by decide) h0, show inB (nI x) (nI 0) (nI (vnf V) - nI 1) = decide (x < vnf V) from isB_any (by omega) l0.1]
    refine ⟨(fun x => by cases x), fun nm2 p2 y => ?_⟩
    have y : some (upd nm 0 (nI x), q0) = some (nm2, p2) := y
    cases y
    refine ⟨x, by rw [pk_us], l0.1, fun hn => ?_, fun hx => ?_⟩
    · unfold rdF
      rw [e0, decide_eq_false hn]
      show FlR (if (0 : Int32) ≤ (-1) then _ else (false, V, be, dn ||| nI 0, q0)) V be dn
      rw [if_neg (by decide)]
      exact ⟨rfl, rfl, rfl, or_0 dn⟩
    · unfold rdF
      rw [e0, decide_eq_true hx]
      show (if 0 ≤ nI x then (true, V, be, dn ||| nI 1 <<< (nI x &&& 31), q0) else _) = _
      rw [if_pos (nI_pos' (by omega))]
/-- a buttress -/
theorem it_f {ta : Nat → Nat} {n p : Nat} {V : WT} (hV : okV V) (be : Nat → Int32) (dn : Int32) (nm : Nat → Int32) : (syL ta n 4 4 0 p nm = none → FlR (riF ta n p 102 V be dn) V be dn) ∧
    ∀ nm2 p2, syL ta n 4 4 0 p nm = some (nm2, p2) → ∃ k s x t : Nat, nm2 0 = nI k ∧ nm2 1 = nI s ∧ nm2 2 = nI x ∧ nm2 3 = nI t ∧ (k ≤ 99 ∧ s ≤ 99 ∧ x ≤ 99 ∧ t ≤ 99) ∧ (¬ (k ≤ 3 ∧ 1 ≤ s ∧ x < vnb V ∧ 1 ≤ t ∧ t ≤ 30 ∧ vnf V < 6) → FlR (riF ta n p 102 V be dn) V be dn) ∧ (k ≤ 3 → 1 ≤ s → x < vnb V → 1 ≤ t → t ≤ 30 → vnf V < 6 → riF ta n p 102 V be dn = (true, vF V (nI k) (nI s) (nI t), upd be (vnf V) (nI x), dn, p2)) := by
  have hb8 := hV.1
  have hf6 := hV.2.1
  have fl : FlF (rfF ta n p V be) V be → FlR (riF ta n p 102 V be dn) V be dn := fun q => by rw [riF_f]; exact ⟨q.1, q.2.1, q.2.2, rfl⟩
  rw [syL_s (e := 44) rfl]
  cases h0 : stp ta n p 44 with
  | none =>
    refine ⟨fun _ => fl ?_, fun _ _ h => by cases h⟩
    unfold rfF
    rw [if_pos (by rw [show (b1A ta n p).1 = (-1) from nu_n (by decide) (by decide) h0 _ _]; exact neg1_lt)]
    exact ⟨rfl, rfl, rfl⟩
  | some r0 =>
    obtain ⟨k, q0⟩ := r0
    have l0 := stp_le h0
    have e0 : b1A ta n p = (if decide (k ≤ 3) then nI k else (-1), q0) := by
      show nuA ta n p (nI 0) (nI 3) 44 = _
      rw [nu_s (by decide) (by decide) h0, inB_nI (by omega) (by decide) (by decide), decide_eq_true (Nat.zero_le _), Bool.true_and]
    show (syL ta n 4 3 1 q0 (upd nm 0 (nI k)) = none → _) ∧ ∀ nm2 p2, syL ta n 4 3 1 q0 (upd nm 0 (nI k)) = some (nm2, p2) → _
    rw [syL_s (e := 44) rfl]
    cases h1 : stp ta n q0 44 with
    | none =>
      refine ⟨fun _ => fl ?_, fun _ _ h => by cases h⟩
      have e1 : (b2A ta n p).1 = (-1) := by
        show (nuA ta n (b1A ta n p).2 (nI 1) (nI 99) 44).1 = _
        rw [e0]; exact nu_n (by decide) (by decide) h1 _ _
      unfold rfF
      split
      · exact ⟨rfl, rfl, rfl⟩
      · rw [if_pos (by rw [e1]; exact neg1_lt)]
        exact ⟨rfl, rfl, rfl⟩
    | some r1 =>
      obtain ⟨s, q1⟩ := r1
      have l1 := stp_le h1
      have e1 : b2A ta n p = (if decide (1 ≤ s) then nI s else (-1), q1) := by
        show nuA ta n (b1A ta n p).2 (nI 1) (nI 99) 44 = _
        rw [e0]
        show nuA ta n q0 (nI 1) (nI 99) 44 = _
        rw [nu_s (by decide) (by decide) h1, inB_nI (by omega) (by decide) (by decide), decide_eq_true l1.1, Bool.and_true]
      show (syL ta n 4 2 2 q1 (upd (upd nm 0 (nI k)) 1 (nI s)) = none → _) ∧ ∀ nm2 p2, syL ta n 4 2 2 q1 (upd (upd nm 0 (nI k)) 1 (nI s)) = some (nm2, p2) → _
      rw [syL_s (e := 44) rfl]
      cases h2 : stp ta n q1 44 with
      | none =>
        refine ⟨fun _ => fl ?_, fun _ _ h => by cases h⟩
        have e2 : (b3A ta n p (vnb V)).1 = (-1) := by
          show (nuA ta n (b2A ta n p).2 (nI 0) (nI (vnb V) - nI 1) 44).1 = _
          rw [e1]; exact nu_n (by decide) (by decide) h2 _ _
        unfold rfF
        split
        · exact ⟨rfl, rfl, rfl⟩
        · split
          · exact ⟨rfl, rfl, rfl⟩
          · rw [if_pos (by rw [e2]; exact neg1_lt)]
            exact ⟨rfl, rfl, rfl⟩
      | some r2 =>
        obtain ⟨x, q2⟩ := r2
        have l2 := stp_le h2
        have e2 : b3A ta n p (vnb V) = (if decide (x < vnb V) then nI x else (-1), q2) := by
          show nuA ta n (b2A ta n p).2 (nI 0) (nI (vnb V) - nI 1) 44 = _
          rw [e1]
          show nuA ta n q1 (nI 0) (nI (vnb V) - nI 1) 44 = _
          rw [nu_s (by decide) (by decide) h2, show inB (nI x) (nI 0) (nI (vnb V) - nI 1) = decide (x < vnb V) from isB_any (by omega) l2.1]
        show (syL ta n 4 1 3 q2 (upd (upd (upd nm 0 (nI k)) 1 (nI s)) 2 (nI x)) = none → _) ∧ ∀ nm2 p2, syL ta n 4 1 3 q2 (upd (upd (upd nm 0 (nI k)) 1 (nI s)) 2 (nI x)) = some (nm2, p2) → _
        rw [syL_s (e := 59) rfl]
        cases h3 : stp ta n q2 59 with
        | none =>
          refine ⟨fun _ => fl ?_, fun _ _ h => by cases h⟩
          have e3 : (b4A ta n p (vnb V)).1 = (-1) := by
            show (nuA ta n (b3A ta n p (vnb V)).2 (nI 1) (nI 30) 59).1 = _
            rw [e2]; exact nu_n (by decide) (by decide) h3 _ _
          unfold rfF
          split
          · exact ⟨rfl, rfl, rfl⟩
          · split
            · exact ⟨rfl, rfl, rfl⟩
            · split
              · exact ⟨rfl, rfl, rfl⟩
              · rw [e3, decide_eq_true neg1_lt, Bool.true_or, if_pos rfl]
                exact ⟨rfl, rfl, rfl⟩
        | some r3 =>
          obtain ⟨t, q3⟩ := r3
          have l3 := stp_le h3
          have e3 : b4A ta n p (vnb V) = (if decide (1 ≤ t) && decide (t ≤ 30) then nI t else (-1), q3) := by
            show nuA ta n (b3A ta n p (vnb V)).2 (nI 1) (nI 30) 59 = _
            rw [e2]
            show nuA ta n q2 (nI 1) (nI 30) 59 = _
            rw [nu_s (by decide) (by decide) h3, inB_nI (by omega) (by decide) (by decide)]
          refine ⟨(fun y => by cases y), fun nm2 p2 y => ?_⟩
          have y : some (upd (upd (upd (upd nm 0 (nI k)) 1 (nI s)) 2 (nI x)) 3 (nI t), q3) = some (nm2, p2) := y
          cases y
          refine ⟨k, s, x, t, by rw [pk_un (by decide), pk_un (by decide), pk_un (by decide), pk_us], by rw [pk_un (by decide), pk_un (by decide), pk_us], by rw [pk_un (by decide), pk_us], by rw [pk_us], ⟨l0.1, l1.1, l2.1, l3.1⟩, fun hn => fl ?_, fun a1 a2 a3 a4 a5 a6 => ?_⟩
          · unfold rfF
            split
            · exact ⟨rfl, rfl, rfl⟩
            · next g0 =>
              split
              · exact ⟨rfl, rfl, rfl⟩
              · next g1 =>
                split
                · exact ⟨rfl, rfl, rfl⟩
                · next g2 =>
                  split
                  · exact ⟨rfl, rfl, rfl⟩
                  · next g3 =>
                    exfalso
                    rw [e0] at g0
                    rw [e1] at g1
                    rw [e2] at g2
                    rw [e3] at g3
                    have f0 : decide (k ≤ 3) = true := by
                      cases c : decide (k ≤ 3) with
                      | true => rfl
                      | false => exact absurd ((neg_v l0.1 _).mpr c) g0
                    have f1 : decide (1 ≤ s) = true := by
                      cases c : decide (1 ≤ s) with
                      | true => rfl
                      | false => exact absurd ((neg_v l1.1 _).mpr c) g1
                    have f2 : decide (x < vnb V) = true := by
                      cases c : decide (x < vnb V) with
                      | true => rfl
                      | false => exact absurd ((neg_v l2.1 _).mpr c) g2
                    have f3 : (decide (1 ≤ t) && decide (t ≤ 30)) = true := by
                      cases c : (decide (1 ≤ t) && decide (t ≤ 30)) with
                      | true => rfl
                      | false => exact absurd (by rw [decide_eq_true ((neg_v l3.1 _).mpr c), Bool.true_or]) g3
                    have f4 : ¬ vnf V = 6 := fun c => g3 (by rw [decide_eq_true c, Bool.or_true])
                    rw [Bool.and_eq_true] at f3
                    exact hn ⟨of_decide_eq_true f0, of_decide_eq_true f1, of_decide_eq_true f2, of_decide_eq_true f3.1, of_decide_eq_true f3.2, by omega⟩
          · rw [riF_f]
            unfold rfF
            rw [e0, e1, e2, e3, decide_eq_true a1, decide_eq_true a2, decide_eq_true a3, decide_eq_true a4, decide_eq_true a5]
            have p0 : ¬ nI k < 0 := nI_pos (by omega)
            have p1 : ¬ nI s < 0 := nI_pos (by omega)
            have p2 : ¬ nI x < 0 := nI_pos (by omega)
            have p3 : ¬ (decide (nI t < 0) || decide (vnf V = 6)) = true := by
              rw [decide_eq_false (nI_pos (by omega)), decide_eq_false (by omega)]
              exact Bool.false_ne_true
            show ((if nI k < 0 then _ else if nI s < 0 then _ else if nI x < 0 then _ else if (decide (nI t < 0) || decide (vnf V = 6)) = true then _ else _ : Bool × WT × (Nat → Int32) × Nat).1, (if nI k < 0 then _ else if nI s < 0 then _ else if nI x < 0 then _ else if (decide (nI t < 0) || decide (vnf V = 6)) = true then _ else _ : Bool × WT × (Nat → Int32) × Nat).2.1, (if nI k < 0 then _ else if nI s < 0 then _ else if nI x < 0 then _ else if (decide (nI t < 0) || decide (vnf V = 6)) = true then _ else _ : Bool × WT × (Nat → Int32) × Nat).2.2.1, dn, (if nI k < 0 then _ else if nI s < 0 then _ else if nI x < 0 then _ else if (decide (nI t < 0) || decide (vnf V = 6)) = true then _ else _ : Bool × WT × (Nat → Int32) × Nat).2.2.2) = _
            rw [if_neg p0, if_neg p1, if_neg p2, if_neg p3]
            rfl


/-! 16.mlong: bits (a family of kit/laws/BITS.to-paste); how long the reference's wall stands -/
/-! ===== Int32 by its bits: bt x i ===== -/
def bt (x : Int32) (i : Nat) : Bool := x.toBitVec.getLsbD i
theorem b_ext {x y : Int32} (h : ∀ i, i < 32 → bt x i = bt y i) : x = y := Int32.toBitVec_inj.mp (BitVec.eq_of_getLsbD_eq (fun i hi => h i hi))
theorem b_or (x y : Int32) (i : Nat) : bt (x ||| y) i = (bt x i || bt y i) := by unfold bt; rw [Int32.toBitVec_or, BitVec.getLsbD_or]
theorem b_and (x y : Int32) (i : Nat) : bt (x &&& y) i = (bt x i && bt y i) := by unfold bt; rw [Int32.toBitVec_and, BitVec.getLsbD_and]
theorem b_xor (x y : Int32) (i : Nat) : bt (x ^^^ y) i = (bt x i ^^ bt y i) := by unfold bt; rw [Int32.toBitVec_xor, BitVec.getLsbD_xor]
theorem b_big {x : Int32} {i : Nat} (h : 32 ≤ i) : bt x i = false := BitVec.getLsbD_of_ge _ _ h
theorem b_255 (i : Nat) : bt 255 i = decide (i < 8) := by
  rcases Nat.lt_or_ge i 32 with h | h
  · exact (by decide +kernel : ∀ i, i < 32 → bt 255 i = decide (i < 8)) i h
  · rw [b_big h, decide_eq_false (by omega)]
theorem b_65535 (i : Nat) : bt 65535 i = decide (i < 16) := by
  rcases Nat.lt_or_ge i 32 with h | h
  · exact (by decide +kernel : ∀ i, i < 32 → bt 65535 i = decide (i < 16)) i h
  · rw [b_big h, decide_eq_false (by omega)]
theorem b_m1 : ∀ i, i < 32 → bt (-1) i = true := by decide +kernel
theorem b_0 (i : Nat) : bt 0 i = false := BitVec.getLsbD_zero
theorem s_l : ∀ n, n < 32 → ((nI n &&& 31).toBitVec.smod 32).toNat = n := by decide +kernel
theorem s_u : ∀ n, n < 32 → (((nI n).toUInt32 &&& Int32.toUInt32 31).toBitVec % 32).toNat = n := by decide +kernel
theorem b_shl (n : Nat) (hn : n < 32) (x : Int32) {i : Nat} (hi : i < 32) : bt (x <<< (nI n &&& 31)) i = (decide (n ≤ i) && bt x (i - n)) := by
  unfold bt
  rw [Int32.toBitVec_shiftLeft]
  show (x.toBitVec <<< ((nI n &&& 31).toBitVec.smod 32).toNat).getLsbD i = _
  rw [s_l n hn, BitVec.getLsbD_shiftLeft]
  rcases Nat.lt_or_ge i n with h | h
  · simp [h, Nat.not_le.mpr h]
  · simp [hi, h, Nat.not_lt.mpr h]
theorem b_ushr (n : Nat) (hn : n < 32) (x : Int32) (i : Nat) : bt ((x.toUInt32 >>> ((nI n).toUInt32 &&& Int32.toUInt32 31)).toInt32) i = bt x (n + i) := by
  show (x.toUInt32 >>> ((nI n).toUInt32 &&& Int32.toUInt32 31)).toBitVec.getLsbD i = x.toUInt32.toBitVec.getLsbD (n + i)
  rw [UInt32.toBitVec_shiftRight]
  show (x.toUInt32.toBitVec >>> (((nI n).toUInt32 &&& Int32.toUInt32 31).toBitVec % 32).toNat).getLsbD i = _
  rw [s_u n hn, BitVec.getLsbD_ushiftRight]
theorem b_sshr (n : Nat) (hn : n < 32) (x : Int32) {i : Nat} (hi : i < 32) : bt (x >>> (nI n &&& 31)) i = if n + i < 32 then bt x (n + i) else bt x 31 := by
  unfold bt
  rw [Int32.toBitVec_shiftRight]
  show (x.toBitVec.sshiftRight ((nI n &&& 31).toBitVec.smod 32).toNat).getLsbD i = _
  rw [s_l n hn, BitVec.getLsbD_sshiftRight, BitVec.msb_eq_getLsbD_last]
  simp [hi]

theorem bt_1 : ∀ i, i < 32 → bt (nI 1) i = decide (i = 0) := by decide +kernel
theorem hb_bt (x : Int32) {j : Nat} (hj : j < 32) : hb x (nI j) = bt x j := by
  have h0 : bt (x >>> (nI j &&& 31)) 0 = bt x j := by rw [b_sshr j hj x (by decide), if_pos (by omega), Nat.add_zero]
  unfold hb
  cases hx : bt x j with
  | true =>
    refine decide_eq_true (b_ext (fun i hi => ?_))
    rw [b_and, bt_1 i hi]
    by_cases hi0 : i = 0
    · subst hi0; rw [h0, hx]; rfl
    · rw [decide_eq_false hi0, Bool.and_false]
  | false =>
    refine decide_eq_false (fun q => ?_)
    have h1 := congrArg (fun y => bt y 0) q
    simp only [b_and] at h1
    rw [h0, hx, bt_1 0 (by decide)] at h1
    cases h1
theorem hb_ext {x y : Int32} (h : ∀ j, j < 32 → hb x (nI j) = hb y (nI j)) : x = y := b_ext (fun i hi => by rw [← hb_bt x hi, ← hb_bt y hi]; exact h i hi)
theorem hb_or (x y : Int32) {j : Nat} (hj : j < 32) : hb (x ||| y) (nI j) = (hb x (nI j) || hb y (nI j)) := by rw [hb_bt _ hj, hb_bt _ hj, hb_bt _ hj, b_or]
theorem hb_and (x y : Int32) {j : Nat} (hj : j < 32) : hb (x &&& y) (nI j) = (hb x (nI j) && hb y (nI j)) := by rw [hb_bt _ hj, hb_bt _ hj, hb_bt _ hj, b_and]
theorem hb_xor (x y : Int32) {j : Nat} (hj : j < 32) : hb (x ^^^ y) (nI j) = (hb x (nI j) ^^ hb y (nI j)) := by rw [hb_bt _ hj, hb_bt _ hj, hb_bt _ hj, b_xor]
theorem hb_not (x : Int32) {j : Nat} (hj : j < 32) : hb (x ^^^ (-1)) (nI j) = !hb x (nI j) := by rw [hb_xor _ _ hj, hb_bt (-1) hj, b_m1 j hj, Bool.xor_true]
theorem hb_shb {f j : Nat} (hf : f < 32) (hj : j < 32) : hb (nI 1 <<< (nI f &&& 31)) (nI j) = decide (f = j) := by
  rw [hb_bt _ hj, b_shl f hf _ hj]
  by_cases h : f ≤ j
  · rw [decide_eq_true h, Bool.true_and, bt_1 _ (by omega)]
    by_cases h2 : f = j
    · rw [decide_eq_true h2, decide_eq_true (by omega)]
    · rw [decide_eq_false h2, decide_eq_false (by omega)]
  · rw [decide_eq_false h, Bool.false_and, decide_eq_false (by omega)]
theorem hb_0 {j : Nat} (hj : j < 32) : hb (nI 0) (nI j) = false := by rw [hb_bt _ hj]; exact b_0 j
theorem shl_pow {n : Nat} (h : n < 31) : nI 1 <<< (nI n &&& 31) = nI (2 ^ n) := (by decide +kernel : ∀ n, n < 31 → nI 1 <<< (nI n &&& 31) = nI (2 ^ n)) n h
theorem pow6 {n : Nat} (h : n ≤ 6) : 2 ^ n ≤ 64 := (by decide +kernel : ∀ n, n ≤ 6 → 2 ^ n ≤ 64) n h
theorem pow8 {n : Nat} (h : n ≤ 8) : 2 ^ n ≤ 256 := (by decide +kernel : ∀ n, n ≤ 8 → 2 ^ n ≤ 256) n h
/-! nothing beyond the rows, still -/
theorem mix_z {a b : Nat → Int32} {k m : Nat} (hk : k ≤ m) (h : ∀ j, m ≤ j → b j = 0) : ∀ j, m ≤ j → mix a b k j = 0 := fun j hj => by
  unfold mix
  rw [if_neg (by omega)]
  exact h j hj
theorem okZ_ps {V : WT} {S : ST} (hV : okV V) (h : okZ S) : okZ (psF V S) := ⟨mix_z hV.2.1 h.1, h.2.1, mix_z hV.1 h.2.2⟩
theorem okZ_up {S : ST} (u : Int32) (h : okZ S) : okZ (sUp S u) := h
theorem okZ_fl {V : WT} (hV : okV V) (fa : Int32) : ∀ (n : Nat) (S : ST), okZ S → okZ (flR V fa n S).2
  | 0, S, h => h
  | n + 1, S, h => by
    rw [flR]
    by_cases q : sfa S = fa
    · rw [if_pos q]; exact okZ_fl hV fa n _ (okZ_ps hV h)
    · rw [if_neg q]; exact h
theorem okZ_it {V : WT} (hV : okV V) : ∀ (n : Nat) (S : ST), okZ S → okZ (itP V n S)
  | 0, S, h => h
  | n + 1, S, h => okZ_it hV n _ (okZ_ps hV h)
theorem flR_le (V : WT) (fa : Int32) : ∀ (n : Nat) (S : ST), (flR V fa n S).1 ≤ n
  | 0, S => Nat.le_refl _
  | n + 1, S => by
    rw [flR]
    by_cases q : sfa S = fa
    · rw [if_pos q]; exact Nat.succ_le_succ (flR_le V fa n _)
    · rw [if_neg q]; exact Nat.zero_le _
theorem flR_stop (V : WT) (fa : Int32) : ∀ (n : Nat) (S : ST), (flR V fa n S).1 < n → ¬ sfa (flR V fa n S).2 = fa
  | 0, S => fun h => absurd h (Nat.lt_irrefl _)
  | n + 1, S => by
    rw [flR]
    by_cases q : sfa S = fa
    · rw [if_pos q]; exact fun h => flR_stop V fa n _ (Nat.lt_of_succ_lt_succ h)
    · rw [if_neg q]; exact fun _ => q
theorem fa2_sup (V : WT) (S : ST) {j : Nat} (hj : j < 32) (h : hb (sfa S) (nI j) = true) : hb (sfa (psF V S)) (nI j) = true := by
  show hb (sfa S ||| _) _ = true
  rw [hb_or _ _ hj, h, Bool.true_or]
theorem flR_sup (V : WT) (fa : Int32) {j : Nat} (hj : j < 32) : ∀ (n : Nat) (S : ST), hb (sfa S) (nI j) = true → hb (sfa (flR V fa n S).2) (nI j) = true
  | 0, S, h => h
  | n + 1, S, h => by
    rw [flR]
    by_cases q : sfa S = fa
    · rw [if_pos q]; exact flR_sup V fa hj n _ (fa2_sup V S hj h)
    · rw [if_neg q]; exact h
/-- the lowest bit -/
def lwF (x : Int32) : Nat → Nat
  | 0 => 32
  | n + 1 => if hb x (nI (31 - n)) then 31 - n else lwF x n
theorem least_bit {x : Int32} (h : ∃ j, j < 32 ∧ hb x (nI j) = true) : ∃ j, j < 32 ∧ hb x (nI j) = true ∧ ∀ i, i < j → hb x (nI i) = false := by
  obtain ⟨k, ⟨hk1, hk2⟩, hk3⟩ := pk_least (fun j => j < 32 ∧ hb x (nI j) = true) h
  refine ⟨k, hk1, hk2, fun i hi => ?_⟩
  cases hx : hb x (nI i) with
  | false => rfl
  | true => exact absurd ⟨by omega, hx⟩ (hk3 i hi)
theorem new_bit {x y : Int32} (hs : ∀ j, j < 32 → hb x (nI j) = true → hb y (nI j) = true) (hne : ¬ y = x) : ∃ j, j < 32 ∧ hb (y &&& (x ^^^ (-1))) (nI j) = true := by
  apply Classical.byContradiction
  intro hno
  apply hne
  apply hb_ext
  intro j hj
  cases hy : hb y (nI j) with
  | false =>
    cases hx : hb x (nI j) with
    | false => rfl
    | true => rw [hs j hj hx] at hy; cases hy
  | true =>
    cases hx : hb x (nI j) with
    | true => rfl
    | false => exact absurd ⟨j, hj, by rw [hb_and _ _ hj, hb_not _ hj, hy, hx]; rfl⟩ hno

set_option maxRecDepth 20000 in
theorem lp_X9_lowest (l : Launch) (z : Nat × Nat × Nat) (hz : z.2.1 ≤ 0 ∧ z.2.2 ≤ 0) (Q : Option Value → List va_E → Prop) (x : Int32) (j : Nat) (hj : j < 32) (h1 : hb x (nI j) = true) (h2 : ∀ i, i < j → hb x (nI i) = false) (hQ : Q (some (.int (nI j))) []) : ∀ k, k ≤ j → G l M_X9_lowest z Q 2 [some (.int x), some (.int (nI k))] [] [] := by
  refine loopN j ?_ (fun k hk ih => ?_)
  ·
    refine g_iload_n (n := 3) dX9_lowest_2 rfl rfl ?_
    refine g_iload_n (n := 4) dX9_lowest_3 rfl rfl ?_
    refine g_callSi (n := 7) cs_X9_94 (t_X9_has l _ _) dX9_lowest_4 rfl rfl ⟨by decide, by decide, rfl, rfl, hz.1, hz.2⟩ rfl (Nat.le_of_ble_eq_true rfl) rfl ?_
    refine g_if_ne (tgt := 16) (n := 10) dX9_lowest_7 (by decide) rfl (fun c7 => ?_) (fun c7 => absurd c7 (bI_n0.mpr h1))
    refine g_iload_n (n := 17) dX9_lowest_16 rfl rfl ?_
    exact g_iret (ty := .int) dX9_lowest_17 rfl rfl hz hQ
  ·
    refine g_iload_n (n := 3) dX9_lowest_2 rfl rfl ?_
    refine g_iload_n (n := 4) dX9_lowest_3 rfl rfl ?_
    refine g_callSi (n := 7) cs_X9_94 (t_X9_has l _ _) dX9_lowest_4 rfl rfl ⟨by decide, by decide, rfl, rfl, hz.1, hz.2⟩ rfl (Nat.le_of_ble_eq_true rfl) rfl ?_
    refine g_if_ne (tgt := 16) (n := 10) dX9_lowest_7 (by decide) rfl (fun c7 => absurd (bI_0.mpr (h2 k hk)) c7) (fun c7 => ?_)
    refine g_iincN (k := 1) (n := 13) dX9_lowest_10 rfl (by decide) rfl rfl ?_
    refine g_lsN (ls' := [_, _]) rfl ?_
    refine g_goto (tgt := 2) dX9_lowest_13 (by decide) ?_
    exact ih
set_option maxRecDepth 20000 in
theorem t_X9_lowest (l : Launch) (x : Int32) (j : Nat) (hj : j < 32) (h1 : hb x (nI j) = true) (h2 : ∀ i, i < j → hb x (nI i) = false) : Fn l M_X9_lowest [.int x] [] (some (.int (nI j))) [] := by
  refine con_of rfl rfl (Nat.le_of_ble_eq_true rfl) ?_
  refine g_lsN (ls' := [_, _]) rfl ?_
  refine g_iconst (v := nI 0) (n := 1) dX9_lowest_0 (by decide) rfl ?_
  refine g_istore_n (n := 2) dX9_lowest_1 (by decide) rfl rfl ?_
  refine g_lsN (ls' := [_, _]) rfl ?_
  exact lp_X9_lowest l _ ⟨Nat.zero_le _, Nat.zero_le _⟩ _ x j hj h1 h2 ⟨rfl, rfl⟩ 0 (Nat.zero_le _)
/-- how many hours, at most lim and one, until another bay falls -/
def fk (V : WT) (S : ST) (lim : Nat) : Nat := (flR V (sfa S) (lim + 1) S).1
def fS (V : WT) (S : ST) (lim : Nat) : ST := (flR V (sfa S) (lim + 1) S).2
theorem fk_le (V : WT) (S : ST) (lim : Nat) : fk V S lim ≤ lim + 1 := flR_le V (sfa S) (lim + 1) S
theorem fk_c (V : WT) (S : ST) {lim k : Nat} (h : lim < 1000) (hk : k < 1000) : nI (fk V S lim) ≤ nI k ↔ fk V S lim ≤ k := nI_leI (by have := fk_le V S lim; omega) (by omega)

set_option maxRecDepth 20000 in
theorem t_X9_stands_bad (l : Launch) (e : MR) (V : WT) (S : ST) (hV : okV V) (x : Int32) (h : inB x (nI 0) (nI 1) = false) : Fn l M_X9_stands [.ref 0, .int x] (mw e (tk V) (pk S)) (some (.int (-1))) (mw e (tk V) (pk S)) := by
  have hV1 := hV.1
  have hV2 := hV.2.1
  have hV3 := hV.2.2
  refine con_of rfl rfl (Nat.le_of_ble_eq_true rfl) ?_
  refine g_lsN (ls' := [_, _, _, _]) rfl ?_
  refine g_iload_n (n := 1) dX9_stands_0 rfl rfl ?_
  refine g_iconst (v := nI 0) (n := 2) dX9_stands_1 (by decide) rfl ?_
  refine g_iconst (v := nI 1) (n := 3) dX9_stands_2 (by decide) rfl ?_
  refine g_callSi (n := 6) cs_X9_52 (t_X9_in l _ _ _) dX9_stands_3 rfl rfl ⟨by decide, by decide, rfl, rfl, Nat.zero_le _, Nat.zero_le _⟩ rfl (Nat.le_of_ble_eq_true rfl) rfl ?_
  refine g_if_ne (tgt := 11) (n := 9) dX9_stands_6 (by decide) rfl (fun c6 => absurd (bI_0.mpr h) c6) (fun c6 => ?_)
  refine g_iconst (v := (-1)) (n := 10) dX9_stands_9 (by decide) rfl ?_
  exact g_iret (ty := .int) dX9_stands_10 rfl rfl ⟨Nat.zero_le _, Nat.zero_le _⟩ ⟨rfl, rfl⟩
set_option maxRecDepth 20000 in
theorem t_X9_stands_none (l : Launch) (e : MR) (V : WT) (S : ST) (hV : okV V) (hS : okZ S) (ha : ∀ j, 23 ≤ j → eAs e j = 0) (x : Int32) (h : inB x (nI 0) (nI 1) = true) (hf : 60 < fk V S 60) : Fn l M_X9_stands [.ref 0, .int x] (mw e (tk V) (pk S)) (some (.int (-4))) (mw (sAs e (pk S)) (tk V) (pk S)) := by
  have hV1 := hV.1
  have hV2 := hV.2.1
  have hV3 := hV.2.2
  refine con_of rfl rfl (Nat.le_of_ble_eq_true rfl) ?_
  refine g_lsN (ls' := [_, _, _, _]) rfl ?_
  refine g_iload_n (n := 1) dX9_stands_0 rfl rfl ?_
  refine g_iconst (v := nI 0) (n := 2) dX9_stands_1 (by decide) rfl ?_
  refine g_iconst (v := nI 1) (n := 3) dX9_stands_2 (by decide) rfl ?_
  refine g_callSi (n := 6) cs_X9_52 (t_X9_in l _ _ _) dX9_stands_3 rfl rfl ⟨by decide, by decide, rfl, rfl, Nat.zero_le _, Nat.zero_le _⟩ rfl (Nat.le_of_ble_eq_true rfl) rfl ?_
  refine g_if_ne (tgt := 11) (n := 9) dX9_stands_6 (by decide) rfl (fun c6 => ?_) (fun c6 => absurd c6 (bI_n0.mpr h))
  refine g_aload_n (n := 12) dX9_stands_11 rfl rfl ?_
  refine g_callWv (n := 15) cv_X9_146 (t_X9_holds l _ _ _ hS ha) dX9_stands_12 rfl ⟨by decide, by decide, rfl, rfl, Nat.zero_le _, Nat.zero_le _⟩ rfl rfl rfl (Nat.le_of_ble_eq_true rfl) rfl rfl ?_
  refine g_aload_n (n := 16) dX9_stands_15 rfl rfl ?_
  refine g_bipush (v := nI 60) (n := 18) dX9_stands_16 (by decide) rfl ?_
  refine g_callWi (n := 21) cv_X9_149 (t_X9_falls l _ _ _ hV _ (by decide)) dX9_stands_18 rfl ⟨by decide, by decide, rfl, rfl, Nat.zero_le _, Nat.zero_le _⟩ rfl rfl rfl (Nat.le_of_ble_eq_true rfl) rfl rfl ?_
  refine g_istore_n (n := 22) dX9_stands_21 (by decide) rfl rfl ?_
  refine g_lsN (ls' := [_, _, _, _]) rfl ?_
  refine g_aload_n (n := 23) dX9_stands_22 rfl rfl ?_
  refine g_get (n := 26) fl_X9_22 dX9_stands_23 rfl rfl rfl ?_
  refine g_iconst (v := nI 2) (n := 27) dX9_stands_26 (by decide) rfl ?_
  refine g_ialdN (n := 28) dX9_stands_27 rfl rfl (by decide) (by omega) ?_
  refine g_top (sk_2 _) ?_
  refine g_aload_n (n := 29) dX9_stands_28 rfl rfl ?_
  refine g_get (n := 32) fl_X9_31 dX9_stands_29 rfl rfl rfl ?_
  refine g_iconst (v := nI 2) (n := 33) dX9_stands_32 (by decide) rfl ?_
  refine g_ialdN (n := 34) dX9_stands_33 rfl rfl (by decide) (by omega) ?_
  refine g_top (sk_2 _) ?_
  refine g_iconst (v := (-1)) (n := 35) dX9_stands_34 (by decide) rfl ?_
  refine g_ixor (n := 36) dX9_stands_35 rfl ?_
  refine g_iand (n := 37) dX9_stands_36 rfl ?_
  refine g_istore_n (n := 38) dX9_stands_37 (by decide) rfl rfl ?_
  refine g_lsN (ls' := [_, _, _, _]) rfl ?_
  refine g_aload_n (n := 39) dX9_stands_38 rfl rfl ?_
  refine g_callWv (n := 42) cv_X9_152 (t_X9_lets l _ _ _ S (okZ_fl hV _ _ _ hS) hS rfl) dX9_stands_39 rfl ⟨by decide, by decide, rfl, rfl, Nat.zero_le _, Nat.zero_le _⟩ rfl rfl rfl (Nat.le_of_ble_eq_true rfl) rfl rfl ?_
  refine g_iload_n (n := 43) dX9_stands_42 rfl rfl ?_
  refine g_bipush (v := nI 60) (n := 45) dX9_stands_43 (by decide) rfl ?_
  refine g_icmp_le (tgt := 53) (n := 48) dX9_stands_45 (by decide) rfl (fun c45 => absurd c45 (nI_ge (b := fk V S 60) hf (by have := fk_le V S 60; omega))) (fun c45 => ?_)
  refine g_bipush (v := (-4)) (n := 50) dX9_stands_48 (by decide) rfl ?_
  refine g_goto (tgt := 65) dX9_stands_50 (by decide) ?_
  exact g_iret (ty := .int) dX9_stands_65 rfl rfl ⟨Nat.zero_le _, Nat.zero_le _⟩ ⟨rfl, rfl⟩
set_option maxRecDepth 20000 in
theorem t_X9_stands_0 (l : Launch) (e : MR) (V : WT) (S : ST) (hV : okV V) (hS : okZ S) (ha : ∀ j, 23 ≤ j → eAs e j = 0) (hf : fk V S 60 ≤ 60) : Fn l M_X9_stands [.ref 0, .int (nI 0)] (mw e (tk V) (pk S)) (some (.int (nI (fk V S 60)))) (mw (sAs e (pk S)) (tk V) (pk S)) := by
  have hV1 := hV.1
  have hV2 := hV.2.1
  have hV3 := hV.2.2
  refine con_of rfl rfl (Nat.le_of_ble_eq_true rfl) ?_
  refine g_lsN (ls' := [_, _, _, _]) rfl ?_
  refine g_iload_n (n := 1) dX9_stands_0 rfl rfl ?_
  refine g_iconst (v := nI 0) (n := 2) dX9_stands_1 (by decide) rfl ?_
  refine g_iconst (v := nI 1) (n := 3) dX9_stands_2 (by decide) rfl ?_
  refine g_callSi (n := 6) cs_X9_52 (t_X9_in l _ _ _) dX9_stands_3 rfl rfl ⟨by decide, by decide, rfl, rfl, Nat.zero_le _, Nat.zero_le _⟩ rfl (Nat.le_of_ble_eq_true rfl) rfl ?_
  refine g_if_ne (tgt := 11) (n := 9) dX9_stands_6 (by decide) rfl (fun c6 => ?_) (fun c6 => absurd c6 (by decide))
  refine g_aload_n (n := 12) dX9_stands_11 rfl rfl ?_
  refine g_callWv (n := 15) cv_X9_146 (t_X9_holds l _ _ _ hS ha) dX9_stands_12 rfl ⟨by decide, by decide, rfl, rfl, Nat.zero_le _, Nat.zero_le _⟩ rfl rfl rfl (Nat.le_of_ble_eq_true rfl) rfl rfl ?_
  refine g_aload_n (n := 16) dX9_stands_15 rfl rfl ?_
  refine g_bipush (v := nI 60) (n := 18) dX9_stands_16 (by decide) rfl ?_
  refine g_callWi (n := 21) cv_X9_149 (t_X9_falls l _ _ _ hV _ (by decide)) dX9_stands_18 rfl ⟨by decide, by decide, rfl, rfl, Nat.zero_le _, Nat.zero_le _⟩ rfl rfl rfl (Nat.le_of_ble_eq_true rfl) rfl rfl ?_
  refine g_istore_n (n := 22) dX9_stands_21 (by decide) rfl rfl ?_
  refine g_lsN (ls' := [_, _, _, _]) rfl ?_
  refine g_aload_n (n := 23) dX9_stands_22 rfl rfl ?_
  refine g_get (n := 26) fl_X9_22 dX9_stands_23 rfl rfl rfl ?_
  refine g_iconst (v := nI 2) (n := 27) dX9_stands_26 (by decide) rfl ?_
  refine g_ialdN (n := 28) dX9_stands_27 rfl rfl (by decide) (by omega) ?_
  refine g_top (sk_2 _) ?_
  refine g_aload_n (n := 29) dX9_stands_28 rfl rfl ?_
  refine g_get (n := 32) fl_X9_31 dX9_stands_29 rfl rfl rfl ?_
  refine g_iconst (v := nI 2) (n := 33) dX9_stands_32 (by decide) rfl ?_
  refine g_ialdN (n := 34) dX9_stands_33 rfl rfl (by decide) (by omega) ?_
  refine g_top (sk_2 _) ?_
  refine g_iconst (v := (-1)) (n := 35) dX9_stands_34 (by decide) rfl ?_
  refine g_ixor (n := 36) dX9_stands_35 rfl ?_
  refine g_iand (n := 37) dX9_stands_36 rfl ?_
  refine g_istore_n (n := 38) dX9_stands_37 (by decide) rfl rfl ?_
  refine g_lsN (ls' := [_, _, _, _]) rfl ?_
  refine g_aload_n (n := 39) dX9_stands_38 rfl rfl ?_
  refine g_callWv (n := 42) cv_X9_152 (t_X9_lets l _ _ _ S (okZ_fl hV _ _ _ hS) hS rfl) dX9_stands_39 rfl ⟨by decide, by decide, rfl, rfl, Nat.zero_le _, Nat.zero_le _⟩ rfl rfl rfl (Nat.le_of_ble_eq_true rfl) rfl rfl ?_
  refine g_iload_n (n := 43) dX9_stands_42 rfl rfl ?_
  refine g_bipush (v := nI 60) (n := 45) dX9_stands_43 (by decide) rfl ?_
  refine g_icmp_le (tgt := 53) (n := 48) dX9_stands_45 (by decide) rfl (fun c45 => ?_) (fun c45 => absurd (nI_le hf (by decide)) c45)
  refine g_iload_n (n := 54) dX9_stands_53 rfl rfl ?_
  refine g_if_ne (tgt := 61) (n := 57) dX9_stands_54 (by decide) rfl (fun c54 => absurd (by decide) c54) (fun c54 => ?_)
  refine g_iload_n (n := 58) dX9_stands_57 rfl rfl ?_
  refine g_goto (tgt := 65) dX9_stands_58 (by decide) ?_
  exact g_iret (ty := .int) dX9_stands_65 rfl rfl ⟨Nat.zero_le _, Nat.zero_le _⟩ ⟨rfl, rfl⟩
set_option maxRecDepth 20000 in
theorem t_X9_stands_1 (l : Launch) (e : MR) (V : WT) (S : ST) (hV : okV V) (hS : okZ S) (ha : ∀ j, 23 ≤ j → eAs e j = 0) (hf : fk V S 60 ≤ 60) (j : Nat) (hj : j < 32) (h1 : hb (sfa (fS V S 60) &&& (sfa S ^^^ (-1))) (nI j) = true) (h2 : ∀ i, i < j → hb (sfa (fS V S 60) &&& (sfa S ^^^ (-1))) (nI i) = false) : Fn l M_X9_stands [.ref 0, .int (nI 1)] (mw e (tk V) (pk S)) (some (.int (nI j))) (mw (sAs e (pk S)) (tk V) (pk S)) := by
  have hV1 := hV.1
  have hV2 := hV.2.1
  have hV3 := hV.2.2
  refine con_of rfl rfl (Nat.le_of_ble_eq_true rfl) ?_
  refine g_lsN (ls' := [_, _, _, _]) rfl ?_
  refine g_iload_n (n := 1) dX9_stands_0 rfl rfl ?_
  refine g_iconst (v := nI 0) (n := 2) dX9_stands_1 (by decide) rfl ?_
  refine g_iconst (v := nI 1) (n := 3) dX9_stands_2 (by decide) rfl ?_
  refine g_callSi (n := 6) cs_X9_52 (t_X9_in l _ _ _) dX9_stands_3 rfl rfl ⟨by decide, by decide, rfl, rfl, Nat.zero_le _, Nat.zero_le _⟩ rfl (Nat.le_of_ble_eq_true rfl) rfl ?_
  refine g_if_ne (tgt := 11) (n := 9) dX9_stands_6 (by decide) rfl (fun c6 => ?_) (fun c6 => absurd c6 (by decide))
  refine g_aload_n (n := 12) dX9_stands_11 rfl rfl ?_
  refine g_callWv (n := 15) cv_X9_146 (t_X9_holds l _ _ _ hS ha) dX9_stands_12 rfl ⟨by decide, by decide, rfl, rfl, Nat.zero_le _, Nat.zero_le _⟩ rfl rfl rfl (Nat.le_of_ble_eq_true rfl) rfl rfl ?_
  refine g_aload_n (n := 16) dX9_stands_15 rfl rfl ?_
  refine g_bipush (v := nI 60) (n := 18) dX9_stands_16 (by decide) rfl ?_
  refine g_callWi (n := 21) cv_X9_149 (t_X9_falls l _ _ _ hV _ (by decide)) dX9_stands_18 rfl ⟨by decide, by decide, rfl, rfl, Nat.zero_le _, Nat.zero_le _⟩ rfl rfl rfl (Nat.le_of_ble_eq_true rfl) rfl rfl ?_
  refine g_istore_n (n := 22) dX9_stands_21 (by decide) rfl rfl ?_
  refine g_lsN (ls' := [_, _, _, _]) rfl ?_
  refine g_aload_n (n := 23) dX9_stands_22 rfl rfl ?_
  refine g_get (n := 26) fl_X9_22 dX9_stands_23 rfl rfl rfl ?_
  refine g_iconst (v := nI 2) (n := 27) dX9_stands_26 (by decide) rfl ?_
  refine g_ialdN (n := 28) dX9_stands_27 rfl rfl (by decide) (by omega) ?_
  refine g_top (sk_2 _) ?_
  refine g_aload_n (n := 29) dX9_stands_28 rfl rfl ?_
  refine g_get (n := 32) fl_X9_31 dX9_stands_29 rfl rfl rfl ?_
  refine g_iconst (v := nI 2) (n := 33) dX9_stands_32 (by decide) rfl ?_
  refine g_ialdN (n := 34) dX9_stands_33 rfl rfl (by decide) (by omega) ?_
  refine g_top (sk_2 _) ?_
  refine g_iconst (v := (-1)) (n := 35) dX9_stands_34 (by decide) rfl ?_
  refine g_ixor (n := 36) dX9_stands_35 rfl ?_
  refine g_iand (n := 37) dX9_stands_36 rfl ?_
  refine g_istore_n (n := 38) dX9_stands_37 (by decide) rfl rfl ?_
  refine g_lsN (ls' := [_, _, _, _]) rfl ?_
  refine g_aload_n (n := 39) dX9_stands_38 rfl rfl ?_
  refine g_callWv (n := 42) cv_X9_152 (t_X9_lets l _ _ _ S (okZ_fl hV _ _ _ hS) hS rfl) dX9_stands_39 rfl ⟨by decide, by decide, rfl, rfl, Nat.zero_le _, Nat.zero_le _⟩ rfl rfl rfl (Nat.le_of_ble_eq_true rfl) rfl rfl ?_
  refine g_iload_n (n := 43) dX9_stands_42 rfl rfl ?_
  refine g_bipush (v := nI 60) (n := 45) dX9_stands_43 (by decide) rfl ?_
  refine g_icmp_le (tgt := 53) (n := 48) dX9_stands_45 (by decide) rfl (fun c45 => ?_) (fun c45 => absurd (nI_le hf (by decide)) c45)
  refine g_iload_n (n := 54) dX9_stands_53 rfl rfl ?_
  refine g_if_ne (tgt := 61) (n := 57) dX9_stands_54 (by decide) rfl (fun c54 => ?_) (fun c54 => absurd c54 (by decide))
  refine g_iload_n (n := 62) dX9_stands_61 rfl rfl ?_
  refine g_callSi (n := 65) cs_X9_155 (t_X9_lowest l _ j hj h1 h2) dX9_stands_62 rfl rfl ⟨by decide, by decide, rfl, rfl, Nat.zero_le _, Nat.zero_le _⟩ rfl (Nat.le_of_ble_eq_true rfl) rfl ?_
  exact g_iret (ty := .int) dX9_stands_65 rfl rfl ⟨Nat.zero_le _, Nat.zero_le _⟩ ⟨rfl, rfl⟩
def ndS (V : WT) (S : ST) (us : Int32) (t : Nat) (fd : Int32) : Int32 := if decide (nI t &&& (us ^^^ (-1)) = 0) && (decide (fd = (-4)) || !decide (on fd 8 ≤ on (nI t) 8)) then (if fk V (sUp S (nI t)) 12 ≤ 12 then fd else nI t) else fd
def ndN (V : WT) (S : ST) : Nat → Int32
  | 0 => (-4)
  | t + 1 => ndS V S (usN V S (vnf V)) t (ndN V S t)
def cuS (V : WT) (S : ST) (t : Nat) (fd : Int32) : Int32 := if decide (nI t &&& (sup S ^^^ (-1)) = 0) && (decide (fd = (-4)) || !decide (on fd 8 ≤ on (nI t) 8)) then (if fk V (sUp S (sup S &&& (nI t ^^^ (-1)))) 24 ≤ 24 then nI t else fd) else fd
def cuN (V : WT) (S : ST) : Nat → Int32
  | 0 => (-4)
  | t + 1 => cuS V S t (cuN V S t)
set_option maxRecDepth 20000 in
theorem lp_X9_needed (l : Launch) (z : Nat × Nat × Nat) (hz : z.2.1 ≤ 0 ∧ z.2.2 ≤ 0) (Q : Option Value → List va_E → Prop) (e : MR) (V : WT) (S : ST) (hV : okV V) (hS : okZ S) (hQ : Q (some (.int (ndN V S (2 ^ vnf V)))) (mw (sAs e (pk S)) (tk V) (pk S))) : ∀ t, t ≤ 2 ^ vnf V → G l M_X9_needed z Q 14 [some (.ref 0), some (.int (usN V S (vnf V))), some (.int (ndN V S t)), some (.int (nI t))] [] (mw (sAs e (pk S)) (tk V) (pk S)) := by
  have hV1 := hV.1
  have hV2 := hV.2.1
  have hV3 := hV.2.2
  have hp := pow6 hV2
  refine loopN (2 ^ vnf V) ?_ (fun t ht ih => ?_)
  ·
    refine g_iload_n (n := 15) dX9_needed_14 rfl rfl ?_
    refine g_iconst (v := nI 1) (n := 16) dX9_needed_15 (by decide) rfl ?_
    refine g_aload_n (n := 17) dX9_needed_16 rfl rfl ?_
    refine g_get (n := 20) fl_X9_13 dX9_needed_17 rfl rfl rfl ?_
    refine g_iconst (v := nI 1) (n := 21) dX9_needed_20 (by decide) rfl ?_
    refine g_ialdN (n := 22) dX9_needed_21 rfl rfl (by decide) (by omega) ?_
    refine g_top (tk_1 _) ?_
    refine g_ishl (n := 23) dX9_needed_22 rfl ?_
    refine g_top (shl_pow (by omega)) ?_
    refine g_icmp_ge (tgt := 85) (n := 26) dX9_needed_23 (by decide) rfl (fun c23 => ?_) (fun c23 => absurd (nI_le (Nat.le_refl _) (by omega)) c23)
    refine g_iload_n (n := 86) dX9_needed_85 rfl rfl ?_
    exact g_iret (ty := .int) dX9_needed_86 rfl rfl hz hQ
  ·
    have J79 : ∀ (x : Int32), ndN V S (t + 1) = x → G l M_X9_needed z Q 79 [some (.ref 0), some (.int (usN V S (vnf V))), some (.int x), some (.int (nI t))] [] (mw (sAs e (pk S)) (tk V) (pk S)) := by
      intro x hx
      subst hx
      refine g_iincN (k := 1) (n := 82) dX9_needed_79 rfl (by decide) rfl rfl ?_
      refine g_lsN (ls' := [_, _, _, _]) rfl ?_
      refine g_goto (tgt := 14) dX9_needed_82 (by decide) ?_
      exact ih
    have J51 : (decide (nI t &&& (usN V S (vnf V) ^^^ (-1)) = 0) && (decide (ndN V S t = (-4)) || !decide (on (ndN V S t) 8 ≤ on (nI t) 8))) = true → G l M_X9_needed z Q 51 [some (.ref 0), some (.int (usN V S (vnf V))), some (.int (ndN V S t)), some (.int (nI t))] [] (mw (sAs e (pk S)) (tk V) (pk S)) := by
      intro e0
      have hle := flR_le V (sfa S) 13 (sUp S (nI t))
      refine g_aload_n (n := 52) dX9_needed_51 rfl rfl ?_
      refine g_get (n := 55) fl_X9_22 dX9_needed_52 rfl rfl rfl ?_
      refine g_iconst (v := nI 1) (n := 56) dX9_needed_55 (by decide) rfl ?_
      refine g_iload_n (n := 57) dX9_needed_56 rfl rfl ?_
      refine g_iastN (n := 58) dX9_needed_57 rfl rfl (by decide) (by omega) ?_
      refine g_wN (w' := [_, _, _, _, _, _, _, _, _]) rfl ?_
      rw [sk_up]
      refine g_aload_n (n := 59) dX9_needed_58 rfl rfl ?_
      refine g_bipush (v := nI 12) (n := 61) dX9_needed_59 (by decide) rfl ?_
      refine g_callWi (n := 64) cv_X9_149 (t_X9_falls l (sAs e (pk S)) _ _ hV _ (by decide)) dX9_needed_61 rfl ⟨by decide, by decide, rfl, rfl, hz.1, hz.2⟩ rfl rfl rfl (Nat.le_of_ble_eq_true rfl) rfl rfl ?_
      refine g_bipush (v := nI 12) (n := 66) dX9_needed_64 (by decide) rfl ?_
      refine g_icmp_le (tgt := 73) (n := 69) dX9_needed_66 (by decide) rfl (fun c66 => ?_) (fun c66 => ?_)
      ·
        have e1 : ndN V S (t + 1) = ndN V S t := by rw [ndN]; unfold ndS; rw [e0, if_pos rfl, if_pos ((fk_c V (sUp S (nI t)) (lim := 12) (k := 12) (by decide) (by decide)).mp c66)]
        refine g_iload_n (n := 74) dX9_needed_73 rfl rfl ?_
        refine g_istore_n (n := 75) dX9_needed_74 (by decide) rfl rfl ?_
        refine g_lsN (ls' := [_, _, _, _]) rfl ?_
        refine g_aload_n (n := 76) dX9_needed_75 rfl rfl ?_
        refine g_callWv (n := 79) cv_X9_152 (t_X9_lets l (sAs e (pk S)) _ _ S (okZ_fl hV _ _ _ hS) hS rfl) dX9_needed_76 rfl ⟨by decide, by decide, rfl, rfl, hz.1, hz.2⟩ rfl rfl rfl (Nat.le_of_ble_eq_true rfl) rfl rfl ?_
        exact J79 _ e1
      ·
        have e1 : ndN V S (t + 1) = nI t := by rw [ndN]; unfold ndS; rw [e0, if_pos rfl, if_neg (fun q => c66 ((fk_c V (sUp S (nI t)) (lim := 12) (k := 12) (by decide) (by decide)).mpr q))]
        refine g_iload_n (n := 70) dX9_needed_69 rfl rfl ?_
        refine g_goto (tgt := 74) dX9_needed_70 (by decide) ?_
        refine g_istore_n (n := 75) dX9_needed_74 (by decide) rfl rfl ?_
        refine g_lsN (ls' := [_, _, _, _]) rfl ?_
        refine g_aload_n (n := 76) dX9_needed_75 rfl rfl ?_
        refine g_callWv (n := 79) cv_X9_152 (t_X9_lets l (sAs e (pk S)) _ _ S (okZ_fl hV _ _ _ hS) hS rfl) dX9_needed_76 rfl ⟨by decide, by decide, rfl, rfl, hz.1, hz.2⟩ rfl rfl rfl (Nat.le_of_ble_eq_true rfl) rfl rfl ?_
        exact J79 _ e1
    refine g_iload_n (n := 15) dX9_needed_14 rfl rfl ?_
    refine g_iconst (v := nI 1) (n := 16) dX9_needed_15 (by decide) rfl ?_
    refine g_aload_n (n := 17) dX9_needed_16 rfl rfl ?_
    refine g_get (n := 20) fl_X9_13 dX9_needed_17 rfl rfl rfl ?_
    refine g_iconst (v := nI 1) (n := 21) dX9_needed_20 (by decide) rfl ?_
    refine g_ialdN (n := 22) dX9_needed_21 rfl rfl (by decide) (by omega) ?_
    refine g_top (tk_1 _) ?_
    refine g_ishl (n := 23) dX9_needed_22 rfl ?_
    refine g_top (shl_pow (by omega)) ?_
    refine g_icmp_ge (tgt := 85) (n := 26) dX9_needed_23 (by decide) rfl (fun c23 => absurd c23 (nI_ge ht (by omega))) (fun c23 => ?_)
    refine g_iload_n (n := 27) dX9_needed_26 rfl rfl ?_
    refine g_iload_n (n := 28) dX9_needed_27 rfl rfl ?_
    refine g_iconst (v := (-1)) (n := 29) dX9_needed_28 (by decide) rfl ?_
    refine g_ixor (n := 30) dX9_needed_29 rfl ?_
    refine g_iand (n := 31) dX9_needed_30 rfl ?_
    refine g_if_ne (tgt := 79) (n := 34) dX9_needed_31 (by decide) rfl (fun c31 => ?_) (fun c31 => ?_)
    ·
      have e1 : ndN V S (t + 1) = ndN V S t := by rw [ndN]; unfold ndS; rw [decide_eq_false c31]; rfl
      exact J79 _ e1
    ·
      have a1 := decide_eq_true c31
      refine g_iload_n (n := 35) dX9_needed_34 rfl rfl ?_
      refine g_bipush (v := (-4)) (n := 37) dX9_needed_35 (by decide) rfl ?_
      refine g_icmp_eq (tgt := 51) (n := 40) dX9_needed_37 (by decide) rfl (fun c37 => ?_) (fun c37 => ?_)
      ·
        have e0 : (decide (nI t &&& (usN V S (vnf V) ^^^ (-1)) = 0) && (decide (ndN V S t = (-4)) || !decide (on (ndN V S t) 8 ≤ on (nI t) 8))) = true := by rw [a1, decide_eq_true c37]; rfl
        exact J51 e0
      ·
        have a2 := decide_eq_false c37
        refine g_iload_n (n := 41) dX9_needed_40 rfl rfl ?_
        refine g_callSi (n := 44) cs_X9_161 (t_X9_ones l _) dX9_needed_41 rfl rfl ⟨by decide, by decide, rfl, rfl, hz.1, hz.2⟩ rfl (Nat.le_of_ble_eq_true rfl) rfl ?_
        refine g_iload_n (n := 45) dX9_needed_44 rfl rfl ?_
        refine g_callSi (n := 48) cs_X9_161 (t_X9_ones l _) dX9_needed_45 rfl rfl ⟨by decide, by decide, rfl, rfl, hz.1, hz.2⟩ rfl (Nat.le_of_ble_eq_true rfl) rfl ?_
        refine g_icmp_ge (tgt := 79) (n := 51) dX9_needed_48 (by decide) rfl (fun c48 => ?_) (fun c48 => ?_)
        ·
          have e1 : ndN V S (t + 1) = ndN V S t := by rw [ndN]; unfold ndS; rw [a1, a2, decide_eq_true c48]; rfl
          exact J79 _ e1
        ·
          have e0 : (decide (nI t &&& (usN V S (vnf V) ^^^ (-1)) = 0) && (decide (ndN V S t = (-4)) || !decide (on (ndN V S t) 8 ≤ on (nI t) 8))) = true := by rw [a1, a2, decide_eq_false c48]; rfl
          exact J51 e0
set_option maxRecDepth 20000 in
theorem t_X9_needed (l : Launch) (e : MR) (V : WT) (S : ST) (hV : okV V) (hS : okZ S) (ha : ∀ j, 23 ≤ j → eAs e j = 0) : Fn l M_X9_needed [.ref 0] (mw e (tk V) (pk S)) (some (.int (ndN V S (2 ^ vnf V)))) (mw (sAs e (pk S)) (tk V) (pk S)) := by
  have hV1 := hV.1
  have hV2 := hV.2.1
  have hV3 := hV.2.2
  refine con_of rfl rfl (Nat.le_of_ble_eq_true rfl) ?_
  refine g_lsN (ls' := [_, _, _, _]) rfl ?_
  refine g_aload_n (n := 1) dX9_needed_0 rfl rfl ?_
  refine g_callWv (n := 4) cv_X9_146 (t_X9_holds l _ _ _ hS ha) dX9_needed_1 rfl ⟨by decide, by decide, rfl, rfl, Nat.zero_le _, Nat.zero_le _⟩ rfl rfl rfl (Nat.le_of_ble_eq_true rfl) rfl rfl ?_
  refine g_aload_n (n := 5) dX9_needed_4 rfl rfl ?_
  refine g_callWi (n := 8) cv_X9_158 (t_X9_useful l _ _ _ hV) dX9_needed_5 rfl ⟨by decide, by decide, rfl, rfl, Nat.zero_le _, Nat.zero_le _⟩ rfl rfl rfl (Nat.le_of_ble_eq_true rfl) rfl rfl ?_
  refine g_istore_n (n := 9) dX9_needed_8 (by decide) rfl rfl ?_
  refine g_lsN (ls' := [_, _, _, _]) rfl ?_
  refine g_bipush (v := (-4)) (n := 11) dX9_needed_9 (by decide) rfl ?_
  refine g_istore_n (n := 12) dX9_needed_11 (by decide) rfl rfl ?_
  refine g_lsN (ls' := [_, _, _, _]) rfl ?_
  refine g_iconst (v := nI 0) (n := 13) dX9_needed_12 (by decide) rfl ?_
  refine g_istore_n (n := 14) dX9_needed_13 (by decide) rfl rfl ?_
  refine g_lsN (ls' := [_, _, _, _]) rfl ?_
  exact lp_X9_needed l _ ⟨Nat.zero_le _, Nat.zero_le _⟩ _ e V S hV hS ⟨rfl, rfl⟩ 0 (Nat.zero_le _)
set_option maxRecDepth 20000 in
theorem lp_X9_cuts (l : Launch) (z : Nat × Nat × Nat) (hz : z.2.1 ≤ 0 ∧ z.2.2 ≤ 0) (Q : Option Value → List va_E → Prop) (e : MR) (V : WT) (S : ST) (hV : okV V) (hS : okZ S) (hQ : Q (some (.int (cuN V S (2 ^ vnf V)))) (mw (sAs e (pk S)) (tk V) (pk S))) : ∀ t, t ≤ 2 ^ vnf V → G l M_X9_cuts z Q 9 [some (.ref 0), some (.int (cuN V S t)), some (.int (nI t))] [] (mw (sAs e (pk S)) (tk V) (pk S)) := by
  have hV1 := hV.1
  have hV2 := hV.2.1
  have hV3 := hV.2.2
  have hp := pow6 hV2
  refine loopN (2 ^ vnf V) ?_ (fun t ht ih => ?_)
  ·
    refine g_iload_n (n := 10) dX9_cuts_9 rfl rfl ?_
    refine g_iconst (v := nI 1) (n := 11) dX9_cuts_10 (by decide) rfl ?_
    refine g_aload_n (n := 12) dX9_cuts_11 rfl rfl ?_
    refine g_get (n := 15) fl_X9_13 dX9_cuts_12 rfl rfl rfl ?_
    refine g_iconst (v := nI 1) (n := 16) dX9_cuts_15 (by decide) rfl ?_
    refine g_ialdN (n := 17) dX9_cuts_16 rfl rfl (by decide) (by omega) ?_
    refine g_top (tk_1 _) ?_
    refine g_ishl (n := 18) dX9_cuts_17 rfl ?_
    refine g_top (shl_pow (by omega)) ?_
    refine g_icmp_ge (tgt := 90) (n := 21) dX9_cuts_18 (by decide) rfl (fun c18 => ?_) (fun c18 => absurd (nI_le (Nat.le_refl _) (by omega)) c18)
    refine g_iload_n (n := 91) dX9_cuts_90 rfl rfl ?_
    exact g_iret (ty := .int) dX9_cuts_91 rfl rfl hz hQ
  ·
    have J84 : ∀ (x : Int32), cuN V S (t + 1) = x → G l M_X9_cuts z Q 84 [some (.ref 0), some (.int x), some (.int (nI t))] [] (mw (sAs e (pk S)) (tk V) (pk S)) := by
      intro x hx
      subst hx
      refine g_iincN (k := 1) (n := 87) dX9_cuts_84 rfl (by decide) rfl rfl ?_
      refine g_lsN (ls' := [_, _, _]) rfl ?_
      refine g_goto (tgt := 9) dX9_cuts_87 (by decide) ?_
      exact ih
    have J51 : (decide (nI t &&& (sup S ^^^ (-1)) = 0) && (decide (cuN V S t = (-4)) || !decide (on (cuN V S t) 8 ≤ on (nI t) 8))) = true → G l M_X9_cuts z Q 51 [some (.ref 0), some (.int (cuN V S t)), some (.int (nI t))] [] (mw (sAs e (pk S)) (tk V) (pk S)) := by
      intro e0
      have hle := flR_le V (sfa S) 25 (sUp S (sup S &&& (nI t ^^^ (-1))))
      refine g_aload_n (n := 52) dX9_cuts_51 rfl rfl ?_
      refine g_get (n := 55) fl_X9_22 dX9_cuts_52 rfl rfl rfl ?_
      refine g_iconst (v := nI 1) (n := 56) dX9_cuts_55 (by decide) rfl ?_
      refine g_dup2 (n := 57) dX9_cuts_56 rfl rfl rfl ?_
      refine g_ialdN (n := 58) dX9_cuts_57 rfl rfl (by decide) (by omega) ?_
      refine g_top (sk_1 _) ?_
      refine g_iload_n (n := 59) dX9_cuts_58 rfl rfl ?_
      refine g_iconst (v := (-1)) (n := 60) dX9_cuts_59 (by decide) rfl ?_
      refine g_ixor (n := 61) dX9_cuts_60 rfl ?_
      refine g_iand (n := 62) dX9_cuts_61 rfl ?_
      refine g_iastN (n := 63) dX9_cuts_62 rfl rfl (by decide) (by omega) ?_
      refine g_wN (w' := [_, _, _, _, _, _, _, _, _]) rfl ?_
      rw [sk_up]
      refine g_aload_n (n := 64) dX9_cuts_63 rfl rfl ?_
      refine g_bipush (v := nI 24) (n := 66) dX9_cuts_64 (by decide) rfl ?_
      refine g_callWi (n := 69) cv_X9_149 (t_X9_falls l (sAs e (pk S)) _ _ hV _ (by decide)) dX9_cuts_66 rfl ⟨by decide, by decide, rfl, rfl, hz.1, hz.2⟩ rfl rfl rfl (Nat.le_of_ble_eq_true rfl) rfl rfl ?_
      refine g_bipush (v := nI 24) (n := 71) dX9_cuts_69 (by decide) rfl ?_
      refine g_icmp_le (tgt := 78) (n := 74) dX9_cuts_71 (by decide) rfl (fun c71 => ?_) (fun c71 => ?_)
      ·
        have e1 : cuN V S (t + 1) = nI t := by rw [cuN]; unfold cuS; rw [e0, if_pos rfl, if_pos ((fk_c V (sUp S (sup S &&& (nI t ^^^ (-1)))) (lim := 24) (k := 24) (by decide) (by decide)).mp c71)]
        refine g_iload_n (n := 79) dX9_cuts_78 rfl rfl ?_
        refine g_istore_n (n := 80) dX9_cuts_79 (by decide) rfl rfl ?_
        refine g_lsN (ls' := [_, _, _]) rfl ?_
        refine g_aload_n (n := 81) dX9_cuts_80 rfl rfl ?_
        refine g_callWv (n := 84) cv_X9_152 (t_X9_lets l (sAs e (pk S)) _ _ S (okZ_fl hV _ _ _ hS) hS rfl) dX9_cuts_81 rfl ⟨by decide, by decide, rfl, rfl, hz.1, hz.2⟩ rfl rfl rfl (Nat.le_of_ble_eq_true rfl) rfl rfl ?_
        exact J84 _ e1
      ·
        have e1 : cuN V S (t + 1) = cuN V S t := by rw [cuN]; unfold cuS; rw [e0, if_pos rfl, if_neg (fun q => c71 ((fk_c V (sUp S (sup S &&& (nI t ^^^ (-1)))) (lim := 24) (k := 24) (by decide) (by decide)).mpr q))]
        refine g_iload_n (n := 75) dX9_cuts_74 rfl rfl ?_
        refine g_goto (tgt := 79) dX9_cuts_75 (by decide) ?_
        refine g_istore_n (n := 80) dX9_cuts_79 (by decide) rfl rfl ?_
        refine g_lsN (ls' := [_, _, _]) rfl ?_
        refine g_aload_n (n := 81) dX9_cuts_80 rfl rfl ?_
        refine g_callWv (n := 84) cv_X9_152 (t_X9_lets l (sAs e (pk S)) _ _ S (okZ_fl hV _ _ _ hS) hS rfl) dX9_cuts_81 rfl ⟨by decide, by decide, rfl, rfl, hz.1, hz.2⟩ rfl rfl rfl (Nat.le_of_ble_eq_true rfl) rfl rfl ?_
        exact J84 _ e1
    refine g_iload_n (n := 10) dX9_cuts_9 rfl rfl ?_
    refine g_iconst (v := nI 1) (n := 11) dX9_cuts_10 (by decide) rfl ?_
    refine g_aload_n (n := 12) dX9_cuts_11 rfl rfl ?_
    refine g_get (n := 15) fl_X9_13 dX9_cuts_12 rfl rfl rfl ?_
    refine g_iconst (v := nI 1) (n := 16) dX9_cuts_15 (by decide) rfl ?_
    refine g_ialdN (n := 17) dX9_cuts_16 rfl rfl (by decide) (by omega) ?_
    refine g_top (tk_1 _) ?_
    refine g_ishl (n := 18) dX9_cuts_17 rfl ?_
    refine g_top (shl_pow (by omega)) ?_
    refine g_icmp_ge (tgt := 90) (n := 21) dX9_cuts_18 (by decide) rfl (fun c18 => absurd c18 (nI_ge ht (by omega))) (fun c18 => ?_)
    refine g_iload_n (n := 22) dX9_cuts_21 rfl rfl ?_
    refine g_aload_n (n := 23) dX9_cuts_22 rfl rfl ?_
    refine g_get (n := 26) fl_X9_22 dX9_cuts_23 rfl rfl rfl ?_
    refine g_iconst (v := nI 1) (n := 27) dX9_cuts_26 (by decide) rfl ?_
    refine g_ialdN (n := 28) dX9_cuts_27 rfl rfl (by decide) (by omega) ?_
    refine g_top (sk_1 _) ?_
    refine g_iconst (v := (-1)) (n := 29) dX9_cuts_28 (by decide) rfl ?_
    refine g_ixor (n := 30) dX9_cuts_29 rfl ?_
    refine g_iand (n := 31) dX9_cuts_30 rfl ?_
    refine g_if_ne (tgt := 84) (n := 34) dX9_cuts_31 (by decide) rfl (fun c31 => ?_) (fun c31 => ?_)
    ·
      have e1 : cuN V S (t + 1) = cuN V S t := by rw [cuN]; unfold cuS; rw [decide_eq_false c31]; rfl
      exact J84 _ e1
    ·
      have a1 := decide_eq_true c31
      refine g_iload_n (n := 35) dX9_cuts_34 rfl rfl ?_
      refine g_bipush (v := (-4)) (n := 37) dX9_cuts_35 (by decide) rfl ?_
      refine g_icmp_eq (tgt := 51) (n := 40) dX9_cuts_37 (by decide) rfl (fun c37 => ?_) (fun c37 => ?_)
      ·
        have e0 : (decide (nI t &&& (sup S ^^^ (-1)) = 0) && (decide (cuN V S t = (-4)) || !decide (on (cuN V S t) 8 ≤ on (nI t) 8))) = true := by rw [a1, decide_eq_true c37]; rfl
        exact J51 e0
      ·
        have a2 := decide_eq_false c37
        refine g_iload_n (n := 41) dX9_cuts_40 rfl rfl ?_
        refine g_callSi (n := 44) cs_X9_161 (t_X9_ones l _) dX9_cuts_41 rfl rfl ⟨by decide, by decide, rfl, rfl, hz.1, hz.2⟩ rfl (Nat.le_of_ble_eq_true rfl) rfl ?_
        refine g_iload_n (n := 45) dX9_cuts_44 rfl rfl ?_
        refine g_callSi (n := 48) cs_X9_161 (t_X9_ones l _) dX9_cuts_45 rfl rfl ⟨by decide, by decide, rfl, rfl, hz.1, hz.2⟩ rfl (Nat.le_of_ble_eq_true rfl) rfl ?_
        refine g_icmp_ge (tgt := 84) (n := 51) dX9_cuts_48 (by decide) rfl (fun c48 => ?_) (fun c48 => ?_)
        ·
          have e1 : cuN V S (t + 1) = cuN V S t := by rw [cuN]; unfold cuS; rw [a1, a2, decide_eq_true c48]; rfl
          exact J84 _ e1
        ·
          have e0 : (decide (nI t &&& (sup S ^^^ (-1)) = 0) && (decide (cuN V S t = (-4)) || !decide (on (cuN V S t) 8 ≤ on (nI t) 8))) = true := by rw [a1, a2, decide_eq_false c48]; rfl
          exact J51 e0
set_option maxRecDepth 20000 in
theorem t_X9_cuts (l : Launch) (e : MR) (V : WT) (S : ST) (hV : okV V) (hS : okZ S) (ha : ∀ j, 23 ≤ j → eAs e j = 0) : Fn l M_X9_cuts [.ref 0] (mw e (tk V) (pk S)) (some (.int (cuN V S (2 ^ vnf V)))) (mw (sAs e (pk S)) (tk V) (pk S)) := by
  have hV1 := hV.1
  have hV2 := hV.2.1
  have hV3 := hV.2.2
  refine con_of rfl rfl (Nat.le_of_ble_eq_true rfl) ?_
  refine g_lsN (ls' := [_, _, _]) rfl ?_
  refine g_aload_n (n := 1) dX9_cuts_0 rfl rfl ?_
  refine g_callWv (n := 4) cv_X9_146 (t_X9_holds l _ _ _ hS ha) dX9_cuts_1 rfl ⟨by decide, by decide, rfl, rfl, Nat.zero_le _, Nat.zero_le _⟩ rfl rfl rfl (Nat.le_of_ble_eq_true rfl) rfl rfl ?_
  refine g_bipush (v := (-4)) (n := 6) dX9_cuts_4 (by decide) rfl ?_
  refine g_istore_n (n := 7) dX9_cuts_6 (by decide) rfl rfl ?_
  refine g_lsN (ls' := [_, _, _]) rfl ?_
  refine g_iconst (v := nI 0) (n := 8) dX9_cuts_7 (by decide) rfl ?_
  refine g_istore_n (n := 9) dX9_cuts_8 (by decide) rfl rfl ?_
  refine g_lsN (ls' := [_, _, _]) rfl ?_
  exact lp_X9_cuts l _ ⟨Nat.zero_le _, Nat.zero_le _⟩ _ e V S hV hS ⟨rfl, rfl⟩ 0 (Nat.zero_le _)

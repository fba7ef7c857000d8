/-! 39.ctrail: the class's trail -/
def sref (base n : Nat) : Nat → Option Nat := fun j => if j < n then some (base + 4 * j) else none
abbrev sarr (base n : Nat) : va_E := .inl (2, n, .inr (.inr (.inr (.inr (sref base n)))))
def pu (P : Nat → ST) (j : Nat) (S : ST) : Nat → ST := fun i => if i = j then S else P i
theorem okZ_pu {P : Nat → ST} {S : ST} (j : Nat) (h : ∀ i, okZ (P i)) (hS : okZ S) : ∀ i, okZ (pu P j S i) := fun i => by
  unfold pu
  split
  · exact hS
  · exact h i
theorem min8 {k : Nat} (h : k ≤ 8) : (if nI 8 < nI (k + 1) then nI 8 else nI (k + 1)) = nI (kpK k) := (by decide +kernel : ∀ k, k ≤ 8 → (if nI 8 < nI (k + 1) then nI 8 else nI (k + 1)) = nI (kpK k)) k h
theorem fm_ofInt (k : Nat) : nI k = Int32.ofInt (k : Int) := rfl
theorem fm_v (a : Nat) : (nI a).toInt % 8 = ((a % 8 : Nat) : Int) := by
  have h : (nI a).toInt = (a : Int).bmod (2 ^ 32) := Int32.toInt_ofNat' 
  rw [h]
  unfold Int.bmod
  dsimp only
  split <;> omega
theorem fm_d (x : Int32) : x / nI 8 = Int32.ofInt (x.toInt.tdiv 8) := by
  apply Int32.toInt_inj.mp
  have h8 : (nI 8).toInt = 8 := by decide
  have hx1 := Int32.le_toInt x
  have hx2 := Int32.toInt_lt x
  have hb : -2147483648 ≤ x.toInt.tdiv 8 ∧ x.toInt.tdiv 8 < 2147483648 := by
    rcases Int.le_total 0 x.toInt with h | h
    · rw [Int.tdiv_eq_ediv_of_nonneg h]; omega
    · have := Int.neg_tdiv (-x.toInt) 8
      rw [Int.neg_neg] at this
      rw [this, Int.tdiv_eq_ediv_of_nonneg (by omega)]; omega
  rw [Int32.toInt_div, h8, Int32.toInt_ofInt]
theorem fm_r (x : Int32) : x - x / nI 8 * nI 8 = Int32.ofInt (x.toInt - x.toInt.tdiv 8 * 8) := by
  rw [fm_d, Int32.ofInt_sub, Int32.ofInt_mul, Int32.ofInt_toInt]
  rfl
theorem fm_s (x : Int32) : 0 ≤ x ^^^ nI 8 ↔ 0 ≤ x.toInt := by
  rw [Int32.le_iff_toInt_le]
  have h1 : (x ^^^ nI 8).toBitVec.msb = x.toBitVec.msb := by
    rw [Int32.toBitVec_xor, BitVec.msb_xor]
    show (x.toBitVec.msb ^^ (BitVec.ofNat 32 8).msb) = _
    rw [show (BitVec.ofNat 32 8).msb = false from by decide, Bool.xor_false]
  rw [BitVec.msb_eq_toInt, BitVec.msb_eq_toInt] at h1
  have h2 : ((x ^^^ nI 8).toInt < 0) ↔ (x.toInt < 0) := by
    have := decide_eq_decide.mp h1
    exact this
  have h0 : (0 : Int32).toInt = 0 := rfl
  rw [h0]
  omega
theorem fm_pos {a : Nat} (h : 0 ≤ nI a ^^^ nI 8) : nI a - nI a / nI 8 * nI 8 = nI (a % 8) := by
  have h1 := (fm_s _).mp h
  rw [fm_r, fm_ofInt (a % 8), ← fm_v, Int.tdiv_eq_ediv_of_nonneg h1]
  exact congrArg Int32.ofInt (by omega)
theorem fm_ne {v : Int} (h : ¬ 0 ≤ v) : v - v.tdiv 8 * 8 = if v % 8 = 0 then v % 8 else v % 8 - 8 := by
  have := Int.neg_tdiv (-v) 8
  rw [Int.neg_neg] at this
  rw [this, Int.tdiv_eq_ediv_of_nonneg (by omega)]
  split <;> omega
theorem fm_zero {a : Nat} (h : ¬ 0 ≤ nI a ^^^ nI 8) (h0 : nI a - nI a / nI 8 * nI 8 = 0) : nI a - nI a / nI 8 * nI 8 = nI (a % 8) := by
  have h1 := fun q => h ((fm_s _).mpr q)
  rw [fm_r, fm_ne h1, fm_v] at h0 ⊢
  split
  · rfl
  · rename_i q
    rw [if_neg q] at h0
    exfalso
    have hk : a % 8 < 8 := Nat.mod_lt _ (by decide)
    have hk0 : ¬ a % 8 = 0 := by omega
    revert h0 hk0
    generalize a % 8 = k at hk
    revert k
    decide
theorem fm_neg {a : Nat} (h : ¬ 0 ≤ nI a ^^^ nI 8) (h0 : ¬ nI a - nI a / nI 8 * nI 8 = 0) : nI a - nI a / nI 8 * nI 8 + nI 8 = nI (a % 8) := by
  have h1 := fun q => h ((fm_s _).mpr q)
  rw [fm_r, fm_ne h1, fm_v] at h0 ⊢
  by_cases q : ((a % 8 : Nat) : Int) = 0
  · rw [if_pos q, q] at h0
    exact absurd rfl h0
  · rw [if_neg q]
    rw [fm_ofInt 8, fm_ofInt (a % 8), ← Int32.ofInt_add]
    exact congrArg Int32.ofInt (by omega)
theorem dn1_ex : ∃ f : Nat → Nat, ∀ n, f n = n + 4294967295 := ⟨fun n => n + 4294967295, fun _ => rfl⟩
/-- one back, as the machine counts -/
noncomputable def dn1 : Nat → Nat := Classical.choose dn1_ex
theorem dn1_eq (n : Nat) : dn1 n = n + 4294967295 := Classical.choose_spec dn1_ex n
theorem dn1_nI (n : Nat) : nI n - nI 1 = nI (dn1 n) := by
  rw [dn1_eq]
  show Int32.ofNat n - Int32.ofNat 1 = Int32.ofNat (n + 4294967295)
  rw [Int32.ofNat_add, show Int32.ofNat 4294967295 = - Int32.ofNat 1 from by decide, Int32.sub_eq_add_neg]
theorem dn1_mod (n : Nat) : dn1 n % 8 = (n + 7) % 8 := by rw [dn1_eq]; omega

set_option maxRecDepth 20000 in
theorem t_J9_fm8 (l : Launch) (a : Nat) : Fn l M_J9_floorMod_7cf53 [.int (nI a), .int (nI 8)] ([]) (some (.int (nI (a % 8)))) ([]) := by
  refine con_ofF (by decide +kernel) rfl (Nat.le_of_ble_eq_true rfl) ?_
  refine g_lsN (ls' := [_, _, _]) rfl ?_
  refine g_iload_n (n := 1) dJ9_floorMod_7cf53_0 rfl rfl ?_
  refine g_iload_n (n := 2) dJ9_floorMod_7cf53_1 rfl rfl ?_
  refine g_irem (n := 3) dJ9_floorMod_7cf53_2 (by decide) rfl ?_
  refine g_istore_n (n := 4) dJ9_floorMod_7cf53_3 (by decide) rfl rfl ?_
  refine g_lsN (ls' := [_, _, _]) rfl ?_
  refine g_iload_n (n := 5) dJ9_floorMod_7cf53_4 rfl rfl ?_
  refine g_iload_n (n := 6) dJ9_floorMod_7cf53_5 rfl rfl ?_
  refine g_ixor (n := 7) dJ9_floorMod_7cf53_6 rfl ?_
  refine g_if_ge (tgt := 18) (n := 10) dJ9_floorMod_7cf53_7 (by decide) rfl (fun c7 => ?_) (fun c7 => ?_)
  ·
    refine g_iload_n (n := 19) dJ9_floorMod_7cf53_18 rfl rfl ?_
    exact g_iret (ty := .int) dJ9_floorMod_7cf53_19 rfl rfl ⟨Nat.zero_le _, Nat.zero_le _⟩ ⟨congrArg (fun x => some (Value.int x)) (by first | exact fm_pos c7 | exact fm_zero c7 c11), rfl⟩
  ·
    refine g_iload_n (n := 11) dJ9_floorMod_7cf53_10 rfl rfl ?_
    refine g_if_eq (tgt := 18) (n := 14) dJ9_floorMod_7cf53_11 (by decide) rfl (fun c11 => ?_) (fun c11 => ?_)
    ·
      refine g_iload_n (n := 19) dJ9_floorMod_7cf53_18 rfl rfl ?_
      exact g_iret (ty := .int) dJ9_floorMod_7cf53_19 rfl rfl ⟨Nat.zero_le _, Nat.zero_le _⟩ ⟨congrArg (fun x => some (Value.int x)) (by first | exact fm_pos c7 | exact fm_zero c7 c11), rfl⟩
    ·
      refine g_iload_n (n := 15) dJ9_floorMod_7cf53_14 rfl rfl ?_
      refine g_iload_n (n := 16) dJ9_floorMod_7cf53_15 rfl rfl ?_
      refine g_iadd (n := 17) dJ9_floorMod_7cf53_16 rfl ?_
      exact g_iret (ty := .int) dJ9_floorMod_7cf53_17 rfl rfl ⟨Nat.zero_le _, Nat.zero_le _⟩ ⟨congrArg (fun x => some (Value.int x)) (fm_neg c7 c11), rfl⟩
set_option maxRecDepth 20000 in
theorem t_X5_forget (l : Launch) (nx sz : Int32) : Fn l M_X5_forget [.ref 0] ([.inr (5, [.ref 1, .int nx, .int sz])]) none ([.inr (5, [.ref 1, .int nx, .int (nI 0)])]) := by
  refine con_of rfl rfl (Nat.le_of_ble_eq_true rfl) ?_
  refine g_lsN (ls' := [_]) rfl ?_
  refine g_aload_n (n := 1) dX5_forget_0 rfl rfl ?_
  refine g_iconst (v := nI 0) (n := 2) dX5_forget_1 (by decide) rfl ?_
  refine g_put (n := 5) pf_X5_32 dX5_forget_2 rfl (Nat.le_of_ble_eq_true rfl) (fun _ => rfl) (fun _ => rfl) rfl ?_
  refine g_wN (w' := [_]) rfl ?_
  exact g_vret dX5_forget_5 rfl ⟨Nat.zero_le _, Nat.zero_le _⟩ ⟨rfl, rfl⟩

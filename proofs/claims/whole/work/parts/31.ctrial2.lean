/-! 31.ctrial2: the class's trials, the rest; bits counted by the library -/
section RL
variable {l : Launch} {M : MC} {z : Nat × Nat × Nat} {Q : Option Value → List va_E → Prop} {pc n : Nat} {ls : List (Option Value)} {st : List Value} {w : List va_E}
theorem g_ldcw {ix : Nat} {v : Int32} (hd : decode (mby M) pc = .ok (.ldc_w ix, 3)) (hw : Cond.constant (mnm M).cls ix v ∈ big) (hn : pc + 3 = n) (kk : G l M z Q n ls (.int v :: st) w) : G l M z Q pc ls st w := by
  subst hn
  intro p e s m args below meth c D ct A ad0 ad H locs la C hA h0 h1 hz hP hD hS hL
  exact lv_ldcw C.1 C.2.1 C.2.2.2.2.1 (C.2.2.2.2.2.1 _ hw) hd (kk p e s m args below meth c D ct A ad0 ad H locs la C hA h0 h1 hz hP hD hS hL)
end RL

def bcE (x : Int32) : Int32 :=
  let x1 := x - ((x.toUInt32 >>> ((nI 1).toUInt32 &&& Int32.toUInt32 31)).toInt32 &&& 1431655765)
  let x2 := (x1 &&& 858993459) + ((x1.toUInt32 >>> ((nI 2).toUInt32 &&& Int32.toUInt32 31)).toInt32 &&& 858993459)
  let x3 := (x2 + (x2.toUInt32 >>> ((nI 4).toUInt32 &&& Int32.toUInt32 31)).toInt32) &&& 252645135
  let x4 := x3 + (x3.toUInt32 >>> ((nI 8).toUInt32 &&& Int32.toUInt32 31)).toInt32
  let x5 := x4 + (x4.toUInt32 >>> ((nI 16).toUInt32 &&& Int32.toUInt32 31)).toInt32
  x5 &&& nI 63
theorem bcE_on {k : Nat} (hk : k < 256) : bcE (nI k) = on (nI k) 8 := (by decide +kernel : ∀ k, k < 256 → bcE (nI k) = on (nI k) 8) k hk
set_option maxRecDepth 20000 in
theorem t_J6_bitCount (l : Launch) (k : Nat) (hk : k < 256) : Fn l M_J6_bitCount_0f7a4 [.int (nI k)] [] (some (.int (on (nI k) 8))) [] := by
  refine con_ofF (by decide +kernel) rfl (Nat.le_of_ble_eq_true rfl) ?_
  refine g_lsN (ls' := [_]) rfl ?_
  refine g_iload_n (n := 1) dJ6_bitCount_0f7a4_0 rfl rfl ?_
  refine g_iload_n (n := 2) dJ6_bitCount_0f7a4_1 rfl rfl ?_
  refine g_iconst (v := nI 1) (n := 3) dJ6_bitCount_0f7a4_2 (by decide) rfl ?_
  refine g_iushr (n := 4) dJ6_bitCount_0f7a4_3 rfl ?_
  refine g_ldcw (v := 1431655765) (n := 7) dJ6_bitCount_0f7a4_4 kc_J6_265 rfl ?_
  refine g_iand (n := 8) dJ6_bitCount_0f7a4_7 rfl ?_
  refine g_isub (n := 9) dJ6_bitCount_0f7a4_8 rfl ?_
  refine g_istore_n (n := 10) dJ6_bitCount_0f7a4_9 (by decide) rfl rfl ?_
  refine g_lsN (ls' := [_]) rfl ?_
  refine g_iload_n (n := 11) dJ6_bitCount_0f7a4_10 rfl rfl ?_
  refine g_ldcw (v := 858993459) (n := 14) dJ6_bitCount_0f7a4_11 kc_J6_266 rfl ?_
  refine g_iand (n := 15) dJ6_bitCount_0f7a4_14 rfl ?_
  refine g_iload_n (n := 16) dJ6_bitCount_0f7a4_15 rfl rfl ?_
  refine g_iconst (v := nI 2) (n := 17) dJ6_bitCount_0f7a4_16 (by decide) rfl ?_
  refine g_iushr (n := 18) dJ6_bitCount_0f7a4_17 rfl ?_
  refine g_ldcw (v := 858993459) (n := 21) dJ6_bitCount_0f7a4_18 kc_J6_266 rfl ?_
  refine g_iand (n := 22) dJ6_bitCount_0f7a4_21 rfl ?_
  refine g_iadd (n := 23) dJ6_bitCount_0f7a4_22 rfl ?_
  refine g_istore_n (n := 24) dJ6_bitCount_0f7a4_23 (by decide) rfl rfl ?_
  refine g_lsN (ls' := [_]) rfl ?_
  refine g_iload_n (n := 25) dJ6_bitCount_0f7a4_24 rfl rfl ?_
  refine g_iload_n (n := 26) dJ6_bitCount_0f7a4_25 rfl rfl ?_
  refine g_iconst (v := nI 4) (n := 27) dJ6_bitCount_0f7a4_26 (by decide) rfl ?_
  refine g_iushr (n := 28) dJ6_bitCount_0f7a4_27 rfl ?_
  refine g_iadd (n := 29) dJ6_bitCount_0f7a4_28 rfl ?_
  refine g_ldcw (v := 252645135) (n := 32) dJ6_bitCount_0f7a4_29 kc_J6_267 rfl ?_
  refine g_iand (n := 33) dJ6_bitCount_0f7a4_32 rfl ?_
  refine g_istore_n (n := 34) dJ6_bitCount_0f7a4_33 (by decide) rfl rfl ?_
  refine g_lsN (ls' := [_]) rfl ?_
  refine g_iload_n (n := 35) dJ6_bitCount_0f7a4_34 rfl rfl ?_
  refine g_iload_n (n := 36) dJ6_bitCount_0f7a4_35 rfl rfl ?_
  refine g_bipush (v := nI 8) (n := 38) dJ6_bitCount_0f7a4_36 (by decide) rfl ?_
  refine g_iushr (n := 39) dJ6_bitCount_0f7a4_38 rfl ?_
  refine g_iadd (n := 40) dJ6_bitCount_0f7a4_39 rfl ?_
  refine g_istore_n (n := 41) dJ6_bitCount_0f7a4_40 (by decide) rfl rfl ?_
  refine g_lsN (ls' := [_]) rfl ?_
  refine g_iload_n (n := 42) dJ6_bitCount_0f7a4_41 rfl rfl ?_
  refine g_iload_n (n := 43) dJ6_bitCount_0f7a4_42 rfl rfl ?_
  refine g_bipush (v := nI 16) (n := 45) dJ6_bitCount_0f7a4_43 (by decide) rfl ?_
  refine g_iushr (n := 46) dJ6_bitCount_0f7a4_45 rfl ?_
  refine g_iadd (n := 47) dJ6_bitCount_0f7a4_46 rfl ?_
  refine g_istore_n (n := 48) dJ6_bitCount_0f7a4_47 (by decide) rfl rfl ?_
  refine g_lsN (ls' := [_]) rfl ?_
  refine g_iload_n (n := 49) dJ6_bitCount_0f7a4_48 rfl rfl ?_
  refine g_bipush (v := nI 63) (n := 51) dJ6_bitCount_0f7a4_49 (by decide) rfl ?_
  refine g_iand (n := 52) dJ6_bitCount_0f7a4_51 rfl ?_
  exact g_iret (ty := .int) dJ6_bitCount_0f7a4_52 rfl rfl ⟨Nat.zero_le _, Nat.zero_le _⟩ ⟨by rw [← bcE_on hk]; rfl, rfl⟩
def nzX (x : Int32) : Int32 := (x ^^^ (-1)) &&& (x - nI 1)
def nzH (k j : Nat) : Bool := hb (nI k) (nI j) && (List.range j).all (fun i => !hb (nI k) (nI i))
def nz4 (y : Int32) : Int32 := (y.toUInt32 >>> ((nI 4).toUInt32 &&& Int32.toUInt32 31)).toInt32
def nz2 (y : Int32) : Int32 := (y.toUInt32 >>> ((nI 2).toUInt32 &&& Int32.toUInt32 31)).toInt32
def nz1 (y : Int32) : Int32 := (y.toUInt32 >>> ((nI 1).toUInt32 &&& Int32.toUInt32 31)).toInt32
theorem nz_b : ∀ k, k < 256 → nzX (nI k) ≤ 65536 ∧ nzX (nI k) ≤ nI 256 := by decide +kernel
theorem nz_0 : ∀ k, k < 256 → ∀ j, j < 8 → nzH k j = true → ¬ 0 < nzX (nI k) → nzX (nI k) &&& nI 32 = nI j := by decide +kernel
theorem nz_a : ∀ k, k < 256 → ∀ j, j < 8 → (!nzH k j || !decide (0 < nzX (nI k)) || !decide (nzX (nI k) ≤ nI 16) || !decide (nzX (nI k) ≤ nI 4) || decide (nI 1 + nz1 (nzX (nI k)) = nI j)) = true := by decide +kernel
theorem nz_c : ∀ k, k < 256 → ∀ j, j < 8 → (!nzH k j || !decide (0 < nzX (nI k)) || !decide (nzX (nI k) ≤ nI 16) || decide (nzX (nI k) ≤ nI 4) || decide (nI 3 + nz1 (nz2 (nzX (nI k))) = nI j)) = true := by decide +kernel
theorem nz_d : ∀ k, k < 256 → ∀ j, j < 8 → (!nzH k j || !decide (0 < nzX (nI k)) || decide (nzX (nI k) ≤ nI 16) || !decide (nz4 (nzX (nI k)) ≤ nI 4) || decide (nI 5 + nz1 (nz4 (nzX (nI k))) = nI j)) = true := by decide +kernel
theorem nz_e : ∀ k, k < 256 → ∀ j, j < 8 → (!nzH k j || !decide (0 < nzX (nI k)) || decide (nzX (nI k) ≤ nI 16) || decide (nz4 (nzX (nI k)) ≤ nI 4) || decide (nI 7 + nz1 (nz2 (nz4 (nzX (nI k)))) = nI j)) = true := by decide +kernel
theorem nz_or {a b c d e : Bool} (h : (!a || !b || !c || !d || e) = true) (ha : a = true) (hb : b = true) (hc : c = true) (hd : d = true) : e = true := by subst ha; subst hb; subst hc; subst hd; exact h
theorem nz_a2 {k j : Nat} (hk : k < 256) (hj : j < 8) (hh : nzH k j = true) (h1 : 0 < nzX (nI k)) (h2 : nzX (nI k) ≤ nI 16) (h3 : nzX (nI k) ≤ nI 4) : nI 1 + nz1 (nzX (nI k)) = nI j := of_decide_eq_true (nz_or (nz_a k hk j hj) hh (decide_eq_true h1) (decide_eq_true h2) (decide_eq_true h3))
theorem nz_c2 {k j : Nat} (hk : k < 256) (hj : j < 8) (hh : nzH k j = true) (h1 : 0 < nzX (nI k)) (h2 : nzX (nI k) ≤ nI 16) (h3 : ¬ nzX (nI k) ≤ nI 4) : nI 3 + nz1 (nz2 (nzX (nI k))) = nI j := by
  have h := nz_c k hk j hj
  rw [hh, decide_eq_true h1, decide_eq_true h2, decide_eq_false h3] at h
  exact of_decide_eq_true h
theorem nz_d2 {k j : Nat} (hk : k < 256) (hj : j < 8) (hh : nzH k j = true) (h1 : 0 < nzX (nI k)) (h2 : ¬ nzX (nI k) ≤ nI 16) (h3 : nz4 (nzX (nI k)) ≤ nI 4) : nI 5 + nz1 (nz4 (nzX (nI k))) = nI j := by
  have h := nz_d k hk j hj
  rw [hh, decide_eq_true h1, decide_eq_false h2, decide_eq_true h3] at h
  exact of_decide_eq_true h
theorem nz_e2 {k j : Nat} (hk : k < 256) (hj : j < 8) (hh : nzH k j = true) (h1 : 0 < nzX (nI k)) (h2 : ¬ nzX (nI k) ≤ nI 16) (h3 : ¬ nz4 (nzX (nI k)) ≤ nI 4) : nI 7 + nz1 (nz2 (nz4 (nzX (nI k)))) = nI j := by
  have h := nz_e k hk j hj
  rw [hh, decide_eq_true h1, decide_eq_false h2, decide_eq_false h3] at h
  exact of_decide_eq_true h
set_option maxRecDepth 20000 in
theorem t_J6_nTZ (l : Launch) (k j : Nat) (hk : k < 256) (hj : j < 8) (hh : nzH k j = true) : Fn l M_J6_numberOfTrailingZeros_0f7a4 [.int (nI k)] [] (some (.int (nI j))) [] := by
  refine con_ofF (by decide +kernel) rfl (Nat.le_of_ble_eq_true rfl) ?_
  refine g_lsN (ls' := [_, _]) rfl ?_
  refine g_iload_n (n := 1) dJ6_numberOfTrailingZeros_0f7a4_0 rfl rfl ?_
  refine g_iconst (v := (-1)) (n := 2) dJ6_numberOfTrailingZeros_0f7a4_1 (by decide) rfl ?_
  refine g_ixor (n := 3) dJ6_numberOfTrailingZeros_0f7a4_2 rfl ?_
  refine g_iload_n (n := 4) dJ6_numberOfTrailingZeros_0f7a4_3 rfl rfl ?_
  refine g_iconst (v := nI 1) (n := 5) dJ6_numberOfTrailingZeros_0f7a4_4 (by decide) rfl ?_
  refine g_isub (n := 6) dJ6_numberOfTrailingZeros_0f7a4_5 rfl ?_
  refine g_iand (n := 7) dJ6_numberOfTrailingZeros_0f7a4_6 rfl ?_
  refine g_istore_n (n := 8) dJ6_numberOfTrailingZeros_0f7a4_7 (by decide) rfl rfl ?_
  refine g_lsN (ls' := [_, _]) rfl ?_
  refine g_iload_n (n := 9) dJ6_numberOfTrailingZeros_0f7a4_8 rfl rfl ?_
  refine g_if_gt (tgt := 17) (n := 12) dJ6_numberOfTrailingZeros_0f7a4_9 (by decide) rfl (fun c9 => ?_) (fun c9 => ?_)
  ·
    refine g_iconst (v := nI 1) (n := 18) dJ6_numberOfTrailingZeros_0f7a4_17 (by decide) rfl ?_
    refine g_istore_n (n := 19) dJ6_numberOfTrailingZeros_0f7a4_18 (by decide) rfl rfl ?_
    refine g_lsN (ls' := [_, _]) rfl ?_
    refine g_iload_n (n := 20) dJ6_numberOfTrailingZeros_0f7a4_19 rfl rfl ?_
    refine g_ldcw (v := 65536) (n := 23) dJ6_numberOfTrailingZeros_0f7a4_20 kc_J6_264 rfl ?_
    refine g_icmp_le (tgt := 34) (n := 26) dJ6_numberOfTrailingZeros_0f7a4_23 (by decide) rfl (fun c23 => ?_) (fun c23 => absurd (nz_b k hk).1 c23)
    refine g_iload_n (n := 35) dJ6_numberOfTrailingZeros_0f7a4_34 rfl rfl ?_
    refine g_sipush (v := nI 256) (n := 38) dJ6_numberOfTrailingZeros_0f7a4_35 (by decide) rfl ?_
    refine g_icmp_le (tgt := 49) (n := 41) dJ6_numberOfTrailingZeros_0f7a4_38 (by decide) rfl (fun c38 => ?_) (fun c38 => absurd (nz_b k hk).2 c38)
    refine g_iload_n (n := 50) dJ6_numberOfTrailingZeros_0f7a4_49 rfl rfl ?_
    refine g_bipush (v := nI 16) (n := 52) dJ6_numberOfTrailingZeros_0f7a4_50 (by decide) rfl ?_
    refine g_icmp_le (tgt := 62) (n := 55) dJ6_numberOfTrailingZeros_0f7a4_52 (by decide) rfl (fun c52 => ?_) (fun c52 => ?_)
    ·
      refine g_iload_n (n := 63) dJ6_numberOfTrailingZeros_0f7a4_62 rfl rfl ?_
      refine g_iconst (v := nI 4) (n := 64) dJ6_numberOfTrailingZeros_0f7a4_63 (by decide) rfl ?_
      refine g_icmp_le (tgt := 74) (n := 67) dJ6_numberOfTrailingZeros_0f7a4_64 (by decide) rfl (fun c64 => ?_) (fun c64 => ?_)
      ·
        refine g_iload_n (n := 75) dJ6_numberOfTrailingZeros_0f7a4_74 rfl rfl ?_
        refine g_iload_n (n := 76) dJ6_numberOfTrailingZeros_0f7a4_75 rfl rfl ?_
        refine g_iconst (v := nI 1) (n := 77) dJ6_numberOfTrailingZeros_0f7a4_76 (by decide) rfl ?_
        refine g_iushr (n := 78) dJ6_numberOfTrailingZeros_0f7a4_77 rfl ?_
        refine g_iadd (n := 79) dJ6_numberOfTrailingZeros_0f7a4_78 rfl ?_
        exact g_iret (ty := .int) dJ6_numberOfTrailingZeros_0f7a4_79 rfl rfl ⟨Nat.zero_le _, Nat.zero_le _⟩ ⟨by first | exact congrArg (fun x => some (Value.int x)) (nz_0 k hk j hj hh c9) | exact congrArg (fun x => some (Value.int x)) (nz_a2 hk hj hh c9 c52 c64) | exact congrArg (fun x => some (Value.int x)) (nz_c2 hk hj hh c9 c52 c64) | exact congrArg (fun x => some (Value.int x)) (nz_d2 hk hj hh c9 c52 c64) | exact congrArg (fun x => some (Value.int x)) (nz_e2 hk hj hh c9 c52 c64), rfl⟩
      ·
        refine g_iincN (k := 2) (n := 70) dJ6_numberOfTrailingZeros_0f7a4_67 rfl (by decide) rfl rfl ?_
        refine g_lsN (ls' := [_, _]) rfl ?_
        refine g_iload_n (n := 71) dJ6_numberOfTrailingZeros_0f7a4_70 rfl rfl ?_
        refine g_iconst (v := nI 2) (n := 72) dJ6_numberOfTrailingZeros_0f7a4_71 (by decide) rfl ?_
        refine g_iushr (n := 73) dJ6_numberOfTrailingZeros_0f7a4_72 rfl ?_
        refine g_istore_n (n := 74) dJ6_numberOfTrailingZeros_0f7a4_73 (by decide) rfl rfl ?_
        refine g_lsN (ls' := [_, _]) rfl ?_
        refine g_iload_n (n := 75) dJ6_numberOfTrailingZeros_0f7a4_74 rfl rfl ?_
        refine g_iload_n (n := 76) dJ6_numberOfTrailingZeros_0f7a4_75 rfl rfl ?_
        refine g_iconst (v := nI 1) (n := 77) dJ6_numberOfTrailingZeros_0f7a4_76 (by decide) rfl ?_
        refine g_iushr (n := 78) dJ6_numberOfTrailingZeros_0f7a4_77 rfl ?_
        refine g_iadd (n := 79) dJ6_numberOfTrailingZeros_0f7a4_78 rfl ?_
        exact g_iret (ty := .int) dJ6_numberOfTrailingZeros_0f7a4_79 rfl rfl ⟨Nat.zero_le _, Nat.zero_le _⟩ ⟨by first | exact congrArg (fun x => some (Value.int x)) (nz_0 k hk j hj hh c9) | exact congrArg (fun x => some (Value.int x)) (nz_a2 hk hj hh c9 c52 c64) | exact congrArg (fun x => some (Value.int x)) (nz_c2 hk hj hh c9 c52 c64) | exact congrArg (fun x => some (Value.int x)) (nz_d2 hk hj hh c9 c52 c64) | exact congrArg (fun x => some (Value.int x)) (nz_e2 hk hj hh c9 c52 c64), rfl⟩
    ·
      refine g_iincN (k := 4) (n := 58) dJ6_numberOfTrailingZeros_0f7a4_55 rfl (by decide) rfl rfl ?_
      refine g_lsN (ls' := [_, _]) rfl ?_
      refine g_iload_n (n := 59) dJ6_numberOfTrailingZeros_0f7a4_58 rfl rfl ?_
      refine g_iconst (v := nI 4) (n := 60) dJ6_numberOfTrailingZeros_0f7a4_59 (by decide) rfl ?_
      refine g_iushr (n := 61) dJ6_numberOfTrailingZeros_0f7a4_60 rfl ?_
      refine g_istore_n (n := 62) dJ6_numberOfTrailingZeros_0f7a4_61 (by decide) rfl rfl ?_
      refine g_lsN (ls' := [_, _]) rfl ?_
      refine g_iload_n (n := 63) dJ6_numberOfTrailingZeros_0f7a4_62 rfl rfl ?_
      refine g_iconst (v := nI 4) (n := 64) dJ6_numberOfTrailingZeros_0f7a4_63 (by decide) rfl ?_
      refine g_icmp_le (tgt := 74) (n := 67) dJ6_numberOfTrailingZeros_0f7a4_64 (by decide) rfl (fun c64 => ?_) (fun c64 => ?_)
      ·
        refine g_iload_n (n := 75) dJ6_numberOfTrailingZeros_0f7a4_74 rfl rfl ?_
        refine g_iload_n (n := 76) dJ6_numberOfTrailingZeros_0f7a4_75 rfl rfl ?_
        refine g_iconst (v := nI 1) (n := 77) dJ6_numberOfTrailingZeros_0f7a4_76 (by decide) rfl ?_
        refine g_iushr (n := 78) dJ6_numberOfTrailingZeros_0f7a4_77 rfl ?_
        refine g_iadd (n := 79) dJ6_numberOfTrailingZeros_0f7a4_78 rfl ?_
        exact g_iret (ty := .int) dJ6_numberOfTrailingZeros_0f7a4_79 rfl rfl ⟨Nat.zero_le _, Nat.zero_le _⟩ ⟨by first | exact congrArg (fun x => some (Value.int x)) (nz_0 k hk j hj hh c9) | exact congrArg (fun x => some (Value.int x)) (nz_a2 hk hj hh c9 c52 c64) | exact congrArg (fun x => some (Value.int x)) (nz_c2 hk hj hh c9 c52 c64) | exact congrArg (fun x => some (Value.int x)) (nz_d2 hk hj hh c9 c52 c64) | exact congrArg (fun x => some (Value.int x)) (nz_e2 hk hj hh c9 c52 c64), rfl⟩
      ·
        refine g_iincN (k := 2) (n := 70) dJ6_numberOfTrailingZeros_0f7a4_67 rfl (by decide) rfl rfl ?_
        refine g_lsN (ls' := [_, _]) rfl ?_
        refine g_iload_n (n := 71) dJ6_numberOfTrailingZeros_0f7a4_70 rfl rfl ?_
        refine g_iconst (v := nI 2) (n := 72) dJ6_numberOfTrailingZeros_0f7a4_71 (by decide) rfl ?_
        refine g_iushr (n := 73) dJ6_numberOfTrailingZeros_0f7a4_72 rfl ?_
        refine g_istore_n (n := 74) dJ6_numberOfTrailingZeros_0f7a4_73 (by decide) rfl rfl ?_
        refine g_lsN (ls' := [_, _]) rfl ?_
        refine g_iload_n (n := 75) dJ6_numberOfTrailingZeros_0f7a4_74 rfl rfl ?_
        refine g_iload_n (n := 76) dJ6_numberOfTrailingZeros_0f7a4_75 rfl rfl ?_
        refine g_iconst (v := nI 1) (n := 77) dJ6_numberOfTrailingZeros_0f7a4_76 (by decide) rfl ?_
        refine g_iushr (n := 78) dJ6_numberOfTrailingZeros_0f7a4_77 rfl ?_
        refine g_iadd (n := 79) dJ6_numberOfTrailingZeros_0f7a4_78 rfl ?_
        exact g_iret (ty := .int) dJ6_numberOfTrailingZeros_0f7a4_79 rfl rfl ⟨Nat.zero_le _, Nat.zero_le _⟩ ⟨by first | exact congrArg (fun x => some (Value.int x)) (nz_0 k hk j hj hh c9) | exact congrArg (fun x => some (Value.int x)) (nz_a2 hk hj hh c9 c52 c64) | exact congrArg (fun x => some (Value.int x)) (nz_c2 hk hj hh c9 c52 c64) | exact congrArg (fun x => some (Value.int x)) (nz_d2 hk hj hh c9 c52 c64) | exact congrArg (fun x => some (Value.int x)) (nz_e2 hk hj hh c9 c52 c64), rfl⟩
  ·
    refine g_iload_n (n := 13) dJ6_numberOfTrailingZeros_0f7a4_12 rfl rfl ?_
    refine g_bipush (v := nI 32) (n := 15) dJ6_numberOfTrailingZeros_0f7a4_13 (by decide) rfl ?_
    refine g_iand (n := 16) dJ6_numberOfTrailingZeros_0f7a4_15 rfl ?_
    exact g_iret (ty := .int) dJ6_numberOfTrailingZeros_0f7a4_16 rfl rfl ⟨Nat.zero_le _, Nat.zero_le _⟩ ⟨by first | exact congrArg (fun x => some (Value.int x)) (nz_0 k hk j hj hh c9) | exact congrArg (fun x => some (Value.int x)) (nz_a2 hk hj hh c9 c52 c64) | exact congrArg (fun x => some (Value.int x)) (nz_c2 hk hj hh c9 c52 c64) | exact congrArg (fun x => some (Value.int x)) (nz_d2 hk hj hh c9 c52 c64) | exact congrArg (fun x => some (Value.int x)) (nz_e2 hk hj hh c9 c52 c64), rfl⟩
set_option maxRecDepth 20000 in
theorem t_X6_lowestFell_0 (l : Launch)  : Fn l M_X6_lowestFell [.ref 0] ([.inr (6, [.ref 1, .ref 2, .int 0])]) (some (.int (-4))) ([.inr (6, [.ref 1, .ref 2, .int 0])]) := by
  refine con_of rfl rfl (Nat.le_of_ble_eq_true rfl) ?_
  refine g_lsN (ls' := [_]) rfl ?_
  refine g_aload_n (n := 1) dX6_lowestFell_0 rfl rfl ?_
  refine g_get (n := 4) fl_X6_29 dX6_lowestFell_1 rfl rfl rfl ?_
  refine g_if_ne (tgt := 12) (n := 7) dX6_lowestFell_4 (by decide) rfl (fun c4 => absurd rfl c4) (fun c4 => ?_)
  refine g_bipush (v := (-4)) (n := 9) dX6_lowestFell_7 (by decide) rfl ?_
  refine g_goto (tgt := 19) dX6_lowestFell_9 (by decide) ?_
  exact g_iret (ty := .int) dX6_lowestFell_19 rfl rfl ⟨Nat.zero_le _, Nat.zero_le _⟩ ⟨rfl, rfl⟩
set_option maxRecDepth 20000 in
theorem t_X6_lowestFell (l : Launch) (k j : Nat) (hk : k < 256) (hj : j < 8) (hh : nzH k j = true) (h0 : ¬ nI k = 0) : Fn l M_X6_lowestFell [.ref 0] ([.inr (6, [.ref 1, .ref 2, .int (nI k)])]) (some (.int (nI j))) ([.inr (6, [.ref 1, .ref 2, .int (nI k)])]) := by
  refine con_of rfl rfl (Nat.le_of_ble_eq_true rfl) ?_
  refine g_lsN (ls' := [_]) rfl ?_
  refine g_aload_n (n := 1) dX6_lowestFell_0 rfl rfl ?_
  refine g_get (n := 4) fl_X6_29 dX6_lowestFell_1 rfl rfl rfl ?_
  refine g_if_ne (tgt := 12) (n := 7) dX6_lowestFell_4 (by decide) rfl (fun c4 => ?_) (fun c4 => absurd c4 h0)
  refine g_aload_n (n := 13) dX6_lowestFell_12 rfl rfl ?_
  refine g_get (n := 16) fl_X6_29 dX6_lowestFell_13 rfl rfl rfl ?_
  refine g_callSi (n := 19) cs_X6_37 (t_J6_nTZ l k j hk hj hh) dX6_lowestFell_16 rfl rfl ⟨by decide, by decide, rfl, rfl, Nat.zero_le _, Nat.zero_le _⟩ rfl (Nat.le_of_ble_eq_true rfl) rfl ?_
  exact g_iret (ty := .int) dX6_lowestFell_19 rfl rfl ⟨Nat.zero_le _, Nat.zero_le _⟩ ⟨rfl, rfl⟩

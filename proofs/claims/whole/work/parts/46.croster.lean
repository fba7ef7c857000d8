/-! 46.croster: the class's rosters -/
theorem cv_X2_50d (d : Nat) : CV RX2 50 (M_X2_tryHour d) 4 := cv_X2_50
/-- the key of one hour more for all of a set -/
def ohN (s : Nat) : Nat → Nat
  | 0 => 0
  | f + 1 => ohN s f + (if hb (nI s) (nI f) then 8 ^ (5 - f) else 0)
theorem ohN_le (s : Nat) : ∀ f, f ≤ 6 → ohN s f ≤ ((List.range f).map (fun j => 8 ^ (5 - j))).sum
  | 0, _ => Nat.le_refl _
  | f + 1, h => by
    have := ohN_le s f (by omega)
    rw [ohN, List.range_succ, List.map_append, List.sum_append]
    have e : (if hb (nI s) (nI f) then 8 ^ (5 - f) else 0) ≤ 8 ^ (5 - f) := by
      split
      · exact Nat.le_refl _
      · exact Nat.zero_le _
    simp only [List.map_cons, List.map_nil, List.sum_cons, List.sum_nil]
    omega
theorem ohN_b (s : Nat) : ohN s 6 ≤ 37449 := Nat.le_trans (ohN_le s 6 (by decide)) (by decide)
theorem pow8_le {f : Nat} (h : f < 6) : 8 ^ (5 - f) ≤ 32768 := (by decide : ∀ f, f < 6 → 8 ^ (5 - f) ≤ 32768) f h
theorem fp_shl {f : Nat} (h : f < 6) : nI 1 <<< (nI (3 * (5 - f)) &&& 31) = nI (8 ^ (5 - f)) := (by decide +kernel : ∀ f, f < 6 → nI 1 <<< (nI (3 * (5 - f)) &&& 31) = nI (8 ^ (5 - f))) f h

theorem pk_sneg_lt {k : Nat} (h : k < 2 ^ 30) : nI 0 - nI 1 < nI k := by
  rw [Int32.lt_iff_toInt_lt, pk_sub_toInt (by decide) (by decide), nI_toInt (by omega)]
  omega
set_option maxRecDepth 20000 in
theorem t_X2_figurePlace (l : Launch) (f : Nat) (hf : f < 6) : Fn l M_X2_figurePlace [.int (nI f)] ([]) (some (.int (nI (3 * (5 - f))))) ([]) := by
  refine con_of rfl rfl (Nat.le_of_ble_eq_true rfl) ?_
  refine g_lsN (ls' := [_]) rfl ?_
  refine g_iconst (v := nI 3) (n := 1) dX2_figurePlace_0 (by decide) rfl ?_
  refine g_iconst (v := nI 5) (n := 2) dX2_figurePlace_1 (by decide) rfl ?_
  refine g_iload_n (n := 3) dX2_figurePlace_2 rfl rfl ?_
  refine g_isubN (n := 4) dX2_figurePlace_3 rfl (by omega) ?_
  refine g_imulN (n := 5) dX2_figurePlace_4 rfl ?_
  exact g_iret (ty := .int) dX2_figurePlace_5 rfl rfl ⟨Nat.zero_le _, Nat.zero_le _⟩ ⟨rfl, rfl⟩
set_option maxRecDepth 20000 in
theorem lp_X2_oneHourMore (l : Launch) (z : Nat × Nat × Nat) (hz : z.2.1 ≤ 0 ∧ z.2.2 ≤ 0) (Q : Option Value → List va_E → Prop) (s : Nat) (hQ : Q (some (.int (nI (ohN s 6)))) []) : ∀ f, f ≤ 6 → G l M_X2_oneHourMore z Q 4 [some (.int (nI s)), some (.int (nI (ohN s f))), some (.int (nI f))] [] [] := by
  refine loopN 6 ?_ (fun f hf ih => ?_)
  ·
    refine g_iload_n (n := 5) dX2_oneHourMore_4 rfl rfl ?_
    refine g_bipush (v := nI 6) (n := 7) dX2_oneHourMore_5 (by decide) rfl ?_
    refine g_icmp_ge (tgt := 37) (n := 10) dX2_oneHourMore_7 (by decide) rfl (fun c7 => ?_) (fun c7 => absurd (nI_le (Nat.le_refl _) (by decide)) c7)
    refine g_iload_n (n := 38) dX2_oneHourMore_37 rfl rfl ?_
    exact g_iret (ty := .int) dX2_oneHourMore_38 rfl rfl hz hQ
  ·
    refine g_iload_n (n := 5) dX2_oneHourMore_4 rfl rfl ?_
    refine g_bipush (v := nI 6) (n := 7) dX2_oneHourMore_5 (by decide) rfl ?_
    refine g_icmp_ge (tgt := 37) (n := 10) dX2_oneHourMore_7 (by decide) rfl (fun c7 => absurd c7 (nI_ge hf (by decide))) (fun c7 => ?_)
    refine g_iload_n (n := 11) dX2_oneHourMore_10 rfl rfl ?_
    refine g_iload_n (n := 12) dX2_oneHourMore_11 rfl rfl ?_
    refine g_iload_n (n := 13) dX2_oneHourMore_12 rfl rfl ?_
    refine g_callSNi (n := 16) cs_X2_69 (t_X8_hasBit l _ _) dX2_oneHourMore_13 rfl rfl ⟨by decide, by decide, rfl, rfl, hz.1, hz.2⟩ rfl (Nat.le_of_ble_eq_true rfl) rfl ?_
    refine g_if_eq (tgt := 28) (n := 19) dX2_oneHourMore_16 (by decide) rfl (fun c16 => ?_) (fun c16 => ?_)
    ·
      have e9 : ohN s (f + 1) = ohN s f + 0 := by rw [ohN, bI_0.mp c16]; rfl
      refine g_iconst (v := nI 0) (n := 29) dX2_oneHourMore_28 (by decide) rfl ?_
      refine g_iaddN (n := 30) dX2_oneHourMore_29 rfl ?_
      refine g_istore_n (n := 31) dX2_oneHourMore_30 (by decide) rfl rfl ?_
      refine g_lsN (ls' := [_, _, _]) rfl ?_
      refine g_iincN (k := 1) (n := 34) dX2_oneHourMore_31 rfl (by decide) rfl rfl ?_
      refine g_lsN (ls' := [_, _, _]) rfl ?_
      refine g_goto (tgt := 4) dX2_oneHourMore_34 (by decide) ?_
      rw [← e9]
      exact ih
    ·
      have e9 : ohN s (f + 1) = ohN s f + 8 ^ (5 - f) := by rw [ohN, bI_n0.mp c16]; rfl
      refine g_iconst (v := nI 1) (n := 20) dX2_oneHourMore_19 (by decide) rfl ?_
      refine g_iload_n (n := 21) dX2_oneHourMore_20 rfl rfl ?_
      refine g_callSi (n := 24) cs_X2_58 (t_X2_figurePlace l f hf) dX2_oneHourMore_21 rfl rfl ⟨by decide, by decide, rfl, rfl, hz.1, hz.2⟩ rfl (Nat.le_of_ble_eq_true rfl) rfl ?_
      refine g_ishl (n := 25) dX2_oneHourMore_24 rfl ?_
      refine g_top (fp_shl hf) ?_
      refine g_goto (tgt := 29) dX2_oneHourMore_25 (by decide) ?_
      refine g_iaddN (n := 30) dX2_oneHourMore_29 rfl ?_
      refine g_istore_n (n := 31) dX2_oneHourMore_30 (by decide) rfl rfl ?_
      refine g_lsN (ls' := [_, _, _]) rfl ?_
      refine g_iincN (k := 1) (n := 34) dX2_oneHourMore_31 rfl (by decide) rfl rfl ?_
      refine g_lsN (ls' := [_, _, _]) rfl ?_
      refine g_goto (tgt := 4) dX2_oneHourMore_34 (by decide) ?_
      rw [← e9]
      exact ih
set_option maxRecDepth 20000 in
theorem t_X2_oneHourMore (l : Launch) (s : Nat) : Fn l M_X2_oneHourMore [.int (nI s)] ([]) (some (.int (nI (ohN s 6)))) ([]) := by
  refine con_of rfl rfl (Nat.le_of_ble_eq_true rfl) ?_
  refine g_lsN (ls' := [_, _, _]) rfl ?_
  refine g_iconst (v := nI 0) (n := 1) dX2_oneHourMore_0 (by decide) rfl ?_
  refine g_istore_n (n := 2) dX2_oneHourMore_1 (by decide) rfl rfl ?_
  refine g_lsN (ls' := [_, _, _]) rfl ?_
  refine g_iconst (v := nI 0) (n := 3) dX2_oneHourMore_2 (by decide) rfl ?_
  refine g_istore_n (n := 4) dX2_oneHourMore_3 (by decide) rfl rfl ?_
  refine g_lsN (ls' := [_, _, _]) rfl ?_
  exact lp_X2_oneHourMore l _ ⟨Nat.zero_le _, Nat.zero_le _⟩ _ s ⟨rfl, rfl⟩ 0 (Nat.zero_le _)
/-- the sets off, off - 1, .., few, one behind the other -/
def lpO (few : Nat) (st : Nat → Nat → Nat) : Nat → Nat → Nat
  | 0, k => k
  | off + 1, k => if off < few then k else lpO few st off (st off k)
/-- all of a set come down -/
abbrev dnS (S : ST) (off : Nat) : ST := sUp S (sup S &&& (nI off ^^^ (-1)))
/-- how things are behind an hour in which a set is down, and when it is up again -/
abbrev upS (V : WT) (S : ST) (off : Nat) : ST := sUp (psF V (dnS S off)) (sup (psF V (dnS S off)) ||| nI off)
def ptB (off left : Nat) : Bool := decide (nI off &&& (nI left ^^^ (-1)) = 0)
/-- the first key, when the hours that are left have been tried -/
def trH (V : WT) : Nat → ST → Nat → Nat → Nat → Nat
  | 0, _, _, key, fk => if key < fk then key else fk
  | k + 1, S, left, key, fk => if key < fk then lpO (if k = 0 then left else 0) (fun off fk => if ptB off left then (if flN V (dnS S off) (vnb V) = 0 then trH V k (upS V S off) (left - off) (key + ohN (left - off) 6) fk else fk) else fk) (left + 1) fk else fk
theorem lpO_le {few : Nat} {st : Nat → Nat → Nat} (h : ∀ off k, st off k ≤ k) : ∀ m k, lpO few st m k ≤ k
  | 0, k => Nat.le_refl _
  | m + 1, k => by
    rw [lpO]
    split
    · exact Nat.le_refl _
    · exact Nat.le_trans (lpO_le h m _) (h m k)
theorem trH_le (V : WT) : ∀ (k : Nat) (S : ST) (left key fk : Nat), trH V k S left key fk ≤ fk
  | 0, S, left, key, fk => by rw [trH]; split <;> omega
  | k + 1, S, left, key, fk => by
    rw [trH]
    split
    · refine lpO_le (fun off q => ?_) _ _
      split
      · split
        · exact trH_le V k _ _ _ _
        · exact Nat.le_refl _
      · exact Nat.le_refl _
    · exact Nat.le_refl _
theorem pt_sub : ∀ left, left < 64 → ∀ off, off ≤ left → ptB off left = true → nI left &&& (nI off ^^^ (-1)) = nI (left - off) := by decide +kernel
/-- 0 the rosters, 1-4 the clock, 5-11 the wall, 12 the row of states, 13-36 the states, 37-40 now -/
abbrev rq (n fk : Nat) (A : Nat → ST) (ra lo pr : Nat → Int32) (V : WT) (dn : Int32) (fb : Nat → Int32) (N : ST) (tl : List va_E) : List va_E := .inr (2, [.ref 1, .ref 12, .int (nI n), .int (nI fk)]) :: co 1 :: a8 ra :: a8 lo :: a8 pr :: wo V dn 5 :: a8 (vth V) :: a8 (vpa V) :: a6 (vki V) :: a6 (vsg V) :: a6 fb :: a6 (vkn V) :: sarr 13 6 :: so (A 0) 13 :: a6 (sbo (A 0)) :: a6 (sti (A 0)) :: a8 (sun (A 0)) :: so (A 1) 17 :: a6 (sbo (A 1)) :: a6 (sti (A 1)) :: a8 (sun (A 1)) :: so (A 2) 21 :: a6 (sbo (A 2)) :: a6 (sti (A 2)) :: a8 (sun (A 2)) :: so (A 3) 25 :: a6 (sbo (A 3)) :: a6 (sti (A 3)) :: a8 (sun (A 3)) :: so (A 4) 29 :: a6 (sbo (A 4)) :: a6 (sti (A 4)) :: a8 (sun (A 4)) :: so (A 5) 33 :: a6 (sbo (A 5)) :: a6 (sti (A 5)) :: a8 (sun (A 5)) :: so N 37 :: a6 (sbo N) :: a6 (sti N) :: a8 (sun N) :: tl
def TH (l : Launch) (V : WT) (dn : Int32) (fb : Nat → Int32) (N : ST) (tl : List va_E) (n d h : Nat) : Prop := ∀ (left key fk : Nat) (A : Nat → ST) (ra lo pr : Nat → Int32) (a : Nat), left < 64 → key ≤ h * 37449 → fk ≤ 262144 → (∀ j, okZ (A j)) → okS V (A h) a → a + (20 - h) < 2 ^ 31 →
  Con l (M_X2_tryHour d) [.ref 0, .ref 5, .int (nI h), .int (nI left), .int (nI key)] (rq n fk A ra lo pr V dn fb N tl) (fun r u => r = none ∧ ∃ A2 ra lo pr, (∀ j, j ≤ h → A2 j = A j) ∧ (∀ j, okZ (A2 j)) ∧ u = rq n (trH V (n - h) (A h) left key fk) A2 ra lo pr V dn fb N tl)
theorem okS_sup {V : WT} {S : ST} {a : Nat} (u : Int32) (h : okS V S a) : okS V (sUp S u) a := h

set_option maxRecDepth 20000 in
set_option maxHeartbeats 1000000 in
theorem t_X2_tryHour_5 (l : Launch) (V : WT) (hV : okV V) (dn : Int32) (fb : Nat → Int32) (N : ST) (tl : List va_E) (n : Nat) (hn : 5 ≤ n) (hn5 : n ≤ 5) : TH l V dn fb N tl n 6 5 := by
  intro left key fk A ra lo pr a hl hkey hfk hZ hS ha
  refine con_of rfl rfl (Nat.le_of_ble_eq_true rfl) ?_
  refine g_lsN (ls' := [_, _, _, _, _, _, _, _, _, _]) rfl ?_
  by_cases hk : key < fk
  · by_cases hnh : n = 5
    · subst hnh
      refine g_iload (n := 2) dX2_tryHour_0 rfl rfl ?_
      refine g_aload_n (n := 3) dX2_tryHour_2 rfl rfl ?_
      refine g_get (n := 6) fl_X2_36 dX2_tryHour_3 rfl rfl rfl ?_
      refine g_icmp_lt (tgt := 10) (n := 9) dX2_tryHour_6 (by decide) rfl (fun c6 => ?_) (fun c6 => absurd (nI_lt hk (by omega)) c6)
      refine g_iload_n (n := 11) dX2_tryHour_10 rfl rfl ?_
      refine g_aload_n (n := 12) dX2_tryHour_11 rfl rfl ?_
      refine g_get (n := 15) fl_X2_31 dX2_tryHour_12 rfl rfl rfl ?_
      refine g_icmp_ge (tgt := 23) (n := 18) dX2_tryHour_15 (by decide) rfl (fun c15 => ?_) (fun c15 => absurd (nI_le (by omega) (by omega)) c15)
      refine g_aload_n (n := 24) dX2_tryHour_23 rfl rfl ?_
      refine g_iload (n := 26) dX2_tryHour_24 rfl rfl ?_
      refine g_put (n := 29) pf_X2_36 dX2_tryHour_26 rfl (Nat.le_of_ble_eq_true rfl) (fun _ => rfl) (fun _ => rfl) rfl ?_
      refine g_wN (w' := (_ :: _ :: _ :: _ :: _ :: _ :: _ :: _ :: _ :: _ :: _ :: _ :: _ :: _ :: _ :: _ :: _ :: _ :: _ :: _ :: _ :: _ :: _ :: _ :: _ :: _ :: _ :: _ :: _ :: _ :: _ :: _ :: _ :: _ :: _ :: _ :: _ :: _ :: _ :: _ :: _ :: _)) rfl ?_
      exact g_vret dX2_tryHour_29 rfl ⟨Nat.zero_le _, Nat.zero_le _⟩ ⟨rfl, A, ra, lo, pr, fun _ _ => rfl, hZ, by rw [show 5 - 5 = 0 from rfl, trH, if_pos hk]; rfl⟩
    · omega
  · have e2 : trH V (n - 5) (A 5) left key fk = fk := by
      cases n - 5 with
      | zero => rw [trH, if_neg hk]
      | succ k => rw [trH, if_neg hk]
    rw [e2]
    refine g_iload (n := 2) dX2_tryHour_0 rfl rfl ?_
    refine g_aload_n (n := 3) dX2_tryHour_2 rfl rfl ?_
    refine g_get (n := 6) fl_X2_36 dX2_tryHour_3 rfl rfl rfl ?_
    refine g_icmp_lt (tgt := 10) (n := 9) dX2_tryHour_6 (by decide) rfl (fun c6 => absurd c6 (nI_nlt (by omega) (by omega))) (fun c6 => ?_)
    exact g_vret dX2_tryHour_9 rfl ⟨Nat.zero_le _, Nat.zero_le _⟩ ⟨rfl, A, _, _, _, fun _ _ => rfl, hZ, rfl⟩
set_option maxRecDepth 20000 in
set_option maxHeartbeats 4000000 in
theorem lp_X2_tryHour_4 (l : Launch) (z : Nat × Nat × Nat) (hz : z.2.1 ≤ 0 ∧ z.2.2 ≤ 0) (Q : Option Value → List va_E → Prop) (V : WT) (hV : okV V) (dn : Int32) (fb : Nat → Int32) (N : ST) (tl : List va_E) (n : Nat) (hn : 4 < n) (hn5 : n ≤ 5) (hTH : TH l V dn fb N tl n 6 5) (left key few : Nat) (hl : left < 64) (hkey : key ≤ 4 * 37449) (hfew : few ≤ left) (S : ST) (a : Nat) (ha : a + (20 - 4) < 2 ^ 31) (hS : okS V S a) : ∀ (m fk : Nat) (A : Nat → ST) (ra lo pr : Nat → Int32) (o8 o9 : Option Value), m ≤ left + 1 → fk ≤ 262144 → A 4 = S → (∀ j, okZ (A j)) → (∀ A2 ra lo pr, (∀ j, j ≤ 4 → A2 j = A j) → (∀ j, okZ (A2 j)) → Q none (rq n (lpO few (fun off fk => if ptB off left then (if flN V (dnS S off) (vnb V) = 0 then trH V (n - 5) (upS V S off) (left - off) (key + ohN (left - off) 6) fk else fk) else fk) m fk) A2 ra lo pr V dn fb N tl)) → G l (M_X2_tryHour 7) z Q 60 [some (.ref 0), some (.ref 5), some (.int (nI 4)), some (.int (nI left)), some (.int (nI key)), some (.ref 33), some (.int (nI few)), some (.int (nI m - nI 1)), o8, o9] [] (rq n fk A ra lo pr V dn fb N tl) := by
  intro m
  induction m with
  | zero =>
    intro fk A ra lo pr o8 o9 hm hfk hAS hZ hQ
    refine g_iload (n := 62) dX2_tryHour_60 rfl rfl ?_
    refine g_iload (n := 64) dX2_tryHour_62 rfl rfl ?_
    refine g_icmp_lt (tgt := 173) (n := 67) dX2_tryHour_64 (by decide) rfl (fun c64 => ?_) (fun c64 => absurd (show nI 0 - nI 1 < nI few from pk_sneg_lt (by omega)) c64)
    exact g_vret dX2_tryHour_173 rfl hz (hQ A _ _ _ (fun _ _ => rfl) hZ)
  | succ off ih =>
    intro fk A ra lo pr o8 o9 hm hfk hAS hZ hQ
    have e7 : nI (off + 1) - nI 1 = nI off := nI_sub1 (by omega)
    rw [e7]
    have hSA : okS V (A 4) a := by rw [hAS]; exact hS
    by_cases hlt : off < few
    · have eL : lpO few (fun off fk => if ptB off left then (if flN V (dnS S off) (vnb V) = 0 then trH V (n - 5) (upS V S off) (left - off) (key + ohN (left - off) 6) fk else fk) else fk) (off + 1) fk = fk := by rw [lpO, if_pos hlt]
      rw [eL] at hQ
      refine g_iload (n := 62) dX2_tryHour_60 rfl rfl ?_
      refine g_iload (n := 64) dX2_tryHour_62 rfl rfl ?_
      refine g_icmp_lt (tgt := 173) (n := 67) dX2_tryHour_64 (by decide) rfl (fun c64 => ?_) (fun c64 => absurd (nI_lt hlt (by omega)) c64)
      exact g_vret dX2_tryHour_173 rfl hz (hQ A _ _ _ (fun _ _ => rfl) hZ)
    · have eL : lpO few (fun off fk => if ptB off left then (if flN V (dnS S off) (vnb V) = 0 then trH V (n - 5) (upS V S off) (left - off) (key + ohN (left - off) 6) fk else fk) else fk) (off + 1) fk = lpO few (fun off fk => if ptB off left then (if flN V (dnS S off) (vnb V) = 0 then trH V (n - 5) (upS V S off) (left - off) (key + ohN (left - off) 6) fk else fk) else fk) off (if ptB off left then (if flN V (dnS (A 4) off) (vnb V) = 0 then trH V (n - 5) (upS V (A 4) off) (left - off) (key + ohN (left - off) 6) fk else fk) else fk) := by rw [lpO, if_neg hlt, hAS]
      rw [eL] at hQ
      by_cases hpt : ptB off left = true
      · have hps := pt_sub left hl off (by omega) hpt
        rw [if_pos hpt] at hQ
        by_cases hfl : flN V (dnS (A 4) off) (vnb V) = 0
        · rw [if_pos hfl] at hQ
          have hZ2 : ∀ j, okZ (pu (pu A 5 (A 4)) 5 (upS V (A 4) off) j) := okZ_pu _ (okZ_pu _ hZ (hZ 4)) (okZ_up _ (okZ_ps hV (okZ_up _ (hZ 4))))
          have hS2 : okS V (pu (pu A 5 (A 4)) 5 (upS V (A 4) off) 5) (a + 1) := okS_sup _ (okS_ps hV (okS_sup _ hSA))
          refine g_iload (n := 62) dX2_tryHour_60 rfl rfl ?_
          refine g_iload (n := 64) dX2_tryHour_62 rfl rfl ?_
          refine g_icmp_lt (tgt := 173) (n := 67) dX2_tryHour_64 (by decide) rfl (fun c64 => absurd c64 (nI_nlt (by omega) (by omega))) (fun c64 => ?_)
          refine g_iload (n := 69) dX2_tryHour_67 rfl rfl ?_
          refine g_iload_n (n := 70) dX2_tryHour_69 rfl rfl ?_
          refine g_callSNi (n := 73) cs_X2_62 (t_X8_isPart l _ _) dX2_tryHour_70 rfl rfl ⟨by decide, by decide, rfl, rfl, hz.1, hz.2⟩ rfl (Nat.le_of_ble_eq_true rfl) rfl ?_
          refine g_if_ne (tgt := 79) (n := 76) dX2_tryHour_73 (by decide) rfl (fun c73 => ?_) (fun c73 => absurd c73 (bI_n0.mpr hpt))
          refine g_aload (n := 81) dX2_tryHour_79 rfl rfl ?_
          refine g_aload_n (n := 82) dX2_tryHour_81 rfl rfl ?_
          refine g_get (n := 85) fl_X2_20 dX2_tryHour_82 rfl rfl rfl ?_
          refine g_iload_n (n := 86) dX2_tryHour_85 rfl rfl ?_
          refine g_aaldN (n := 87) dX2_tryHour_86 rfl rfl (by decide) (by omega) rfl ?_
          refine g_cutVv (ps := [33, 34, 35, 36, 29, 30, 31, 32]) (w' := (_ :: _ :: _ :: _ :: _ :: _ :: _ :: _ :: _ :: _ :: _ :: _ :: _ :: _ :: _ :: _ :: _ :: _ :: _ :: _ :: _ :: _ :: _ :: _ :: _ :: _ :: _ :: _ :: _ :: _ :: _ :: _ :: _ :: _ :: _ :: _ :: _ :: _ :: _ :: _ :: _ :: _)) (n := 90) cv_X2_43 (t_X3_takeFrom l (A 5) (A 4) (hZ 5) (hZ 4)) dX2_tryHour_87 rfl rfl rfl ⟨by decide, by decide, rfl, rfl, hz.1, hz.2⟩ rfl rfl rfl (Nat.le_of_ble_eq_true rfl) rfl rfl rfl ?_
          refine g_aload (n := 92) dX2_tryHour_90 rfl rfl ?_
          refine g_dup (n := 93) dX2_tryHour_92 rfl rfl ?_
          refine g_get (n := 96) fl_X2_47 dX2_tryHour_93 rfl rfl rfl ?_
          refine g_iload (n := 98) dX2_tryHour_96 rfl rfl ?_
          refine g_iconst (v := (-1)) (n := 99) dX2_tryHour_98 (by decide) rfl ?_
          refine g_ixor (n := 100) dX2_tryHour_99 rfl ?_
          refine g_iand (n := 101) dX2_tryHour_100 rfl ?_
          refine g_put (n := 104) pf_X2_47 dX2_tryHour_101 rfl (Nat.le_of_ble_eq_true rfl) (fun _ => rfl) (fun _ => rfl) rfl ?_
          refine g_wN (w' := (_ :: _ :: _ :: _ :: _ :: _ :: _ :: _ :: _ :: _ :: _ :: _ :: _ :: _ :: _ :: _ :: _ :: _ :: _ :: _ :: _ :: _ :: _ :: _ :: _ :: _ :: _ :: _ :: _ :: _ :: _ :: _ :: _ :: _ :: _ :: _ :: _ :: _ :: _ :: _ :: _ :: _)) rfl ?_
          refine g_aload_n (n := 105) dX2_tryHour_104 rfl rfl ?_
          refine g_get (n := 108) fl_X2_14 dX2_tryHour_105 rfl rfl rfl ?_
          refine g_aload_n (n := 109) dX2_tryHour_108 rfl rfl ?_
          refine g_aload (n := 111) dX2_tryHour_109 rfl rfl ?_
          refine g_cutVi (ps := [1, 2, 3, 4, 5, 6, 7, 8, 9, 10, 11, 33, 34, 35, 36]) (w' := (_ :: _ :: _ :: _ :: _ :: _ :: _ :: _ :: _ :: _ :: _ :: _ :: _ :: _ :: _ :: _ :: _ :: _ :: _ :: _ :: _ :: _ :: _ :: _ :: _ :: _ :: _ :: _ :: _ :: _ :: _ :: _ :: _ :: _ :: _ :: _ :: _ :: _ :: _ :: _ :: _ :: _)) (n := 114) cv_X2_54 (t_X0_goBy l _ _ _ V hV dn fb (dnS (A 4) off) hSA.2.1 hSA.2.2.1 a (by omega) hSA.2.2.2) dX2_tryHour_111 rfl rfl rfl ⟨by decide, by decide, rfl, rfl, hz.1, hz.2⟩ rfl rfl rfl (Nat.le_of_ble_eq_true rfl) rfl rfl rfl ?_
          refine g_if_ne (tgt := 121) (n := 117) dX2_tryHour_114 (by decide) rfl (fun c114 => absurd hfl c114) (fun c114 => ?_)
          refine g_iconst (v := nI 1) (n := 118) dX2_tryHour_117 (by decide) rfl ?_
          refine g_goto (tgt := 122) dX2_tryHour_118 (by decide) ?_
          refine g_istore (n := 124) dX2_tryHour_122 (by decide) rfl rfl ?_
          refine g_lsN (ls' := [_, _, _, _, _, _, _, _, _, _]) rfl ?_
          refine g_aload (n := 126) dX2_tryHour_124 rfl rfl ?_
          refine g_dup (n := 127) dX2_tryHour_126 rfl rfl ?_
          refine g_get (n := 130) fl_X2_47 dX2_tryHour_127 rfl rfl rfl ?_
          refine g_iload (n := 132) dX2_tryHour_130 rfl rfl ?_
          refine g_ior (n := 133) dX2_tryHour_132 rfl ?_
          refine g_put (n := 136) pf_X2_47 dX2_tryHour_133 rfl (Nat.le_of_ble_eq_true rfl) (fun _ => rfl) (fun _ => rfl) rfl ?_
          refine g_wN (w' := (_ :: _ :: _ :: _ :: _ :: _ :: _ :: _ :: _ :: _ :: _ :: _ :: _ :: _ :: _ :: _ :: _ :: _ :: _ :: _ :: _ :: _ :: _ :: _ :: _ :: _ :: _ :: _ :: _ :: _ :: _ :: _ :: _ :: _ :: _ :: _ :: _ :: _ :: _ :: _ :: _ :: _)) rfl ?_
          refine g_iload (n := 138) dX2_tryHour_136 rfl rfl ?_
          refine g_if_eq (tgt := 167) (n := 141) dX2_tryHour_138 (by decide) rfl (fun c138 => absurd c138 (by decide)) (fun c138 => ?_)
          refine g_iload_n (n := 142) dX2_tryHour_141 rfl rfl ?_
          refine g_iload (n := 144) dX2_tryHour_142 rfl rfl ?_
          refine g_iconst (v := (-1)) (n := 145) dX2_tryHour_144 (by decide) rfl ?_
          refine g_ixor (n := 146) dX2_tryHour_145 rfl ?_
          refine g_iand (n := 147) dX2_tryHour_146 rfl ?_
          refine g_top hps ?_
          refine g_istore (n := 149) dX2_tryHour_147 (by decide) rfl rfl ?_
          refine g_lsN (ls' := [_, _, _, _, _, _, _, _, _, _]) rfl ?_
          refine g_wN (w' := rq n fk (pu (pu A 5 (A 4)) 5 (upS V (A 4) off)) _ _ _ V dn fb N tl) rfl ?_
          refine g_aload_n (n := 150) dX2_tryHour_149 rfl rfl ?_
          refine g_aload_n (n := 151) dX2_tryHour_150 rfl rfl ?_
          refine g_iload_n (n := 152) dX2_tryHour_151 rfl rfl ?_
          refine g_iconst (v := nI 1) (n := 153) dX2_tryHour_152 (by decide) rfl ?_
          refine g_iaddN (n := 154) dX2_tryHour_153 rfl ?_
          refine g_iload (n := 156) dX2_tryHour_154 rfl rfl ?_
          refine g_iload (n := 158) dX2_tryHour_156 rfl rfl ?_
          refine g_iload (n := 160) dX2_tryHour_158 rfl rfl ?_
          refine g_callSi (n := 163) cs_X2_66 (t_X2_oneHourMore l _) dX2_tryHour_160 rfl rfl ⟨by decide, by decide, rfl, rfl, hz.1, hz.2⟩ rfl (Nat.le_of_ble_eq_true rfl) rfl ?_
          refine g_iaddN (n := 164) dX2_tryHour_163 rfl ?_
          refine g_callW (n := 167) (cv_X2_50d _) (hTH (left - off) (key + ohN (left - off) 6) fk (pu (pu A 5 (A 4)) 5 (upS V (A 4) off)) _ _ _ (a + 1) (by omega) (by have := ohN_b (left - off); omega) hfk hZ2 hS2 (by omega)) dX2_tryHour_164 rfl ⟨by decide, by decide, rfl, rfl, hz.1, hz.2⟩ rfl rfl rfl (Nat.le_of_ble_eq_true rfl) rfl (fun r cw164 hq164 => ?_)
          obtain ⟨rfl, A2, ra2, lo2, pr2, hA2, hZ3, rfl⟩ := hq164
          refine ⟨rfl, ?_⟩
          refine g_stN (st' := []) rfl ?_
          refine g_wN (w' := (_ :: _ :: _ :: _ :: _ :: _ :: _ :: _ :: _ :: _ :: _ :: _ :: _ :: _ :: _ :: _ :: _ :: _ :: _ :: _ :: _ :: _ :: _ :: _ :: _ :: _ :: _ :: _ :: _ :: _ :: _ :: _ :: _ :: _ :: _ :: _ :: _ :: _ :: _ :: _ :: _ :: _)) rfl ?_
          refine g_iinc (n := 170) dX2_tryHour_167 rfl rfl (by decide) rfl rfl ?_
          refine g_lsN (ls' := [_, _, _, _, _, _, _, _, _, _]) rfl ?_
          refine g_goto (tgt := 60) dX2_tryHour_170 (by decide) ?_
          rw [nI_dec]
          refine ih _ A2 _ _ _ _ _ (by omega) (Nat.le_trans (trH_le _ _ _ _ _ _) hfk) ((hA2 4 (by decide)).trans hAS) hZ3 (fun A3 ra lo pr h3 hZ4 => ?_)
          have e5 := hQ A3 ra lo pr (fun j hj => (h3 j hj).trans ((hA2 j (by omega)).trans (by unfold pu; rw [if_neg (by omega), if_neg (by omega)]))) hZ4
          exact e5
        · rw [if_neg hfl] at hQ
          have hZ2 : ∀ j, okZ (pu (pu A 5 (A 4)) 5 (upS V (A 4) off) j) := okZ_pu _ (okZ_pu _ hZ (hZ 4)) (okZ_up _ (okZ_ps hV (okZ_up _ (hZ 4))))
          refine g_iload (n := 62) dX2_tryHour_60 rfl rfl ?_
          refine g_iload (n := 64) dX2_tryHour_62 rfl rfl ?_
          refine g_icmp_lt (tgt := 173) (n := 67) dX2_tryHour_64 (by decide) rfl (fun c64 => absurd c64 (nI_nlt (by omega) (by omega))) (fun c64 => ?_)
          refine g_iload (n := 69) dX2_tryHour_67 rfl rfl ?_
          refine g_iload_n (n := 70) dX2_tryHour_69 rfl rfl ?_
          refine g_callSNi (n := 73) cs_X2_62 (t_X8_isPart l _ _) dX2_tryHour_70 rfl rfl ⟨by decide, by decide, rfl, rfl, hz.1, hz.2⟩ rfl (Nat.le_of_ble_eq_true rfl) rfl ?_
          refine g_if_ne (tgt := 79) (n := 76) dX2_tryHour_73 (by decide) rfl (fun c73 => ?_) (fun c73 => absurd c73 (bI_n0.mpr hpt))
          refine g_aload (n := 81) dX2_tryHour_79 rfl rfl ?_
          refine g_aload_n (n := 82) dX2_tryHour_81 rfl rfl ?_
          refine g_get (n := 85) fl_X2_20 dX2_tryHour_82 rfl rfl rfl ?_
          refine g_iload_n (n := 86) dX2_tryHour_85 rfl rfl ?_
          refine g_aaldN (n := 87) dX2_tryHour_86 rfl rfl (by decide) (by omega) rfl ?_
          refine g_cutVv (ps := [33, 34, 35, 36, 29, 30, 31, 32]) (w' := (_ :: _ :: _ :: _ :: _ :: _ :: _ :: _ :: _ :: _ :: _ :: _ :: _ :: _ :: _ :: _ :: _ :: _ :: _ :: _ :: _ :: _ :: _ :: _ :: _ :: _ :: _ :: _ :: _ :: _ :: _ :: _ :: _ :: _ :: _ :: _ :: _ :: _ :: _ :: _ :: _ :: _)) (n := 90) cv_X2_43 (t_X3_takeFrom l (A 5) (A 4) (hZ 5) (hZ 4)) dX2_tryHour_87 rfl rfl rfl ⟨by decide, by decide, rfl, rfl, hz.1, hz.2⟩ rfl rfl rfl (Nat.le_of_ble_eq_true rfl) rfl rfl rfl ?_
          refine g_aload (n := 92) dX2_tryHour_90 rfl rfl ?_
          refine g_dup (n := 93) dX2_tryHour_92 rfl rfl ?_
          refine g_get (n := 96) fl_X2_47 dX2_tryHour_93 rfl rfl rfl ?_
          refine g_iload (n := 98) dX2_tryHour_96 rfl rfl ?_
          refine g_iconst (v := (-1)) (n := 99) dX2_tryHour_98 (by decide) rfl ?_
          refine g_ixor (n := 100) dX2_tryHour_99 rfl ?_
          refine g_iand (n := 101) dX2_tryHour_100 rfl ?_
          refine g_put (n := 104) pf_X2_47 dX2_tryHour_101 rfl (Nat.le_of_ble_eq_true rfl) (fun _ => rfl) (fun _ => rfl) rfl ?_
          refine g_wN (w' := (_ :: _ :: _ :: _ :: _ :: _ :: _ :: _ :: _ :: _ :: _ :: _ :: _ :: _ :: _ :: _ :: _ :: _ :: _ :: _ :: _ :: _ :: _ :: _ :: _ :: _ :: _ :: _ :: _ :: _ :: _ :: _ :: _ :: _ :: _ :: _ :: _ :: _ :: _ :: _ :: _ :: _)) rfl ?_
          refine g_aload_n (n := 105) dX2_tryHour_104 rfl rfl ?_
          refine g_get (n := 108) fl_X2_14 dX2_tryHour_105 rfl rfl rfl ?_
          refine g_aload_n (n := 109) dX2_tryHour_108 rfl rfl ?_
          refine g_aload (n := 111) dX2_tryHour_109 rfl rfl ?_
          refine g_cutVi (ps := [1, 2, 3, 4, 5, 6, 7, 8, 9, 10, 11, 33, 34, 35, 36]) (w' := (_ :: _ :: _ :: _ :: _ :: _ :: _ :: _ :: _ :: _ :: _ :: _ :: _ :: _ :: _ :: _ :: _ :: _ :: _ :: _ :: _ :: _ :: _ :: _ :: _ :: _ :: _ :: _ :: _ :: _ :: _ :: _ :: _ :: _ :: _ :: _ :: _ :: _ :: _ :: _ :: _ :: _)) (n := 114) cv_X2_54 (t_X0_goBy l _ _ _ V hV dn fb (dnS (A 4) off) hSA.2.1 hSA.2.2.1 a (by omega) hSA.2.2.2) dX2_tryHour_111 rfl rfl rfl ⟨by decide, by decide, rfl, rfl, hz.1, hz.2⟩ rfl rfl rfl (Nat.le_of_ble_eq_true rfl) rfl rfl rfl ?_
          refine g_if_ne (tgt := 121) (n := 117) dX2_tryHour_114 (by decide) rfl (fun c114 => ?_) (fun c114 => absurd c114 hfl)
          refine g_iconst (v := nI 0) (n := 122) dX2_tryHour_121 (by decide) rfl ?_
          refine g_istore (n := 124) dX2_tryHour_122 (by decide) rfl rfl ?_
          refine g_lsN (ls' := [_, _, _, _, _, _, _, _, _, _]) rfl ?_
          refine g_aload (n := 126) dX2_tryHour_124 rfl rfl ?_
          refine g_dup (n := 127) dX2_tryHour_126 rfl rfl ?_
          refine g_get (n := 130) fl_X2_47 dX2_tryHour_127 rfl rfl rfl ?_
          refine g_iload (n := 132) dX2_tryHour_130 rfl rfl ?_
          refine g_ior (n := 133) dX2_tryHour_132 rfl ?_
          refine g_put (n := 136) pf_X2_47 dX2_tryHour_133 rfl (Nat.le_of_ble_eq_true rfl) (fun _ => rfl) (fun _ => rfl) rfl ?_
          refine g_wN (w' := (_ :: _ :: _ :: _ :: _ :: _ :: _ :: _ :: _ :: _ :: _ :: _ :: _ :: _ :: _ :: _ :: _ :: _ :: _ :: _ :: _ :: _ :: _ :: _ :: _ :: _ :: _ :: _ :: _ :: _ :: _ :: _ :: _ :: _ :: _ :: _ :: _ :: _ :: _ :: _ :: _ :: _)) rfl ?_
          refine g_iload (n := 138) dX2_tryHour_136 rfl rfl ?_
          refine g_if_eq (tgt := 167) (n := 141) dX2_tryHour_138 (by decide) rfl (fun c138 => ?_) (fun c138 => absurd rfl c138)
          refine g_iinc (n := 170) dX2_tryHour_167 rfl rfl (by decide) rfl rfl ?_
          refine g_lsN (ls' := [_, _, _, _, _, _, _, _, _, _]) rfl ?_
          refine g_goto (tgt := 60) dX2_tryHour_170 (by decide) ?_
          rw [nI_dec]
          refine g_wN (w' := rq n fk (pu (pu A 5 (A 4)) 5 (upS V (A 4) off)) _ _ _ V dn fb N tl) rfl ?_
          refine ih _ (pu (pu A 5 (A 4)) 5 (upS V (A 4) off)) _ _ _ _ _ (by omega) hfk hAS hZ2 (fun A3 ra lo pr h3 hZ4 => ?_)
          have e5 := hQ A3 ra lo pr (fun j hj => (h3 j hj).trans (by unfold pu; rw [if_neg (by omega), if_neg (by omega)])) hZ4
          exact e5
      · rw [if_neg hpt] at hQ
        refine g_iload (n := 62) dX2_tryHour_60 rfl rfl ?_
        refine g_iload (n := 64) dX2_tryHour_62 rfl rfl ?_
        refine g_icmp_lt (tgt := 173) (n := 67) dX2_tryHour_64 (by decide) rfl (fun c64 => absurd c64 (nI_nlt (by omega) (by omega))) (fun c64 => ?_)
        refine g_iload (n := 69) dX2_tryHour_67 rfl rfl ?_
        refine g_iload_n (n := 70) dX2_tryHour_69 rfl rfl ?_
        refine g_callSNi (n := 73) cs_X2_62 (t_X8_isPart l _ _) dX2_tryHour_70 rfl rfl ⟨by decide, by decide, rfl, rfl, hz.1, hz.2⟩ rfl (Nat.le_of_ble_eq_true rfl) rfl ?_
        refine g_if_ne (tgt := 79) (n := 76) dX2_tryHour_73 (by decide) rfl (fun c73 => absurd (bI_0.mpr (Bool.eq_false_iff.mpr hpt)) c73) (fun c73 => ?_)
        refine g_goto (tgt := 167) dX2_tryHour_76 (by decide) ?_
        refine g_iinc (n := 170) dX2_tryHour_167 rfl rfl (by decide) rfl rfl ?_
        refine g_lsN (ls' := [_, _, _, _, _, _, _, _, _, _]) rfl ?_
        refine g_goto (tgt := 60) dX2_tryHour_170 (by decide) ?_
        rw [nI_dec]
        exact ih _ A _ _ _ _ _ (by omega) hfk hAS hZ hQ
set_option maxRecDepth 20000 in
set_option maxHeartbeats 1000000 in
theorem t_X2_tryHour_4 (l : Launch) (V : WT) (hV : okV V) (dn : Int32) (fb : Nat → Int32) (N : ST) (tl : List va_E) (n : Nat) (hn : 4 ≤ n) (hn5 : n ≤ 5) (hTH : 4 < n → TH l V dn fb N tl n 6 5) : TH l V dn fb N tl n 7 4 := by
  intro left key fk A ra lo pr a hl hkey hfk hZ hS ha
  refine con_of rfl rfl (Nat.le_of_ble_eq_true rfl) ?_
  refine g_lsN (ls' := [_, _, _, _, _, _, _, _, _, _]) rfl ?_
  by_cases hk : key < fk
  · by_cases hnh : n = 4
    · subst hnh
      refine g_iload (n := 2) dX2_tryHour_0 rfl rfl ?_
      refine g_aload_n (n := 3) dX2_tryHour_2 rfl rfl ?_
      refine g_get (n := 6) fl_X2_36 dX2_tryHour_3 rfl rfl rfl ?_
      refine g_icmp_lt (tgt := 10) (n := 9) dX2_tryHour_6 (by decide) rfl (fun c6 => ?_) (fun c6 => absurd (nI_lt hk (by omega)) c6)
      refine g_iload_n (n := 11) dX2_tryHour_10 rfl rfl ?_
      refine g_aload_n (n := 12) dX2_tryHour_11 rfl rfl ?_
      refine g_get (n := 15) fl_X2_31 dX2_tryHour_12 rfl rfl rfl ?_
      refine g_icmp_ge (tgt := 23) (n := 18) dX2_tryHour_15 (by decide) rfl (fun c15 => ?_) (fun c15 => absurd (nI_le (by omega) (by omega)) c15)
      refine g_aload_n (n := 24) dX2_tryHour_23 rfl rfl ?_
      refine g_iload (n := 26) dX2_tryHour_24 rfl rfl ?_
      refine g_put (n := 29) pf_X2_36 dX2_tryHour_26 rfl (Nat.le_of_ble_eq_true rfl) (fun _ => rfl) (fun _ => rfl) rfl ?_
      refine g_wN (w' := (_ :: _ :: _ :: _ :: _ :: _ :: _ :: _ :: _ :: _ :: _ :: _ :: _ :: _ :: _ :: _ :: _ :: _ :: _ :: _ :: _ :: _ :: _ :: _ :: _ :: _ :: _ :: _ :: _ :: _ :: _ :: _ :: _ :: _ :: _ :: _ :: _ :: _ :: _ :: _ :: _ :: _)) rfl ?_
      exact g_vret dX2_tryHour_29 rfl ⟨Nat.zero_le _, Nat.zero_le _⟩ ⟨rfl, A, ra, lo, pr, fun _ _ => rfl, hZ, by rw [show 4 - 4 = 0 from rfl, trH, if_pos hk]; rfl⟩
    · have e1 : n - 4 = n - 5 + 1 := by omega
      have e2 : trH V (n - 4) (A 4) left key fk = lpO (if n - 5 = 0 then left else 0) (fun off fk => if ptB off left then (if flN V (dnS (A 4) off) (vnb V) = 0 then trH V (n - 5) (upS V (A 4) off) (left - off) (key + ohN (left - off) 6) fk else fk) else fk) (left + 1) fk := by rw [e1, trH, if_pos hk]
      rw [e2]
      by_cases hlast : n = 5
      · rw [if_pos (show n - 5 = 0 by omega)]
        refine g_iload (n := 2) dX2_tryHour_0 rfl rfl ?_
        refine g_aload_n (n := 3) dX2_tryHour_2 rfl rfl ?_
        refine g_get (n := 6) fl_X2_36 dX2_tryHour_3 rfl rfl rfl ?_
        refine g_icmp_lt (tgt := 10) (n := 9) dX2_tryHour_6 (by decide) rfl (fun c6 => ?_) (fun c6 => absurd (nI_lt hk (by omega)) c6)
        refine g_iload_n (n := 11) dX2_tryHour_10 rfl rfl ?_
        refine g_aload_n (n := 12) dX2_tryHour_11 rfl rfl ?_
        refine g_get (n := 15) fl_X2_31 dX2_tryHour_12 rfl rfl rfl ?_
        refine g_icmp_ge (tgt := 23) (n := 18) dX2_tryHour_15 (by decide) rfl (fun c15 => absurd c15 (nI_ge (by omega) (by omega))) (fun c15 => ?_)
        refine g_iload_n (n := 19) dX2_tryHour_18 rfl rfl ?_
        refine g_iconst (v := nI 5) (n := 20) dX2_tryHour_19 (by decide) rfl ?_
        refine g_icmp_lt (tgt := 30) (n := 23) dX2_tryHour_20 (by decide) rfl (fun c20 => ?_) (fun c20 => absurd (by decide) c20)
        refine g_aload_n (n := 31) dX2_tryHour_30 rfl rfl ?_
        refine g_get (n := 34) fl_X2_20 dX2_tryHour_31 rfl rfl rfl ?_
        refine g_iload_n (n := 35) dX2_tryHour_34 rfl rfl ?_
        refine g_iconst (v := nI 1) (n := 36) dX2_tryHour_35 (by decide) rfl ?_
        refine g_iaddN (n := 37) dX2_tryHour_36 rfl ?_
        refine g_aaldN (n := 38) dX2_tryHour_37 rfl rfl (by decide) (by omega) rfl ?_
        refine g_astore (n := 40) dX2_tryHour_38 (by decide) rfl rfl ?_
        refine g_lsN (ls' := [_, _, _, _, _, _, _, _, _, _]) rfl ?_
        refine g_iload_n (n := 41) dX2_tryHour_40 rfl rfl ?_
        refine g_aload_n (n := 42) dX2_tryHour_41 rfl rfl ?_
        refine g_get (n := 45) fl_X2_31 dX2_tryHour_42 rfl rfl rfl ?_
        refine g_iconst (v := nI 1) (n := 46) dX2_tryHour_45 (by decide) rfl ?_
        refine g_isubN (n := 47) dX2_tryHour_46 rfl (by omega) ?_
        refine g_icmp_ne (tgt := 54) (n := 50) dX2_tryHour_47 (by decide) rfl (fun c47 => absurd (show nI 4 = nI (n - 1) by rw [show n - 1 = 4 by omega]) c47) (fun c47 => ?_)
        refine g_iload_n (n := 51) dX2_tryHour_50 rfl rfl ?_
        refine g_goto (tgt := 55) dX2_tryHour_51 (by decide) ?_
        refine g_istore (n := 57) dX2_tryHour_55 (by decide) rfl rfl ?_
        refine g_lsN (ls' := [_, _, _, _, _, _, _, _, _, _]) rfl ?_
        refine g_iload_n (n := 58) dX2_tryHour_57 rfl rfl ?_
        refine g_istore (n := 60) dX2_tryHour_58 (by decide) rfl rfl ?_
        refine g_lsN (ls' := [_, _, _, _, _, _, _, _, _, _]) rfl ?_
        refine g_lsN (ls' := [_, _, _, _, _, _, _, some (.int (nI (left + 1) - nI 1)), _, _]) (by rw [nI_sub1 (by omega)]; rfl) ?_
        exact lp_X2_tryHour_4 l _ ⟨Nat.zero_le _, Nat.zero_le _⟩ _ V hV dn fb N tl n (by omega) hn5 (hTH (by omega)) left key left hl hkey (by omega) (A 4) a (by omega) hS (left + 1) fk A _ _ _ _ _ (Nat.le_refl _) hfk rfl hZ (fun A2 ra lo pr h2 hZ2 => ⟨rfl, A2, ra, lo, pr, h2, hZ2, rfl⟩)
      · rw [if_neg (show ¬ n - 5 = 0 by omega)]
        refine g_iload (n := 2) dX2_tryHour_0 rfl rfl ?_
        refine g_aload_n (n := 3) dX2_tryHour_2 rfl rfl ?_
        refine g_get (n := 6) fl_X2_36 dX2_tryHour_3 rfl rfl rfl ?_
        refine g_icmp_lt (tgt := 10) (n := 9) dX2_tryHour_6 (by decide) rfl (fun c6 => ?_) (fun c6 => absurd (nI_lt hk (by omega)) c6)
        refine g_iload_n (n := 11) dX2_tryHour_10 rfl rfl ?_
        refine g_aload_n (n := 12) dX2_tryHour_11 rfl rfl ?_
        refine g_get (n := 15) fl_X2_31 dX2_tryHour_12 rfl rfl rfl ?_
        refine g_icmp_ge (tgt := 23) (n := 18) dX2_tryHour_15 (by decide) rfl (fun c15 => absurd c15 (nI_ge (by omega) (by omega))) (fun c15 => ?_)
        refine g_iload_n (n := 19) dX2_tryHour_18 rfl rfl ?_
        refine g_iconst (v := nI 5) (n := 20) dX2_tryHour_19 (by decide) rfl ?_
        refine g_icmp_lt (tgt := 30) (n := 23) dX2_tryHour_20 (by decide) rfl (fun c20 => ?_) (fun c20 => absurd (by decide) c20)
        refine g_aload_n (n := 31) dX2_tryHour_30 rfl rfl ?_
        refine g_get (n := 34) fl_X2_20 dX2_tryHour_31 rfl rfl rfl ?_
        refine g_iload_n (n := 35) dX2_tryHour_34 rfl rfl ?_
        refine g_iconst (v := nI 1) (n := 36) dX2_tryHour_35 (by decide) rfl ?_
        refine g_iaddN (n := 37) dX2_tryHour_36 rfl ?_
        refine g_aaldN (n := 38) dX2_tryHour_37 rfl rfl (by decide) (by omega) rfl ?_
        refine g_astore (n := 40) dX2_tryHour_38 (by decide) rfl rfl ?_
        refine g_lsN (ls' := [_, _, _, _, _, _, _, _, _, _]) rfl ?_
        refine g_iload_n (n := 41) dX2_tryHour_40 rfl rfl ?_
        refine g_aload_n (n := 42) dX2_tryHour_41 rfl rfl ?_
        refine g_get (n := 45) fl_X2_31 dX2_tryHour_42 rfl rfl rfl ?_
        refine g_iconst (v := nI 1) (n := 46) dX2_tryHour_45 (by decide) rfl ?_
        refine g_isubN (n := 47) dX2_tryHour_46 rfl (by omega) ?_
        refine g_icmp_ne (tgt := 54) (n := 50) dX2_tryHour_47 (by decide) rfl (fun c47 => ?_) (fun c47 => absurd c47 (fun x => by have := (nI_eq (by omega) (by omega)).mp x; omega))
        refine g_iconst (v := nI 0) (n := 55) dX2_tryHour_54 (by decide) rfl ?_
        refine g_istore (n := 57) dX2_tryHour_55 (by decide) rfl rfl ?_
        refine g_lsN (ls' := [_, _, _, _, _, _, _, _, _, _]) rfl ?_
        refine g_iload_n (n := 58) dX2_tryHour_57 rfl rfl ?_
        refine g_istore (n := 60) dX2_tryHour_58 (by decide) rfl rfl ?_
        refine g_lsN (ls' := [_, _, _, _, _, _, _, _, _, _]) rfl ?_
        refine g_lsN (ls' := [_, _, _, _, _, _, _, some (.int (nI (left + 1) - nI 1)), _, _]) (by rw [nI_sub1 (by omega)]; rfl) ?_
        exact lp_X2_tryHour_4 l _ ⟨Nat.zero_le _, Nat.zero_le _⟩ _ V hV dn fb N tl n (by omega) hn5 (hTH (by omega)) left key 0 hl hkey (by omega) (A 4) a (by omega) hS (left + 1) fk A _ _ _ _ _ (Nat.le_refl _) hfk rfl hZ (fun A2 ra lo pr h2 hZ2 => ⟨rfl, A2, ra, lo, pr, h2, hZ2, rfl⟩)
  · have e2 : trH V (n - 4) (A 4) left key fk = fk := by
      cases n - 4 with
      | zero => rw [trH, if_neg hk]
      | succ k => rw [trH, if_neg hk]
    rw [e2]
    refine g_iload (n := 2) dX2_tryHour_0 rfl rfl ?_
    refine g_aload_n (n := 3) dX2_tryHour_2 rfl rfl ?_
    refine g_get (n := 6) fl_X2_36 dX2_tryHour_3 rfl rfl rfl ?_
    refine g_icmp_lt (tgt := 10) (n := 9) dX2_tryHour_6 (by decide) rfl (fun c6 => absurd c6 (nI_nlt (by omega) (by omega))) (fun c6 => ?_)
    exact g_vret dX2_tryHour_9 rfl ⟨Nat.zero_le _, Nat.zero_le _⟩ ⟨rfl, A, _, _, _, fun _ _ => rfl, hZ, rfl⟩
set_option maxRecDepth 20000 in
set_option maxHeartbeats 4000000 in
theorem lp_X2_tryHour_3 (l : Launch) (z : Nat × Nat × Nat) (hz : z.2.1 ≤ 0 ∧ z.2.2 ≤ 0) (Q : Option Value → List va_E → Prop) (V : WT) (hV : okV V) (dn : Int32) (fb : Nat → Int32) (N : ST) (tl : List va_E) (n : Nat) (hn : 3 < n) (hn5 : n ≤ 5) (hTH : TH l V dn fb N tl n 7 4) (left key few : Nat) (hl : left < 64) (hkey : key ≤ 3 * 37449) (hfew : few ≤ left) (S : ST) (a : Nat) (ha : a + (20 - 3) < 2 ^ 31) (hS : okS V S a) : ∀ (m fk : Nat) (A : Nat → ST) (ra lo pr : Nat → Int32) (o8 o9 : Option Value), m ≤ left + 1 → fk ≤ 262144 → A 3 = S → (∀ j, okZ (A j)) → (∀ A2 ra lo pr, (∀ j, j ≤ 3 → A2 j = A j) → (∀ j, okZ (A2 j)) → Q none (rq n (lpO few (fun off fk => if ptB off left then (if flN V (dnS S off) (vnb V) = 0 then trH V (n - 4) (upS V S off) (left - off) (key + ohN (left - off) 6) fk else fk) else fk) m fk) A2 ra lo pr V dn fb N tl)) → G l (M_X2_tryHour 8) z Q 60 [some (.ref 0), some (.ref 5), some (.int (nI 3)), some (.int (nI left)), some (.int (nI key)), some (.ref 29), some (.int (nI few)), some (.int (nI m - nI 1)), o8, o9] [] (rq n fk A ra lo pr V dn fb N tl) := by
  intro m
  induction m with
  | zero =>
    intro fk A ra lo pr o8 o9 hm hfk hAS hZ hQ
    refine g_iload (n := 62) dX2_tryHour_60 rfl rfl ?_
    refine g_iload (n := 64) dX2_tryHour_62 rfl rfl ?_
    refine g_icmp_lt (tgt := 173) (n := 67) dX2_tryHour_64 (by decide) rfl (fun c64 => ?_) (fun c64 => absurd (show nI 0 - nI 1 < nI few from pk_sneg_lt (by omega)) c64)
    exact g_vret dX2_tryHour_173 rfl hz (hQ A _ _ _ (fun _ _ => rfl) hZ)
  | succ off ih =>
    intro fk A ra lo pr o8 o9 hm hfk hAS hZ hQ
    have e7 : nI (off + 1) - nI 1 = nI off := nI_sub1 (by omega)
    rw [e7]
    have hSA : okS V (A 3) a := by rw [hAS]; exact hS
    by_cases hlt : off < few
    · have eL : lpO few (fun off fk => if ptB off left then (if flN V (dnS S off) (vnb V) = 0 then trH V (n - 4) (upS V S off) (left - off) (key + ohN (left - off) 6) fk else fk) else fk) (off + 1) fk = fk := by rw [lpO, if_pos hlt]
      rw [eL] at hQ
      refine g_iload (n := 62) dX2_tryHour_60 rfl rfl ?_
      refine g_iload (n := 64) dX2_tryHour_62 rfl rfl ?_
      refine g_icmp_lt (tgt := 173) (n := 67) dX2_tryHour_64 (by decide) rfl (fun c64 => ?_) (fun c64 => absurd (nI_lt hlt (by omega)) c64)
      exact g_vret dX2_tryHour_173 rfl hz (hQ A _ _ _ (fun _ _ => rfl) hZ)
    · have eL : lpO few (fun off fk => if ptB off left then (if flN V (dnS S off) (vnb V) = 0 then trH V (n - 4) (upS V S off) (left - off) (key + ohN (left - off) 6) fk else fk) else fk) (off + 1) fk = lpO few (fun off fk => if ptB off left then (if flN V (dnS S off) (vnb V) = 0 then trH V (n - 4) (upS V S off) (left - off) (key + ohN (left - off) 6) fk else fk) else fk) off (if ptB off left then (if flN V (dnS (A 3) off) (vnb V) = 0 then trH V (n - 4) (upS V (A 3) off) (left - off) (key + ohN (left - off) 6) fk else fk) else fk) := by rw [lpO, if_neg hlt, hAS]
      rw [eL] at hQ
      by_cases hpt : ptB off left = true
      · have hps := pt_sub left hl off (by omega) hpt
        rw [if_pos hpt] at hQ
        by_cases hfl : flN V (dnS (A 3) off) (vnb V) = 0
        · rw [if_pos hfl] at hQ
          have hZ2 : ∀ j, okZ (pu (pu A 4 (A 3)) 4 (upS V (A 3) off) j) := okZ_pu _ (okZ_pu _ hZ (hZ 3)) (okZ_up _ (okZ_ps hV (okZ_up _ (hZ 3))))
          have hS2 : okS V (pu (pu A 4 (A 3)) 4 (upS V (A 3) off) 4) (a + 1) := okS_sup _ (okS_ps hV (okS_sup _ hSA))
          refine g_iload (n := 62) dX2_tryHour_60 rfl rfl ?_
          refine g_iload (n := 64) dX2_tryHour_62 rfl rfl ?_
          refine g_icmp_lt (tgt := 173) (n := 67) dX2_tryHour_64 (by decide) rfl (fun c64 => absurd c64 (nI_nlt (by omega) (by omega))) (fun c64 => ?_)
          refine g_iload (n := 69) dX2_tryHour_67 rfl rfl ?_
          refine g_iload_n (n := 70) dX2_tryHour_69 rfl rfl ?_
          refine g_callSNi (n := 73) cs_X2_62 (t_X8_isPart l _ _) dX2_tryHour_70 rfl rfl ⟨by decide, by decide, rfl, rfl, hz.1, hz.2⟩ rfl (Nat.le_of_ble_eq_true rfl) rfl ?_
          refine g_if_ne (tgt := 79) (n := 76) dX2_tryHour_73 (by decide) rfl (fun c73 => ?_) (fun c73 => absurd c73 (bI_n0.mpr hpt))
          refine g_aload (n := 81) dX2_tryHour_79 rfl rfl ?_
          refine g_aload_n (n := 82) dX2_tryHour_81 rfl rfl ?_
          refine g_get (n := 85) fl_X2_20 dX2_tryHour_82 rfl rfl rfl ?_
          refine g_iload_n (n := 86) dX2_tryHour_85 rfl rfl ?_
          refine g_aaldN (n := 87) dX2_tryHour_86 rfl rfl (by decide) (by omega) rfl ?_
          refine g_cutVv (ps := [29, 30, 31, 32, 25, 26, 27, 28]) (w' := (_ :: _ :: _ :: _ :: _ :: _ :: _ :: _ :: _ :: _ :: _ :: _ :: _ :: _ :: _ :: _ :: _ :: _ :: _ :: _ :: _ :: _ :: _ :: _ :: _ :: _ :: _ :: _ :: _ :: _ :: _ :: _ :: _ :: _ :: _ :: _ :: _ :: _ :: _ :: _ :: _ :: _)) (n := 90) cv_X2_43 (t_X3_takeFrom l (A 4) (A 3) (hZ 4) (hZ 3)) dX2_tryHour_87 rfl rfl rfl ⟨by decide, by decide, rfl, rfl, hz.1, hz.2⟩ rfl rfl rfl (Nat.le_of_ble_eq_true rfl) rfl rfl rfl ?_
          refine g_aload (n := 92) dX2_tryHour_90 rfl rfl ?_
          refine g_dup (n := 93) dX2_tryHour_92 rfl rfl ?_
          refine g_get (n := 96) fl_X2_47 dX2_tryHour_93 rfl rfl rfl ?_
          refine g_iload (n := 98) dX2_tryHour_96 rfl rfl ?_
          refine g_iconst (v := (-1)) (n := 99) dX2_tryHour_98 (by decide) rfl ?_
          refine g_ixor (n := 100) dX2_tryHour_99 rfl ?_
          refine g_iand (n := 101) dX2_tryHour_100 rfl ?_
          refine g_put (n := 104) pf_X2_47 dX2_tryHour_101 rfl (Nat.le_of_ble_eq_true rfl) (fun _ => rfl) (fun _ => rfl) rfl ?_
          refine g_wN (w' := (_ :: _ :: _ :: _ :: _ :: _ :: _ :: _ :: _ :: _ :: _ :: _ :: _ :: _ :: _ :: _ :: _ :: _ :: _ :: _ :: _ :: _ :: _ :: _ :: _ :: _ :: _ :: _ :: _ :: _ :: _ :: _ :: _ :: _ :: _ :: _ :: _ :: _ :: _ :: _ :: _ :: _)) rfl ?_
          refine g_aload_n (n := 105) dX2_tryHour_104 rfl rfl ?_
          refine g_get (n := 108) fl_X2_14 dX2_tryHour_105 rfl rfl rfl ?_
          refine g_aload_n (n := 109) dX2_tryHour_108 rfl rfl ?_
          refine g_aload (n := 111) dX2_tryHour_109 rfl rfl ?_
          refine g_cutVi (ps := [1, 2, 3, 4, 5, 6, 7, 8, 9, 10, 11, 29, 30, 31, 32]) (w' := (_ :: _ :: _ :: _ :: _ :: _ :: _ :: _ :: _ :: _ :: _ :: _ :: _ :: _ :: _ :: _ :: _ :: _ :: _ :: _ :: _ :: _ :: _ :: _ :: _ :: _ :: _ :: _ :: _ :: _ :: _ :: _ :: _ :: _ :: _ :: _ :: _ :: _ :: _ :: _ :: _ :: _)) (n := 114) cv_X2_54 (t_X0_goBy l _ _ _ V hV dn fb (dnS (A 3) off) hSA.2.1 hSA.2.2.1 a (by omega) hSA.2.2.2) dX2_tryHour_111 rfl rfl rfl ⟨by decide, by decide, rfl, rfl, hz.1, hz.2⟩ rfl rfl rfl (Nat.le_of_ble_eq_true rfl) rfl rfl rfl ?_
          refine g_if_ne (tgt := 121) (n := 117) dX2_tryHour_114 (by decide) rfl (fun c114 => absurd hfl c114) (fun c114 => ?_)
          refine g_iconst (v := nI 1) (n := 118) dX2_tryHour_117 (by decide) rfl ?_
          refine g_goto (tgt := 122) dX2_tryHour_118 (by decide) ?_
          refine g_istore (n := 124) dX2_tryHour_122 (by decide) rfl rfl ?_
          refine g_lsN (ls' := [_, _, _, _, _, _, _, _, _, _]) rfl ?_
          refine g_aload (n := 126) dX2_tryHour_124 rfl rfl ?_
          refine g_dup (n := 127) dX2_tryHour_126 rfl rfl ?_
          refine g_get (n := 130) fl_X2_47 dX2_tryHour_127 rfl rfl rfl ?_
          refine g_iload (n := 132) dX2_tryHour_130 rfl rfl ?_
          refine g_ior (n := 133) dX2_tryHour_132 rfl ?_
          refine g_put (n := 136) pf_X2_47 dX2_tryHour_133 rfl (Nat.le_of_ble_eq_true rfl) (fun _ => rfl) (fun _ => rfl) rfl ?_
          refine g_wN (w' := (_ :: _ :: _ :: _ :: _ :: _ :: _ :: _ :: _ :: _ :: _ :: _ :: _ :: _ :: _ :: _ :: _ :: _ :: _ :: _ :: _ :: _ :: _ :: _ :: _ :: _ :: _ :: _ :: _ :: _ :: _ :: _ :: _ :: _ :: _ :: _ :: _ :: _ :: _ :: _ :: _ :: _)) rfl ?_
          refine g_iload (n := 138) dX2_tryHour_136 rfl rfl ?_
          refine g_if_eq (tgt := 167) (n := 141) dX2_tryHour_138 (by decide) rfl (fun c138 => absurd c138 (by decide)) (fun c138 => ?_)
          refine g_iload_n (n := 142) dX2_tryHour_141 rfl rfl ?_
          refine g_iload (n := 144) dX2_tryHour_142 rfl rfl ?_
          refine g_iconst (v := (-1)) (n := 145) dX2_tryHour_144 (by decide) rfl ?_
          refine g_ixor (n := 146) dX2_tryHour_145 rfl ?_
          refine g_iand (n := 147) dX2_tryHour_146 rfl ?_
          refine g_top hps ?_
          refine g_istore (n := 149) dX2_tryHour_147 (by decide) rfl rfl ?_
          refine g_lsN (ls' := [_, _, _, _, _, _, _, _, _, _]) rfl ?_
          refine g_wN (w' := rq n fk (pu (pu A 4 (A 3)) 4 (upS V (A 3) off)) _ _ _ V dn fb N tl) rfl ?_
          refine g_aload_n (n := 150) dX2_tryHour_149 rfl rfl ?_
          refine g_aload_n (n := 151) dX2_tryHour_150 rfl rfl ?_
          refine g_iload_n (n := 152) dX2_tryHour_151 rfl rfl ?_
          refine g_iconst (v := nI 1) (n := 153) dX2_tryHour_152 (by decide) rfl ?_
          refine g_iaddN (n := 154) dX2_tryHour_153 rfl ?_
          refine g_iload (n := 156) dX2_tryHour_154 rfl rfl ?_
          refine g_iload (n := 158) dX2_tryHour_156 rfl rfl ?_
          refine g_iload (n := 160) dX2_tryHour_158 rfl rfl ?_
          refine g_callSi (n := 163) cs_X2_66 (t_X2_oneHourMore l _) dX2_tryHour_160 rfl rfl ⟨by decide, by decide, rfl, rfl, hz.1, hz.2⟩ rfl (Nat.le_of_ble_eq_true rfl) rfl ?_
          refine g_iaddN (n := 164) dX2_tryHour_163 rfl ?_
          refine g_callW (n := 167) (cv_X2_50d _) (hTH (left - off) (key + ohN (left - off) 6) fk (pu (pu A 4 (A 3)) 4 (upS V (A 3) off)) _ _ _ (a + 1) (by omega) (by have := ohN_b (left - off); omega) hfk hZ2 hS2 (by omega)) dX2_tryHour_164 rfl ⟨by decide, by decide, rfl, rfl, hz.1, hz.2⟩ rfl rfl rfl (Nat.le_of_ble_eq_true rfl) rfl (fun r cw164 hq164 => ?_)
          obtain ⟨rfl, A2, ra2, lo2, pr2, hA2, hZ3, rfl⟩ := hq164
          refine ⟨rfl, ?_⟩
          refine g_stN (st' := []) rfl ?_
          refine g_wN (w' := (_ :: _ :: _ :: _ :: _ :: _ :: _ :: _ :: _ :: _ :: _ :: _ :: _ :: _ :: _ :: _ :: _ :: _ :: _ :: _ :: _ :: _ :: _ :: _ :: _ :: _ :: _ :: _ :: _ :: _ :: _ :: _ :: _ :: _ :: _ :: _ :: _ :: _ :: _ :: _ :: _ :: _)) rfl ?_
          refine g_iinc (n := 170) dX2_tryHour_167 rfl rfl (by decide) rfl rfl ?_
          refine g_lsN (ls' := [_, _, _, _, _, _, _, _, _, _]) rfl ?_
          refine g_goto (tgt := 60) dX2_tryHour_170 (by decide) ?_
          rw [nI_dec]
          refine ih _ A2 _ _ _ _ _ (by omega) (Nat.le_trans (trH_le _ _ _ _ _ _) hfk) ((hA2 3 (by decide)).trans hAS) hZ3 (fun A3 ra lo pr h3 hZ4 => ?_)
          have e5 := hQ A3 ra lo pr (fun j hj => (h3 j hj).trans ((hA2 j (by omega)).trans (by unfold pu; rw [if_neg (by omega), if_neg (by omega)]))) hZ4
          exact e5
        · rw [if_neg hfl] at hQ
          have hZ2 : ∀ j, okZ (pu (pu A 4 (A 3)) 4 (upS V (A 3) off) j) := okZ_pu _ (okZ_pu _ hZ (hZ 3)) (okZ_up _ (okZ_ps hV (okZ_up _ (hZ 3))))
          refine g_iload (n := 62) dX2_tryHour_60 rfl rfl ?_
          refine g_iload (n := 64) dX2_tryHour_62 rfl rfl ?_
          refine g_icmp_lt (tgt := 173) (n := 67) dX2_tryHour_64 (by decide) rfl (fun c64 => absurd c64 (nI_nlt (by omega) (by omega))) (fun c64 => ?_)
          refine g_iload (n := 69) dX2_tryHour_67 rfl rfl ?_
          refine g_iload_n (n := 70) dX2_tryHour_69 rfl rfl ?_
          refine g_callSNi (n := 73) cs_X2_62 (t_X8_isPart l _ _) dX2_tryHour_70 rfl rfl ⟨by decide, by decide, rfl, rfl, hz.1, hz.2⟩ rfl (Nat.le_of_ble_eq_true rfl) rfl ?_
          refine g_if_ne (tgt := 79) (n := 76) dX2_tryHour_73 (by decide) rfl (fun c73 => ?_) (fun c73 => absurd c73 (bI_n0.mpr hpt))
          refine g_aload (n := 81) dX2_tryHour_79 rfl rfl ?_
          refine g_aload_n (n := 82) dX2_tryHour_81 rfl rfl ?_
          refine g_get (n := 85) fl_X2_20 dX2_tryHour_82 rfl rfl rfl ?_
          refine g_iload_n (n := 86) dX2_tryHour_85 rfl rfl ?_
          refine g_aaldN (n := 87) dX2_tryHour_86 rfl rfl (by decide) (by omega) rfl ?_
          refine g_cutVv (ps := [29, 30, 31, 32, 25, 26, 27, 28]) (w' := (_ :: _ :: _ :: _ :: _ :: _ :: _ :: _ :: _ :: _ :: _ :: _ :: _ :: _ :: _ :: _ :: _ :: _ :: _ :: _ :: _ :: _ :: _ :: _ :: _ :: _ :: _ :: _ :: _ :: _ :: _ :: _ :: _ :: _ :: _ :: _ :: _ :: _ :: _ :: _ :: _ :: _)) (n := 90) cv_X2_43 (t_X3_takeFrom l (A 4) (A 3) (hZ 4) (hZ 3)) dX2_tryHour_87 rfl rfl rfl ⟨by decide, by decide, rfl, rfl, hz.1, hz.2⟩ rfl rfl rfl (Nat.le_of_ble_eq_true rfl) rfl rfl rfl ?_
          refine g_aload (n := 92) dX2_tryHour_90 rfl rfl ?_
          refine g_dup (n := 93) dX2_tryHour_92 rfl rfl ?_
          refine g_get (n := 96) fl_X2_47 dX2_tryHour_93 rfl rfl rfl ?_
          refine g_iload (n := 98) dX2_tryHour_96 rfl rfl ?_
          refine g_iconst (v := (-1)) (n := 99) dX2_tryHour_98 (by decide) rfl ?_
          refine g_ixor (n := 100) dX2_tryHour_99 rfl ?_
          refine g_iand (n := 101) dX2_tryHour_100 rfl ?_
          refine g_put (n := 104) pf_X2_47 dX2_tryHour_101 rfl (Nat.le_of_ble_eq_true rfl) (fun _ => rfl) (fun _ => rfl) rfl ?_
          refine g_wN (w' := (_ :: _ :: _ :: _ :: _ :: _ :: _ :: _ :: _ :: _ :: _ :: _ :: _ :: _ :: _ :: _ :: _ :: _ :: _ :: _ :: _ :: _ :: _ :: _ :: _ :: _ :: _ :: _ :: _ :: _ :: _ :: _ :: _ :: _ :: _ :: _ :: _ :: _ :: _ :: _ :: _ :: _)) rfl ?_
          refine g_aload_n (n := 105) dX2_tryHour_104 rfl rfl ?_
          refine g_get (n := 108) fl_X2_14 dX2_tryHour_105 rfl rfl rfl ?_
          refine g_aload_n (n := 109) dX2_tryHour_108 rfl rfl ?_
          refine g_aload (n := 111) dX2_tryHour_109 rfl rfl ?_
          refine g_cutVi (ps := [1, 2, 3, 4, 5, 6, 7, 8, 9, 10, 11, 29, 30, 31, 32]) (w' := (_ :: _ :: _ :: _ :: _ :: _ :: _ :: _ :: _ :: _ :: _ :: _ :: _ :: _ :: _ :: _ :: _ :: _ :: _ :: _ :: _ :: _ :: _ :: _ :: _ :: _ :: _ :: _ :: _ :: _ :: _ :: _ :: _ :: _ :: _ :: _ :: _ :: _ :: _ :: _ :: _ :: _)) (n := 114) cv_X2_54 (t_X0_goBy l _ _ _ V hV dn fb (dnS (A 3) off) hSA.2.1 hSA.2.2.1 a (by omega) hSA.2.2.2) dX2_tryHour_111 rfl rfl rfl ⟨by decide, by decide, rfl, rfl, hz.1, hz.2⟩ rfl rfl rfl (Nat.le_of_ble_eq_true rfl) rfl rfl rfl ?_
          refine g_if_ne (tgt := 121) (n := 117) dX2_tryHour_114 (by decide) rfl (fun c114 => ?_) (fun c114 => absurd c114 hfl)
          refine g_iconst (v := nI 0) (n := 122) dX2_tryHour_121 (by decide) rfl ?_
          refine g_istore (n := 124) dX2_tryHour_122 (by decide) rfl rfl ?_
          refine g_lsN (ls' := [_, _, _, _, _, _, _, _, _, _]) rfl ?_
          refine g_aload (n := 126) dX2_tryHour_124 rfl rfl ?_
          refine g_dup (n := 127) dX2_tryHour_126 rfl rfl ?_
          refine g_get (n := 130) fl_X2_47 dX2_tryHour_127 rfl rfl rfl ?_
          refine g_iload (n := 132) dX2_tryHour_130 rfl rfl ?_
          refine g_ior (n := 133) dX2_tryHour_132 rfl ?_
          refine g_put (n := 136) pf_X2_47 dX2_tryHour_133 rfl (Nat.le_of_ble_eq_true rfl) (fun _ => rfl) (fun _ => rfl) rfl ?_
          refine g_wN (w' := (_ :: _ :: _ :: _ :: _ :: _ :: _ :: _ :: _ :: _ :: _ :: _ :: _ :: _ :: _ :: _ :: _ :: _ :: _ :: _ :: _ :: _ :: _ :: _ :: _ :: _ :: _ :: _ :: _ :: _ :: _ :: _ :: _ :: _ :: _ :: _ :: _ :: _ :: _ :: _ :: _ :: _)) rfl ?_
          refine g_iload (n := 138) dX2_tryHour_136 rfl rfl ?_
          refine g_if_eq (tgt := 167) (n := 141) dX2_tryHour_138 (by decide) rfl (fun c138 => ?_) (fun c138 => absurd rfl c138)
          refine g_iinc (n := 170) dX2_tryHour_167 rfl rfl (by decide) rfl rfl ?_
          refine g_lsN (ls' := [_, _, _, _, _, _, _, _, _, _]) rfl ?_
          refine g_goto (tgt := 60) dX2_tryHour_170 (by decide) ?_
          rw [nI_dec]
          refine g_wN (w' := rq n fk (pu (pu A 4 (A 3)) 4 (upS V (A 3) off)) _ _ _ V dn fb N tl) rfl ?_
          refine ih _ (pu (pu A 4 (A 3)) 4 (upS V (A 3) off)) _ _ _ _ _ (by omega) hfk hAS hZ2 (fun A3 ra lo pr h3 hZ4 => ?_)
          have e5 := hQ A3 ra lo pr (fun j hj => (h3 j hj).trans (by unfold pu; rw [if_neg (by omega), if_neg (by omega)])) hZ4
          exact e5
      · rw [if_neg hpt] at hQ
        refine g_iload (n := 62) dX2_tryHour_60 rfl rfl ?_
        refine g_iload (n := 64) dX2_tryHour_62 rfl rfl ?_
        refine g_icmp_lt (tgt := 173) (n := 67) dX2_tryHour_64 (by decide) rfl (fun c64 => absurd c64 (nI_nlt (by omega) (by omega))) (fun c64 => ?_)
        refine g_iload (n := 69) dX2_tryHour_67 rfl rfl ?_
        refine g_iload_n (n := 70) dX2_tryHour_69 rfl rfl ?_
        refine g_callSNi (n := 73) cs_X2_62 (t_X8_isPart l _ _) dX2_tryHour_70 rfl rfl ⟨by decide, by decide, rfl, rfl, hz.1, hz.2⟩ rfl (Nat.le_of_ble_eq_true rfl) rfl ?_
        refine g_if_ne (tgt := 79) (n := 76) dX2_tryHour_73 (by decide) rfl (fun c73 => absurd (bI_0.mpr (Bool.eq_false_iff.mpr hpt)) c73) (fun c73 => ?_)
        refine g_goto (tgt := 167) dX2_tryHour_76 (by decide) ?_
        refine g_iinc (n := 170) dX2_tryHour_167 rfl rfl (by decide) rfl rfl ?_
        refine g_lsN (ls' := [_, _, _, _, _, _, _, _, _, _]) rfl ?_
        refine g_goto (tgt := 60) dX2_tryHour_170 (by decide) ?_
        rw [nI_dec]
        exact ih _ A _ _ _ _ _ (by omega) hfk hAS hZ hQ
set_option maxRecDepth 20000 in
set_option maxHeartbeats 1000000 in
theorem t_X2_tryHour_3 (l : Launch) (V : WT) (hV : okV V) (dn : Int32) (fb : Nat → Int32) (N : ST) (tl : List va_E) (n : Nat) (hn : 3 ≤ n) (hn5 : n ≤ 5) (hTH : 3 < n → TH l V dn fb N tl n 7 4) : TH l V dn fb N tl n 8 3 := by
  intro left key fk A ra lo pr a hl hkey hfk hZ hS ha
  refine con_of rfl rfl (Nat.le_of_ble_eq_true rfl) ?_
  refine g_lsN (ls' := [_, _, _, _, _, _, _, _, _, _]) rfl ?_
  by_cases hk : key < fk
  · by_cases hnh : n = 3
    · subst hnh
      refine g_iload (n := 2) dX2_tryHour_0 rfl rfl ?_
      refine g_aload_n (n := 3) dX2_tryHour_2 rfl rfl ?_
      refine g_get (n := 6) fl_X2_36 dX2_tryHour_3 rfl rfl rfl ?_
      refine g_icmp_lt (tgt := 10) (n := 9) dX2_tryHour_6 (by decide) rfl (fun c6 => ?_) (fun c6 => absurd (nI_lt hk (by omega)) c6)
      refine g_iload_n (n := 11) dX2_tryHour_10 rfl rfl ?_
      refine g_aload_n (n := 12) dX2_tryHour_11 rfl rfl ?_
      refine g_get (n := 15) fl_X2_31 dX2_tryHour_12 rfl rfl rfl ?_
      refine g_icmp_ge (tgt := 23) (n := 18) dX2_tryHour_15 (by decide) rfl (fun c15 => ?_) (fun c15 => absurd (nI_le (by omega) (by omega)) c15)
      refine g_aload_n (n := 24) dX2_tryHour_23 rfl rfl ?_
      refine g_iload (n := 26) dX2_tryHour_24 rfl rfl ?_
      refine g_put (n := 29) pf_X2_36 dX2_tryHour_26 rfl (Nat.le_of_ble_eq_true rfl) (fun _ => rfl) (fun _ => rfl) rfl ?_
      refine g_wN (w' := (_ :: _ :: _ :: _ :: _ :: _ :: _ :: _ :: _ :: _ :: _ :: _ :: _ :: _ :: _ :: _ :: _ :: _ :: _ :: _ :: _ :: _ :: _ :: _ :: _ :: _ :: _ :: _ :: _ :: _ :: _ :: _ :: _ :: _ :: _ :: _ :: _ :: _ :: _ :: _ :: _ :: _)) rfl ?_
      exact g_vret dX2_tryHour_29 rfl ⟨Nat.zero_le _, Nat.zero_le _⟩ ⟨rfl, A, ra, lo, pr, fun _ _ => rfl, hZ, by rw [show 3 - 3 = 0 from rfl, trH, if_pos hk]; rfl⟩
    · have e1 : n - 3 = n - 4 + 1 := by omega
      have e2 : trH V (n - 3) (A 3) left key fk = lpO (if n - 4 = 0 then left else 0) (fun off fk => if ptB off left then (if flN V (dnS (A 3) off) (vnb V) = 0 then trH V (n - 4) (upS V (A 3) off) (left - off) (key + ohN (left - off) 6) fk else fk) else fk) (left + 1) fk := by rw [e1, trH, if_pos hk]
      rw [e2]
      by_cases hlast : n = 4
      · rw [if_pos (show n - 4 = 0 by omega)]
        refine g_iload (n := 2) dX2_tryHour_0 rfl rfl ?_
        refine g_aload_n (n := 3) dX2_tryHour_2 rfl rfl ?_
        refine g_get (n := 6) fl_X2_36 dX2_tryHour_3 rfl rfl rfl ?_
        refine g_icmp_lt (tgt := 10) (n := 9) dX2_tryHour_6 (by decide) rfl (fun c6 => ?_) (fun c6 => absurd (nI_lt hk (by omega)) c6)
        refine g_iload_n (n := 11) dX2_tryHour_10 rfl rfl ?_
        refine g_aload_n (n := 12) dX2_tryHour_11 rfl rfl ?_
        refine g_get (n := 15) fl_X2_31 dX2_tryHour_12 rfl rfl rfl ?_
        refine g_icmp_ge (tgt := 23) (n := 18) dX2_tryHour_15 (by decide) rfl (fun c15 => absurd c15 (nI_ge (by omega) (by omega))) (fun c15 => ?_)
        refine g_iload_n (n := 19) dX2_tryHour_18 rfl rfl ?_
        refine g_iconst (v := nI 5) (n := 20) dX2_tryHour_19 (by decide) rfl ?_
        refine g_icmp_lt (tgt := 30) (n := 23) dX2_tryHour_20 (by decide) rfl (fun c20 => ?_) (fun c20 => absurd (by decide) c20)
        refine g_aload_n (n := 31) dX2_tryHour_30 rfl rfl ?_
        refine g_get (n := 34) fl_X2_20 dX2_tryHour_31 rfl rfl rfl ?_
        refine g_iload_n (n := 35) dX2_tryHour_34 rfl rfl ?_
        refine g_iconst (v := nI 1) (n := 36) dX2_tryHour_35 (by decide) rfl ?_
        refine g_iaddN (n := 37) dX2_tryHour_36 rfl ?_
        refine g_aaldN (n := 38) dX2_tryHour_37 rfl rfl (by decide) (by omega) rfl ?_
        refine g_astore (n := 40) dX2_tryHour_38 (by decide) rfl rfl ?_
        refine g_lsN (ls' := [_, _, _, _, _, _, _, _, _, _]) rfl ?_
        refine g_iload_n (n := 41) dX2_tryHour_40 rfl rfl ?_
        refine g_aload_n (n := 42) dX2_tryHour_41 rfl rfl ?_
        refine g_get (n := 45) fl_X2_31 dX2_tryHour_42 rfl rfl rfl ?_
        refine g_iconst (v := nI 1) (n := 46) dX2_tryHour_45 (by decide) rfl ?_
        refine g_isubN (n := 47) dX2_tryHour_46 rfl (by omega) ?_
        refine g_icmp_ne (tgt := 54) (n := 50) dX2_tryHour_47 (by decide) rfl (fun c47 => absurd (show nI 3 = nI (n - 1) by rw [show n - 1 = 3 by omega]) c47) (fun c47 => ?_)
        refine g_iload_n (n := 51) dX2_tryHour_50 rfl rfl ?_
        refine g_goto (tgt := 55) dX2_tryHour_51 (by decide) ?_
        refine g_istore (n := 57) dX2_tryHour_55 (by decide) rfl rfl ?_
        refine g_lsN (ls' := [_, _, _, _, _, _, _, _, _, _]) rfl ?_
        refine g_iload_n (n := 58) dX2_tryHour_57 rfl rfl ?_
        refine g_istore (n := 60) dX2_tryHour_58 (by decide) rfl rfl ?_
        refine g_lsN (ls' := [_, _, _, _, _, _, _, _, _, _]) rfl ?_
        refine g_lsN (ls' := [_, _, _, _, _, _, _, some (.int (nI (left + 1) - nI 1)), _, _]) (by rw [nI_sub1 (by omega)]; rfl) ?_
        exact lp_X2_tryHour_3 l _ ⟨Nat.zero_le _, Nat.zero_le _⟩ _ V hV dn fb N tl n (by omega) hn5 (hTH (by omega)) left key left hl hkey (by omega) (A 3) a (by omega) hS (left + 1) fk A _ _ _ _ _ (Nat.le_refl _) hfk rfl hZ (fun A2 ra lo pr h2 hZ2 => ⟨rfl, A2, ra, lo, pr, h2, hZ2, rfl⟩)
      · rw [if_neg (show ¬ n - 4 = 0 by omega)]
        refine g_iload (n := 2) dX2_tryHour_0 rfl rfl ?_
        refine g_aload_n (n := 3) dX2_tryHour_2 rfl rfl ?_
        refine g_get (n := 6) fl_X2_36 dX2_tryHour_3 rfl rfl rfl ?_
        refine g_icmp_lt (tgt := 10) (n := 9) dX2_tryHour_6 (by decide) rfl (fun c6 => ?_) (fun c6 => absurd (nI_lt hk (by omega)) c6)
        refine g_iload_n (n := 11) dX2_tryHour_10 rfl rfl ?_
        refine g_aload_n (n := 12) dX2_tryHour_11 rfl rfl ?_
        refine g_get (n := 15) fl_X2_31 dX2_tryHour_12 rfl rfl rfl ?_
        refine g_icmp_ge (tgt := 23) (n := 18) dX2_tryHour_15 (by decide) rfl (fun c15 => absurd c15 (nI_ge (by omega) (by omega))) (fun c15 => ?_)
        refine g_iload_n (n := 19) dX2_tryHour_18 rfl rfl ?_
        refine g_iconst (v := nI 5) (n := 20) dX2_tryHour_19 (by decide) rfl ?_
        refine g_icmp_lt (tgt := 30) (n := 23) dX2_tryHour_20 (by decide) rfl (fun c20 => ?_) (fun c20 => absurd (by decide) c20)
        refine g_aload_n (n := 31) dX2_tryHour_30 rfl rfl ?_
        refine g_get (n := 34) fl_X2_20 dX2_tryHour_31 rfl rfl rfl ?_
        refine g_iload_n (n := 35) dX2_tryHour_34 rfl rfl ?_
        refine g_iconst (v := nI 1) (n := 36) dX2_tryHour_35 (by decide) rfl ?_
        refine g_iaddN (n := 37) dX2_tryHour_36 rfl ?_
        refine g_aaldN (n := 38) dX2_tryHour_37 rfl rfl (by decide) (by omega) rfl ?_
        refine g_astore (n := 40) dX2_tryHour_38 (by decide) rfl rfl ?_
        refine g_lsN (ls' := [_, _, _, _, _, _, _, _, _, _]) rfl ?_
        refine g_iload_n (n := 41) dX2_tryHour_40 rfl rfl ?_
        refine g_aload_n (n := 42) dX2_tryHour_41 rfl rfl ?_
        refine g_get (n := 45) fl_X2_31 dX2_tryHour_42 rfl rfl rfl ?_
        refine g_iconst (v := nI 1) (n := 46) dX2_tryHour_45 (by decide) rfl ?_
        refine g_isubN (n := 47) dX2_tryHour_46 rfl (by omega) ?_
        refine g_icmp_ne (tgt := 54) (n := 50) dX2_tryHour_47 (by decide) rfl (fun c47 => ?_) (fun c47 => absurd c47 (fun x => by have := (nI_eq (by omega) (by omega)).mp x; omega))
        refine g_iconst (v := nI 0) (n := 55) dX2_tryHour_54 (by decide) rfl ?_
        refine g_istore (n := 57) dX2_tryHour_55 (by decide) rfl rfl ?_
        refine g_lsN (ls' := [_, _, _, _, _, _, _, _, _, _]) rfl ?_
        refine g_iload_n (n := 58) dX2_tryHour_57 rfl rfl ?_
        refine g_istore (n := 60) dX2_tryHour_58 (by decide) rfl rfl ?_
        refine g_lsN (ls' := [_, _, _, _, _, _, _, _, _, _]) rfl ?_
        refine g_lsN (ls' := [_, _, _, _, _, _, _, some (.int (nI (left + 1) - nI 1)), _, _]) (by rw [nI_sub1 (by omega)]; rfl) ?_
        exact lp_X2_tryHour_3 l _ ⟨Nat.zero_le _, Nat.zero_le _⟩ _ V hV dn fb N tl n (by omega) hn5 (hTH (by omega)) left key 0 hl hkey (by omega) (A 3) a (by omega) hS (left + 1) fk A _ _ _ _ _ (Nat.le_refl _) hfk rfl hZ (fun A2 ra lo pr h2 hZ2 => ⟨rfl, A2, ra, lo, pr, h2, hZ2, rfl⟩)
  · have e2 : trH V (n - 3) (A 3) left key fk = fk := by
      cases n - 3 with
      | zero => rw [trH, if_neg hk]
      | succ k => rw [trH, if_neg hk]
    rw [e2]
    refine g_iload (n := 2) dX2_tryHour_0 rfl rfl ?_
    refine g_aload_n (n := 3) dX2_tryHour_2 rfl rfl ?_
    refine g_get (n := 6) fl_X2_36 dX2_tryHour_3 rfl rfl rfl ?_
    refine g_icmp_lt (tgt := 10) (n := 9) dX2_tryHour_6 (by decide) rfl (fun c6 => absurd c6 (nI_nlt (by omega) (by omega))) (fun c6 => ?_)
    exact g_vret dX2_tryHour_9 rfl ⟨Nat.zero_le _, Nat.zero_le _⟩ ⟨rfl, A, _, _, _, fun _ _ => rfl, hZ, rfl⟩
set_option maxRecDepth 20000 in
set_option maxHeartbeats 4000000 in
theorem lp_X2_tryHour_2 (l : Launch) (z : Nat × Nat × Nat) (hz : z.2.1 ≤ 0 ∧ z.2.2 ≤ 0) (Q : Option Value → List va_E → Prop) (V : WT) (hV : okV V) (dn : Int32) (fb : Nat → Int32) (N : ST) (tl : List va_E) (n : Nat) (hn : 2 < n) (hn5 : n ≤ 5) (hTH : TH l V dn fb N tl n 8 3) (left key few : Nat) (hl : left < 64) (hkey : key ≤ 2 * 37449) (hfew : few ≤ left) (S : ST) (a : Nat) (ha : a + (20 - 2) < 2 ^ 31) (hS : okS V S a) : ∀ (m fk : Nat) (A : Nat → ST) (ra lo pr : Nat → Int32) (o8 o9 : Option Value), m ≤ left + 1 → fk ≤ 262144 → A 2 = S → (∀ j, okZ (A j)) → (∀ A2 ra lo pr, (∀ j, j ≤ 2 → A2 j = A j) → (∀ j, okZ (A2 j)) → Q none (rq n (lpO few (fun off fk => if ptB off left then (if flN V (dnS S off) (vnb V) = 0 then trH V (n - 3) (upS V S off) (left - off) (key + ohN (left - off) 6) fk else fk) else fk) m fk) A2 ra lo pr V dn fb N tl)) → G l (M_X2_tryHour 9) z Q 60 [some (.ref 0), some (.ref 5), some (.int (nI 2)), some (.int (nI left)), some (.int (nI key)), some (.ref 25), some (.int (nI few)), some (.int (nI m - nI 1)), o8, o9] [] (rq n fk A ra lo pr V dn fb N tl) := by
  intro m
  induction m with
  | zero =>
    intro fk A ra lo pr o8 o9 hm hfk hAS hZ hQ
    refine g_iload (n := 62) dX2_tryHour_60 rfl rfl ?_
    refine g_iload (n := 64) dX2_tryHour_62 rfl rfl ?_
    refine g_icmp_lt (tgt := 173) (n := 67) dX2_tryHour_64 (by decide) rfl (fun c64 => ?_) (fun c64 => absurd (show nI 0 - nI 1 < nI few from pk_sneg_lt (by omega)) c64)
    exact g_vret dX2_tryHour_173 rfl hz (hQ A _ _ _ (fun _ _ => rfl) hZ)
  | succ off ih =>
    intro fk A ra lo pr o8 o9 hm hfk hAS hZ hQ
    have e7 : nI (off + 1) - nI 1 = nI off := nI_sub1 (by omega)
    rw [e7]
    have hSA : okS V (A 2) a := by rw [hAS]; exact hS
    by_cases hlt : off < few
    · have eL : lpO few (fun off fk => if ptB off left then (if flN V (dnS S off) (vnb V) = 0 then trH V (n - 3) (upS V S off) (left - off) (key + ohN (left - off) 6) fk else fk) else fk) (off + 1) fk = fk := by rw [lpO, if_pos hlt]
      rw [eL] at hQ
      refine g_iload (n := 62) dX2_tryHour_60 rfl rfl ?_
      refine g_iload (n := 64) dX2_tryHour_62 rfl rfl ?_
      refine g_icmp_lt (tgt := 173) (n := 67) dX2_tryHour_64 (by decide) rfl (fun c64 => ?_) (fun c64 => absurd (nI_lt hlt (by omega)) c64)
      exact g_vret dX2_tryHour_173 rfl hz (hQ A _ _ _ (fun _ _ => rfl) hZ)
    · have eL : lpO few (fun off fk => if ptB off left then (if flN V (dnS S off) (vnb V) = 0 then trH V (n - 3) (upS V S off) (left - off) (key + ohN (left - off) 6) fk else fk) else fk) (off + 1) fk = lpO few (fun off fk => if ptB off left then (if flN V (dnS S off) (vnb V) = 0 then trH V (n - 3) (upS V S off) (left - off) (key + ohN (left - off) 6) fk else fk) else fk) off (if ptB off left then (if flN V (dnS (A 2) off) (vnb V) = 0 then trH V (n - 3) (upS V (A 2) off) (left - off) (key + ohN (left - off) 6) fk else fk) else fk) := by rw [lpO, if_neg hlt, hAS]
      rw [eL] at hQ
      by_cases hpt : ptB off left = true
      · have hps := pt_sub left hl off (by omega) hpt
        rw [if_pos hpt] at hQ
        by_cases hfl : flN V (dnS (A 2) off) (vnb V) = 0
        · rw [if_pos hfl] at hQ
          have hZ2 : ∀ j, okZ (pu (pu A 3 (A 2)) 3 (upS V (A 2) off) j) := okZ_pu _ (okZ_pu _ hZ (hZ 2)) (okZ_up _ (okZ_ps hV (okZ_up _ (hZ 2))))
          have hS2 : okS V (pu (pu A 3 (A 2)) 3 (upS V (A 2) off) 3) (a + 1) := okS_sup _ (okS_ps hV (okS_sup _ hSA))
          refine g_iload (n := 62) dX2_tryHour_60 rfl rfl ?_
          refine g_iload (n := 64) dX2_tryHour_62 rfl rfl ?_
          refine g_icmp_lt (tgt := 173) (n := 67) dX2_tryHour_64 (by decide) rfl (fun c64 => absurd c64 (nI_nlt (by omega) (by omega))) (fun c64 => ?_)
          refine g_iload (n := 69) dX2_tryHour_67 rfl rfl ?_
          refine g_iload_n (n := 70) dX2_tryHour_69 rfl rfl ?_
          refine g_callSNi (n := 73) cs_X2_62 (t_X8_isPart l _ _) dX2_tryHour_70 rfl rfl ⟨by decide, by decide, rfl, rfl, hz.1, hz.2⟩ rfl (Nat.le_of_ble_eq_true rfl) rfl ?_
          refine g_if_ne (tgt := 79) (n := 76) dX2_tryHour_73 (by decide) rfl (fun c73 => ?_) (fun c73 => absurd c73 (bI_n0.mpr hpt))
          refine g_aload (n := 81) dX2_tryHour_79 rfl rfl ?_
          refine g_aload_n (n := 82) dX2_tryHour_81 rfl rfl ?_
          refine g_get (n := 85) fl_X2_20 dX2_tryHour_82 rfl rfl rfl ?_
          refine g_iload_n (n := 86) dX2_tryHour_85 rfl rfl ?_
          refine g_aaldN (n := 87) dX2_tryHour_86 rfl rfl (by decide) (by omega) rfl ?_
          refine g_cutVv (ps := [25, 26, 27, 28, 21, 22, 23, 24]) (w' := (_ :: _ :: _ :: _ :: _ :: _ :: _ :: _ :: _ :: _ :: _ :: _ :: _ :: _ :: _ :: _ :: _ :: _ :: _ :: _ :: _ :: _ :: _ :: _ :: _ :: _ :: _ :: _ :: _ :: _ :: _ :: _ :: _ :: _ :: _ :: _ :: _ :: _ :: _ :: _ :: _ :: _)) (n := 90) cv_X2_43 (t_X3_takeFrom l (A 3) (A 2) (hZ 3) (hZ 2)) dX2_tryHour_87 rfl rfl rfl ⟨by decide, by decide, rfl, rfl, hz.1, hz.2⟩ rfl rfl rfl (Nat.le_of_ble_eq_true rfl) rfl rfl rfl ?_
          refine g_aload (n := 92) dX2_tryHour_90 rfl rfl ?_
          refine g_dup (n := 93) dX2_tryHour_92 rfl rfl ?_
          refine g_get (n := 96) fl_X2_47 dX2_tryHour_93 rfl rfl rfl ?_
          refine g_iload (n := 98) dX2_tryHour_96 rfl rfl ?_
          refine g_iconst (v := (-1)) (n := 99) dX2_tryHour_98 (by decide) rfl ?_
          refine g_ixor (n := 100) dX2_tryHour_99 rfl ?_
          refine g_iand (n := 101) dX2_tryHour_100 rfl ?_
          refine g_put (n := 104) pf_X2_47 dX2_tryHour_101 rfl (Nat.le_of_ble_eq_true rfl) (fun _ => rfl) (fun _ => rfl) rfl ?_
          refine g_wN (w' := (_ :: _ :: _ :: _ :: _ :: _ :: _ :: _ :: _ :: _ :: _ :: _ :: _ :: _ :: _ :: _ :: _ :: _ :: _ :: _ :: _ :: _ :: _ :: _ :: _ :: _ :: _ :: _ :: _ :: _ :: _ :: _ :: _ :: _ :: _ :: _ :: _ :: _ :: _ :: _ :: _ :: _)) rfl ?_
          refine g_aload_n (n := 105) dX2_tryHour_104 rfl rfl ?_
          refine g_get (n := 108) fl_X2_14 dX2_tryHour_105 rfl rfl rfl ?_
          refine g_aload_n (n := 109) dX2_tryHour_108 rfl rfl ?_
          refine g_aload (n := 111) dX2_tryHour_109 rfl rfl ?_
          refine g_cutVi (ps := [1, 2, 3, 4, 5, 6, 7, 8, 9, 10, 11, 25, 26, 27, 28]) (w' := (_ :: _ :: _ :: _ :: _ :: _ :: _ :: _ :: _ :: _ :: _ :: _ :: _ :: _ :: _ :: _ :: _ :: _ :: _ :: _ :: _ :: _ :: _ :: _ :: _ :: _ :: _ :: _ :: _ :: _ :: _ :: _ :: _ :: _ :: _ :: _ :: _ :: _ :: _ :: _ :: _ :: _)) (n := 114) cv_X2_54 (t_X0_goBy l _ _ _ V hV dn fb (dnS (A 2) off) hSA.2.1 hSA.2.2.1 a (by omega) hSA.2.2.2) dX2_tryHour_111 rfl rfl rfl ⟨by decide, by decide, rfl, rfl, hz.1, hz.2⟩ rfl rfl rfl (Nat.le_of_ble_eq_true rfl) rfl rfl rfl ?_
          refine g_if_ne (tgt := 121) (n := 117) dX2_tryHour_114 (by decide) rfl (fun c114 => absurd hfl c114) (fun c114 => ?_)
          refine g_iconst (v := nI 1) (n := 118) dX2_tryHour_117 (by decide) rfl ?_
          refine g_goto (tgt := 122) dX2_tryHour_118 (by decide) ?_
          refine g_istore (n := 124) dX2_tryHour_122 (by decide) rfl rfl ?_
          refine g_lsN (ls' := [_, _, _, _, _, _, _, _, _, _]) rfl ?_
          refine g_aload (n := 126) dX2_tryHour_124 rfl rfl ?_
          refine g_dup (n := 127) dX2_tryHour_126 rfl rfl ?_
          refine g_get (n := 130) fl_X2_47 dX2_tryHour_127 rfl rfl rfl ?_
          refine g_iload (n := 132) dX2_tryHour_130 rfl rfl ?_
          refine g_ior (n := 133) dX2_tryHour_132 rfl ?_
          refine g_put (n := 136) pf_X2_47 dX2_tryHour_133 rfl (Nat.le_of_ble_eq_true rfl) (fun _ => rfl) (fun _ => rfl) rfl ?_
          refine g_wN (w' := (_ :: _ :: _ :: _ :: _ :: _ :: _ :: _ :: _ :: _ :: _ :: _ :: _ :: _ :: _ :: _ :: _ :: _ :: _ :: _ :: _ :: _ :: _ :: _ :: _ :: _ :: _ :: _ :: _ :: _ :: _ :: _ :: _ :: _ :: _ :: _ :: _ :: _ :: _ :: _ :: _ :: _)) rfl ?_
          refine g_iload (n := 138) dX2_tryHour_136 rfl rfl ?_
          refine g_if_eq (tgt := 167) (n := 141) dX2_tryHour_138 (by decide) rfl (fun c138 => absurd c138 (by decide)) (fun c138 => ?_)
          refine g_iload_n (n := 142) dX2_tryHour_141 rfl rfl ?_
          refine g_iload (n := 144) dX2_tryHour_142 rfl rfl ?_
          refine g_iconst (v := (-1)) (n := 145) dX2_tryHour_144 (by decide) rfl ?_
          refine g_ixor (n := 146) dX2_tryHour_145 rfl ?_
          refine g_iand (n := 147) dX2_tryHour_146 rfl ?_
          refine g_top hps ?_
          refine g_istore (n := 149) dX2_tryHour_147 (by decide) rfl rfl ?_
          refine g_lsN (ls' := [_, _, _, _, _, _, _, _, _, _]) rfl ?_
          refine g_wN (w' := rq n fk (pu (pu A 3 (A 2)) 3 (upS V (A 2) off)) _ _ _ V dn fb N tl) rfl ?_
          refine g_aload_n (n := 150) dX2_tryHour_149 rfl rfl ?_
          refine g_aload_n (n := 151) dX2_tryHour_150 rfl rfl ?_
          refine g_iload_n (n := 152) dX2_tryHour_151 rfl rfl ?_
          refine g_iconst (v := nI 1) (n := 153) dX2_tryHour_152 (by decide) rfl ?_
          refine g_iaddN (n := 154) dX2_tryHour_153 rfl ?_
          refine g_iload (n := 156) dX2_tryHour_154 rfl rfl ?_
          refine g_iload (n := 158) dX2_tryHour_156 rfl rfl ?_
          refine g_iload (n := 160) dX2_tryHour_158 rfl rfl ?_
          refine g_callSi (n := 163) cs_X2_66 (t_X2_oneHourMore l _) dX2_tryHour_160 rfl rfl ⟨by decide, by decide, rfl, rfl, hz.1, hz.2⟩ rfl (Nat.le_of_ble_eq_true rfl) rfl ?_
          refine g_iaddN (n := 164) dX2_tryHour_163 rfl ?_
          refine g_callW (n := 167) (cv_X2_50d _) (hTH (left - off) (key + ohN (left - off) 6) fk (pu (pu A 3 (A 2)) 3 (upS V (A 2) off)) _ _ _ (a + 1) (by omega) (by have := ohN_b (left - off); omega) hfk hZ2 hS2 (by omega)) dX2_tryHour_164 rfl ⟨by decide, by decide, rfl, rfl, hz.1, hz.2⟩ rfl rfl rfl (Nat.le_of_ble_eq_true rfl) rfl (fun r cw164 hq164 => ?_)
          obtain ⟨rfl, A2, ra2, lo2, pr2, hA2, hZ3, rfl⟩ := hq164
          refine ⟨rfl, ?_⟩
          refine g_stN (st' := []) rfl ?_
          refine g_wN (w' := (_ :: _ :: _ :: _ :: _ :: _ :: _ :: _ :: _ :: _ :: _ :: _ :: _ :: _ :: _ :: _ :: _ :: _ :: _ :: _ :: _ :: _ :: _ :: _ :: _ :: _ :: _ :: _ :: _ :: _ :: _ :: _ :: _ :: _ :: _ :: _ :: _ :: _ :: _ :: _ :: _ :: _)) rfl ?_
          refine g_iinc (n := 170) dX2_tryHour_167 rfl rfl (by decide) rfl rfl ?_
          refine g_lsN (ls' := [_, _, _, _, _, _, _, _, _, _]) rfl ?_
          refine g_goto (tgt := 60) dX2_tryHour_170 (by decide) ?_
          rw [nI_dec]
          refine ih _ A2 _ _ _ _ _ (by omega) (Nat.le_trans (trH_le _ _ _ _ _ _) hfk) ((hA2 2 (by decide)).trans hAS) hZ3 (fun A3 ra lo pr h3 hZ4 => ?_)
          have e5 := hQ A3 ra lo pr (fun j hj => (h3 j hj).trans ((hA2 j (by omega)).trans (by unfold pu; rw [if_neg (by omega), if_neg (by omega)]))) hZ4
          exact e5
        · rw [if_neg hfl] at hQ
          have hZ2 : ∀ j, okZ (pu (pu A 3 (A 2)) 3 (upS V (A 2) off) j) := okZ_pu _ (okZ_pu _ hZ (hZ 2)) (okZ_up _ (okZ_ps hV (okZ_up _ (hZ 2))))
          refine g_iload (n := 62) dX2_tryHour_60 rfl rfl ?_
          refine g_iload (n := 64) dX2_tryHour_62 rfl rfl ?_
          refine g_icmp_lt (tgt := 173) (n := 67) dX2_tryHour_64 (by decide) rfl (fun c64 => absurd c64 (nI_nlt (by omega) (by omega))) (fun c64 => ?_)
          refine g_iload (n := 69) dX2_tryHour_67 rfl rfl ?_
          refine g_iload_n (n := 70) dX2_tryHour_69 rfl rfl ?_
          refine g_callSNi (n := 73) cs_X2_62 (t_X8_isPart l _ _) dX2_tryHour_70 rfl rfl ⟨by decide, by decide, rfl, rfl, hz.1, hz.2⟩ rfl (Nat.le_of_ble_eq_true rfl) rfl ?_
          refine g_if_ne (tgt := 79) (n := 76) dX2_tryHour_73 (by decide) rfl (fun c73 => ?_) (fun c73 => absurd c73 (bI_n0.mpr hpt))
          refine g_aload (n := 81) dX2_tryHour_79 rfl rfl ?_
          refine g_aload_n (n := 82) dX2_tryHour_81 rfl rfl ?_
          refine g_get (n := 85) fl_X2_20 dX2_tryHour_82 rfl rfl rfl ?_
          refine g_iload_n (n := 86) dX2_tryHour_85 rfl rfl ?_
          refine g_aaldN (n := 87) dX2_tryHour_86 rfl rfl (by decide) (by omega) rfl ?_
          refine g_cutVv (ps := [25, 26, 27, 28, 21, 22, 23, 24]) (w' := (_ :: _ :: _ :: _ :: _ :: _ :: _ :: _ :: _ :: _ :: _ :: _ :: _ :: _ :: _ :: _ :: _ :: _ :: _ :: _ :: _ :: _ :: _ :: _ :: _ :: _ :: _ :: _ :: _ :: _ :: _ :: _ :: _ :: _ :: _ :: _ :: _ :: _ :: _ :: _ :: _ :: _)) (n := 90) cv_X2_43 (t_X3_takeFrom l (A 3) (A 2) (hZ 3) (hZ 2)) dX2_tryHour_87 rfl rfl rfl ⟨by decide, by decide, rfl, rfl, hz.1, hz.2⟩ rfl rfl rfl (Nat.le_of_ble_eq_true rfl) rfl rfl rfl ?_
          refine g_aload (n := 92) dX2_tryHour_90 rfl rfl ?_
          refine g_dup (n := 93) dX2_tryHour_92 rfl rfl ?_
          refine g_get (n := 96) fl_X2_47 dX2_tryHour_93 rfl rfl rfl ?_
          refine g_iload (n := 98) dX2_tryHour_96 rfl rfl ?_
          refine g_iconst (v := (-1)) (n := 99) dX2_tryHour_98 (by decide) rfl ?_
          refine g_ixor (n := 100) dX2_tryHour_99 rfl ?_
          refine g_iand (n := 101) dX2_tryHour_100 rfl ?_
          refine g_put (n := 104) pf_X2_47 dX2_tryHour_101 rfl (Nat.le_of_ble_eq_true rfl) (fun _ => rfl) (fun _ => rfl) rfl ?_
          refine g_wN (w' := (_ :: _ :: _ :: _ :: _ :: _ :: _ :: _ :: _ :: _ :: _ :: _ :: _ :: _ :: _ :: _ :: _ :: _ :: _ :: _ :: _ :: _ :: _ :: _ :: _ :: _ :: _ :: _ :: _ :: _ :: _ :: _ :: _ :: _ :: _ :: _ :: _ :: _ :: _ :: _ :: _ :: _)) rfl ?_
          refine g_aload_n (n := 105) dX2_tryHour_104 rfl rfl ?_
          refine g_get (n := 108) fl_X2_14 dX2_tryHour_105 rfl rfl rfl ?_
          refine g_aload_n (n := 109) dX2_tryHour_108 rfl rfl ?_
          refine g_aload (n := 111) dX2_tryHour_109 rfl rfl ?_
          refine g_cutVi (ps := [1, 2, 3, 4, 5, 6, 7, 8, 9, 10, 11, 25, 26, 27, 28]) (w' := (_ :: _ :: _ :: _ :: _ :: _ :: _ :: _ :: _ :: _ :: _ :: _ :: _ :: _ :: _ :: _ :: _ :: _ :: _ :: _ :: _ :: _ :: _ :: _ :: _ :: _ :: _ :: _ :: _ :: _ :: _ :: _ :: _ :: _ :: _ :: _ :: _ :: _ :: _ :: _ :: _ :: _)) (n := 114) cv_X2_54 (t_X0_goBy l _ _ _ V hV dn fb (dnS (A 2) off) hSA.2.1 hSA.2.2.1 a (by omega) hSA.2.2.2) dX2_tryHour_111 rfl rfl rfl ⟨by decide, by decide, rfl, rfl, hz.1, hz.2⟩ rfl rfl rfl (Nat.le_of_ble_eq_true rfl) rfl rfl rfl ?_
          refine g_if_ne (tgt := 121) (n := 117) dX2_tryHour_114 (by decide) rfl (fun c114 => ?_) (fun c114 => absurd c114 hfl)
          refine g_iconst (v := nI 0) (n := 122) dX2_tryHour_121 (by decide) rfl ?_
          refine g_istore (n := 124) dX2_tryHour_122 (by decide) rfl rfl ?_
          refine g_lsN (ls' := [_, _, _, _, _, _, _, _, _, _]) rfl ?_
          refine g_aload (n := 126) dX2_tryHour_124 rfl rfl ?_
          refine g_dup (n := 127) dX2_tryHour_126 rfl rfl ?_
          refine g_get (n := 130) fl_X2_47 dX2_tryHour_127 rfl rfl rfl ?_
          refine g_iload (n := 132) dX2_tryHour_130 rfl rfl ?_
          refine g_ior (n := 133) dX2_tryHour_132 rfl ?_
          refine g_put (n := 136) pf_X2_47 dX2_tryHour_133 rfl (Nat.le_of_ble_eq_true rfl) (fun _ => rfl) (fun _ => rfl) rfl ?_
          refine g_wN (w' := (_ :: _ :: _ :: _ :: _ :: _ :: _ :: _ :: _ :: _ :: _ :: _ :: _ :: _ :: _ :: _ :: _ :: _ :: _ :: _ :: _ :: _ :: _ :: _ :: _ :: _ :: _ :: _ :: _ :: _ :: _ :: _ :: _ :: _ :: _ :: _ :: _ :: _ :: _ :: _ :: _ :: _)) rfl ?_
          refine g_iload (n := 138) dX2_tryHour_136 rfl rfl ?_
          refine g_if_eq (tgt := 167) (n := 141) dX2_tryHour_138 (by decide) rfl (fun c138 => ?_) (fun c138 => absurd rfl c138)
          refine g_iinc (n := 170) dX2_tryHour_167 rfl rfl (by decide) rfl rfl ?_
          refine g_lsN (ls' := [_, _, _, _, _, _, _, _, _, _]) rfl ?_
          refine g_goto (tgt := 60) dX2_tryHour_170 (by decide) ?_
          rw [nI_dec]
          refine g_wN (w' := rq n fk (pu (pu A 3 (A 2)) 3 (upS V (A 2) off)) _ _ _ V dn fb N tl) rfl ?_
          refine ih _ (pu (pu A 3 (A 2)) 3 (upS V (A 2) off)) _ _ _ _ _ (by omega) hfk hAS hZ2 (fun A3 ra lo pr h3 hZ4 => ?_)
          have e5 := hQ A3 ra lo pr (fun j hj => (h3 j hj).trans (by unfold pu; rw [if_neg (by omega), if_neg (by omega)])) hZ4
          exact e5
      · rw [if_neg hpt] at hQ
        refine g_iload (n := 62) dX2_tryHour_60 rfl rfl ?_
        refine g_iload (n := 64) dX2_tryHour_62 rfl rfl ?_
        refine g_icmp_lt (tgt := 173) (n := 67) dX2_tryHour_64 (by decide) rfl (fun c64 => absurd c64 (nI_nlt (by omega) (by omega))) (fun c64 => ?_)
        refine g_iload (n := 69) dX2_tryHour_67 rfl rfl ?_
        refine g_iload_n (n := 70) dX2_tryHour_69 rfl rfl ?_
        refine g_callSNi (n := 73) cs_X2_62 (t_X8_isPart l _ _) dX2_tryHour_70 rfl rfl ⟨by decide, by decide, rfl, rfl, hz.1, hz.2⟩ rfl (Nat.le_of_ble_eq_true rfl) rfl ?_
        refine g_if_ne (tgt := 79) (n := 76) dX2_tryHour_73 (by decide) rfl (fun c73 => absurd (bI_0.mpr (Bool.eq_false_iff.mpr hpt)) c73) (fun c73 => ?_)
        refine g_goto (tgt := 167) dX2_tryHour_76 (by decide) ?_
        refine g_iinc (n := 170) dX2_tryHour_167 rfl rfl (by decide) rfl rfl ?_
        refine g_lsN (ls' := [_, _, _, _, _, _, _, _, _, _]) rfl ?_
        refine g_goto (tgt := 60) dX2_tryHour_170 (by decide) ?_
        rw [nI_dec]
        exact ih _ A _ _ _ _ _ (by omega) hfk hAS hZ hQ
set_option maxRecDepth 20000 in
set_option maxHeartbeats 1000000 in
theorem t_X2_tryHour_2 (l : Launch) (V : WT) (hV : okV V) (dn : Int32) (fb : Nat → Int32) (N : ST) (tl : List va_E) (n : Nat) (hn : 2 ≤ n) (hn5 : n ≤ 5) (hTH : 2 < n → TH l V dn fb N tl n 8 3) : TH l V dn fb N tl n 9 2 := by
  intro left key fk A ra lo pr a hl hkey hfk hZ hS ha
  refine con_of rfl rfl (Nat.le_of_ble_eq_true rfl) ?_
  refine g_lsN (ls' := [_, _, _, _, _, _, _, _, _, _]) rfl ?_
  by_cases hk : key < fk
  · by_cases hnh : n = 2
    · subst hnh
      refine g_iload (n := 2) dX2_tryHour_0 rfl rfl ?_
      refine g_aload_n (n := 3) dX2_tryHour_2 rfl rfl ?_
      refine g_get (n := 6) fl_X2_36 dX2_tryHour_3 rfl rfl rfl ?_
      refine g_icmp_lt (tgt := 10) (n := 9) dX2_tryHour_6 (by decide) rfl (fun c6 => ?_) (fun c6 => absurd (nI_lt hk (by omega)) c6)
      refine g_iload_n (n := 11) dX2_tryHour_10 rfl rfl ?_
      refine g_aload_n (n := 12) dX2_tryHour_11 rfl rfl ?_
      refine g_get (n := 15) fl_X2_31 dX2_tryHour_12 rfl rfl rfl ?_
      refine g_icmp_ge (tgt := 23) (n := 18) dX2_tryHour_15 (by decide) rfl (fun c15 => ?_) (fun c15 => absurd (nI_le (by omega) (by omega)) c15)
      refine g_aload_n (n := 24) dX2_tryHour_23 rfl rfl ?_
      refine g_iload (n := 26) dX2_tryHour_24 rfl rfl ?_
      refine g_put (n := 29) pf_X2_36 dX2_tryHour_26 rfl (Nat.le_of_ble_eq_true rfl) (fun _ => rfl) (fun _ => rfl) rfl ?_
      refine g_wN (w' := (_ :: _ :: _ :: _ :: _ :: _ :: _ :: _ :: _ :: _ :: _ :: _ :: _ :: _ :: _ :: _ :: _ :: _ :: _ :: _ :: _ :: _ :: _ :: _ :: _ :: _ :: _ :: _ :: _ :: _ :: _ :: _ :: _ :: _ :: _ :: _ :: _ :: _ :: _ :: _ :: _ :: _)) rfl ?_
      exact g_vret dX2_tryHour_29 rfl ⟨Nat.zero_le _, Nat.zero_le _⟩ ⟨rfl, A, ra, lo, pr, fun _ _ => rfl, hZ, by rw [show 2 - 2 = 0 from rfl, trH, if_pos hk]; rfl⟩
    · have e1 : n - 2 = n - 3 + 1 := by omega
      have e2 : trH V (n - 2) (A 2) left key fk = lpO (if n - 3 = 0 then left else 0) (fun off fk => if ptB off left then (if flN V (dnS (A 2) off) (vnb V) = 0 then trH V (n - 3) (upS V (A 2) off) (left - off) (key + ohN (left - off) 6) fk else fk) else fk) (left + 1) fk := by rw [e1, trH, if_pos hk]
      rw [e2]
      by_cases hlast : n = 3
      · rw [if_pos (show n - 3 = 0 by omega)]
        refine g_iload (n := 2) dX2_tryHour_0 rfl rfl ?_
        refine g_aload_n (n := 3) dX2_tryHour_2 rfl rfl ?_
        refine g_get (n := 6) fl_X2_36 dX2_tryHour_3 rfl rfl rfl ?_
        refine g_icmp_lt (tgt := 10) (n := 9) dX2_tryHour_6 (by decide) rfl (fun c6 => ?_) (fun c6 => absurd (nI_lt hk (by omega)) c6)
        refine g_iload_n (n := 11) dX2_tryHour_10 rfl rfl ?_
        refine g_aload_n (n := 12) dX2_tryHour_11 rfl rfl ?_
        refine g_get (n := 15) fl_X2_31 dX2_tryHour_12 rfl rfl rfl ?_
        refine g_icmp_ge (tgt := 23) (n := 18) dX2_tryHour_15 (by decide) rfl (fun c15 => absurd c15 (nI_ge (by omega) (by omega))) (fun c15 => ?_)
        refine g_iload_n (n := 19) dX2_tryHour_18 rfl rfl ?_
        refine g_iconst (v := nI 5) (n := 20) dX2_tryHour_19 (by decide) rfl ?_
        refine g_icmp_lt (tgt := 30) (n := 23) dX2_tryHour_20 (by decide) rfl (fun c20 => ?_) (fun c20 => absurd (by decide) c20)
        refine g_aload_n (n := 31) dX2_tryHour_30 rfl rfl ?_
        refine g_get (n := 34) fl_X2_20 dX2_tryHour_31 rfl rfl rfl ?_
        refine g_iload_n (n := 35) dX2_tryHour_34 rfl rfl ?_
        refine g_iconst (v := nI 1) (n := 36) dX2_tryHour_35 (by decide) rfl ?_
        refine g_iaddN (n := 37) dX2_tryHour_36 rfl ?_
        refine g_aaldN (n := 38) dX2_tryHour_37 rfl rfl (by decide) (by omega) rfl ?_
        refine g_astore (n := 40) dX2_tryHour_38 (by decide) rfl rfl ?_
        refine g_lsN (ls' := [_, _, _, _, _, _, _, _, _, _]) rfl ?_
        refine g_iload_n (n := 41) dX2_tryHour_40 rfl rfl ?_
        refine g_aload_n (n := 42) dX2_tryHour_41 rfl rfl ?_
        refine g_get (n := 45) fl_X2_31 dX2_tryHour_42 rfl rfl rfl ?_
        refine g_iconst (v := nI 1) (n := 46) dX2_tryHour_45 (by decide) rfl ?_
        refine g_isubN (n := 47) dX2_tryHour_46 rfl (by omega) ?_
        refine g_icmp_ne (tgt := 54) (n := 50) dX2_tryHour_47 (by decide) rfl (fun c47 => absurd (show nI 2 = nI (n - 1) by rw [show n - 1 = 2 by omega]) c47) (fun c47 => ?_)
        refine g_iload_n (n := 51) dX2_tryHour_50 rfl rfl ?_
        refine g_goto (tgt := 55) dX2_tryHour_51 (by decide) ?_
        refine g_istore (n := 57) dX2_tryHour_55 (by decide) rfl rfl ?_
        refine g_lsN (ls' := [_, _, _, _, _, _, _, _, _, _]) rfl ?_
        refine g_iload_n (n := 58) dX2_tryHour_57 rfl rfl ?_
        refine g_istore (n := 60) dX2_tryHour_58 (by decide) rfl rfl ?_
        refine g_lsN (ls' := [_, _, _, _, _, _, _, _, _, _]) rfl ?_
        refine g_lsN (ls' := [_, _, _, _, _, _, _, some (.int (nI (left + 1) - nI 1)), _, _]) (by rw [nI_sub1 (by omega)]; rfl) ?_
        exact lp_X2_tryHour_2 l _ ⟨Nat.zero_le _, Nat.zero_le _⟩ _ V hV dn fb N tl n (by omega) hn5 (hTH (by omega)) left key left hl hkey (by omega) (A 2) a (by omega) hS (left + 1) fk A _ _ _ _ _ (Nat.le_refl _) hfk rfl hZ (fun A2 ra lo pr h2 hZ2 => ⟨rfl, A2, ra, lo, pr, h2, hZ2, rfl⟩)
      · rw [if_neg (show ¬ n - 3 = 0 by omega)]
        refine g_iload (n := 2) dX2_tryHour_0 rfl rfl ?_
        refine g_aload_n (n := 3) dX2_tryHour_2 rfl rfl ?_
        refine g_get (n := 6) fl_X2_36 dX2_tryHour_3 rfl rfl rfl ?_
        refine g_icmp_lt (tgt := 10) (n := 9) dX2_tryHour_6 (by decide) rfl (fun c6 => ?_) (fun c6 => absurd (nI_lt hk (by omega)) c6)
        refine g_iload_n (n := 11) dX2_tryHour_10 rfl rfl ?_
        refine g_aload_n (n := 12) dX2_tryHour_11 rfl rfl ?_
        refine g_get (n := 15) fl_X2_31 dX2_tryHour_12 rfl rfl rfl ?_
        refine g_icmp_ge (tgt := 23) (n := 18) dX2_tryHour_15 (by decide) rfl (fun c15 => absurd c15 (nI_ge (by omega) (by omega))) (fun c15 => ?_)
        refine g_iload_n (n := 19) dX2_tryHour_18 rfl rfl ?_
        refine g_iconst (v := nI 5) (n := 20) dX2_tryHour_19 (by decide) rfl ?_
        refine g_icmp_lt (tgt := 30) (n := 23) dX2_tryHour_20 (by decide) rfl (fun c20 => ?_) (fun c20 => absurd (by decide) c20)
        refine g_aload_n (n := 31) dX2_tryHour_30 rfl rfl ?_
        refine g_get (n := 34) fl_X2_20 dX2_tryHour_31 rfl rfl rfl ?_
        refine g_iload_n (n := 35) dX2_tryHour_34 rfl rfl ?_
        refine g_iconst (v := nI 1) (n := 36) dX2_tryHour_35 (by decide) rfl ?_
        refine g_iaddN (n := 37) dX2_tryHour_36 rfl ?_
        refine g_aaldN (n := 38) dX2_tryHour_37 rfl rfl (by decide) (by omega) rfl ?_
        refine g_astore (n := 40) dX2_tryHour_38 (by decide) rfl rfl ?_
        refine g_lsN (ls' := [_, _, _, _, _, _, _, _, _, _]) rfl ?_
        refine g_iload_n (n := 41) dX2_tryHour_40 rfl rfl ?_
        refine g_aload_n (n := 42) dX2_tryHour_41 rfl rfl ?_
        refine g_get (n := 45) fl_X2_31 dX2_tryHour_42 rfl rfl rfl ?_
        refine g_iconst (v := nI 1) (n := 46) dX2_tryHour_45 (by decide) rfl ?_
        refine g_isubN (n := 47) dX2_tryHour_46 rfl (by omega) ?_
        refine g_icmp_ne (tgt := 54) (n := 50) dX2_tryHour_47 (by decide) rfl (fun c47 => ?_) (fun c47 => absurd c47 (fun x => by have := (nI_eq (by omega) (by omega)).mp x; omega))
        refine g_iconst (v := nI 0) (n := 55) dX2_tryHour_54 (by decide) rfl ?_
        refine g_istore (n := 57) dX2_tryHour_55 (by decide) rfl rfl ?_
        refine g_lsN (ls' := [_, _, _, _, _, _, _, _, _, _]) rfl ?_
        refine g_iload_n (n := 58) dX2_tryHour_57 rfl rfl ?_
        refine g_istore (n := 60) dX2_tryHour_58 (by decide) rfl rfl ?_
        refine g_lsN (ls' := [_, _, _, _, _, _, _, _, _, _]) rfl ?_
        refine g_lsN (ls' := [_, _, _, _, _, _, _, some (.int (nI (left + 1) - nI 1)), _, _]) (by rw [nI_sub1 (by omega)]; rfl) ?_
        exact lp_X2_tryHour_2 l _ ⟨Nat.zero_le _, Nat.zero_le _⟩ _ V hV dn fb N tl n (by omega) hn5 (hTH (by omega)) left key 0 hl hkey (by omega) (A 2) a (by omega) hS (left + 1) fk A _ _ _ _ _ (Nat.le_refl _) hfk rfl hZ (fun A2 ra lo pr h2 hZ2 => ⟨rfl, A2, ra, lo, pr, h2, hZ2, rfl⟩)
  · have e2 : trH V (n - 2) (A 2) left key fk = fk := by
      cases n - 2 with
      | zero => rw [trH, if_neg hk]
      | succ k => rw [trH, if_neg hk]
    rw [e2]
    refine g_iload (n := 2) dX2_tryHour_0 rfl rfl ?_
    refine g_aload_n (n := 3) dX2_tryHour_2 rfl rfl ?_
    refine g_get (n := 6) fl_X2_36 dX2_tryHour_3 rfl rfl rfl ?_
    refine g_icmp_lt (tgt := 10) (n := 9) dX2_tryHour_6 (by decide) rfl (fun c6 => absurd c6 (nI_nlt (by omega) (by omega))) (fun c6 => ?_)
    exact g_vret dX2_tryHour_9 rfl ⟨Nat.zero_le _, Nat.zero_le _⟩ ⟨rfl, A, _, _, _, fun _ _ => rfl, hZ, rfl⟩
set_option maxRecDepth 20000 in
set_option maxHeartbeats 4000000 in
theorem lp_X2_tryHour_1 (l : Launch) (z : Nat × Nat × Nat) (hz : z.2.1 ≤ 0 ∧ z.2.2 ≤ 0) (Q : Option Value → List va_E → Prop) (V : WT) (hV : okV V) (dn : Int32) (fb : Nat → Int32) (N : ST) (tl : List va_E) (n : Nat) (hn : 1 < n) (hn5 : n ≤ 5) (hTH : TH l V dn fb N tl n 9 2) (left key few : Nat) (hl : left < 64) (hkey : key ≤ 1 * 37449) (hfew : few ≤ left) (S : ST) (a : Nat) (ha : a + (20 - 1) < 2 ^ 31) (hS : okS V S a) : ∀ (m fk : Nat) (A : Nat → ST) (ra lo pr : Nat → Int32) (o8 o9 : Option Value), m ≤ left + 1 → fk ≤ 262144 → A 1 = S → (∀ j, okZ (A j)) → (∀ A2 ra lo pr, (∀ j, j ≤ 1 → A2 j = A j) → (∀ j, okZ (A2 j)) → Q none (rq n (lpO few (fun off fk => if ptB off left then (if flN V (dnS S off) (vnb V) = 0 then trH V (n - 2) (upS V S off) (left - off) (key + ohN (left - off) 6) fk else fk) else fk) m fk) A2 ra lo pr V dn fb N tl)) → G l (M_X2_tryHour 10) z Q 60 [some (.ref 0), some (.ref 5), some (.int (nI 1)), some (.int (nI left)), some (.int (nI key)), some (.ref 21), some (.int (nI few)), some (.int (nI m - nI 1)), o8, o9] [] (rq n fk A ra lo pr V dn fb N tl) := by
  intro m
  induction m with
  | zero =>
    intro fk A ra lo pr o8 o9 hm hfk hAS hZ hQ
    refine g_iload (n := 62) dX2_tryHour_60 rfl rfl ?_
    refine g_iload (n := 64) dX2_tryHour_62 rfl rfl ?_
    refine g_icmp_lt (tgt := 173) (n := 67) dX2_tryHour_64 (by decide) rfl (fun c64 => ?_) (fun c64 => absurd (show nI 0 - nI 1 < nI few from pk_sneg_lt (by omega)) c64)
    exact g_vret dX2_tryHour_173 rfl hz (hQ A _ _ _ (fun _ _ => rfl) hZ)
  | succ off ih =>
    intro fk A ra lo pr o8 o9 hm hfk hAS hZ hQ
    have e7 : nI (off + 1) - nI 1 = nI off := nI_sub1 (by omega)
    rw [e7]
    have hSA : okS V (A 1) a := by rw [hAS]; exact hS
    by_cases hlt : off < few
    · have eL : lpO few (fun off fk => if ptB off left then (if flN V (dnS S off) (vnb V) = 0 then trH V (n - 2) (upS V S off) (left - off) (key + ohN (left - off) 6) fk else fk) else fk) (off + 1) fk = fk := by rw [lpO, if_pos hlt]
      rw [eL] at hQ
      refine g_iload (n := 62) dX2_tryHour_60 rfl rfl ?_
      refine g_iload (n := 64) dX2_tryHour_62 rfl rfl ?_
      refine g_icmp_lt (tgt := 173) (n := 67) dX2_tryHour_64 (by decide) rfl (fun c64 => ?_) (fun c64 => absurd (nI_lt hlt (by omega)) c64)
      exact g_vret dX2_tryHour_173 rfl hz (hQ A _ _ _ (fun _ _ => rfl) hZ)
    · have eL : lpO few (fun off fk => if ptB off left then (if flN V (dnS S off) (vnb V) = 0 then trH V (n - 2) (upS V S off) (left - off) (key + ohN (left - off) 6) fk else fk) else fk) (off + 1) fk = lpO few (fun off fk => if ptB off left then (if flN V (dnS S off) (vnb V) = 0 then trH V (n - 2) (upS V S off) (left - off) (key + ohN (left - off) 6) fk else fk) else fk) off (if ptB off left then (if flN V (dnS (A 1) off) (vnb V) = 0 then trH V (n - 2) (upS V (A 1) off) (left - off) (key + ohN (left - off) 6) fk else fk) else fk) := by rw [lpO, if_neg hlt, hAS]
      rw [eL] at hQ
      by_cases hpt : ptB off left = true
      · have hps := pt_sub left hl off (by omega) hpt
        rw [if_pos hpt] at hQ
        by_cases hfl : flN V (dnS (A 1) off) (vnb V) = 0
        · rw [if_pos hfl] at hQ
          have hZ2 : ∀ j, okZ (pu (pu A 2 (A 1)) 2 (upS V (A 1) off) j) := okZ_pu _ (okZ_pu _ hZ (hZ 1)) (okZ_up _ (okZ_ps hV (okZ_up _ (hZ 1))))
          have hS2 : okS V (pu (pu A 2 (A 1)) 2 (upS V (A 1) off) 2) (a + 1) := okS_sup _ (okS_ps hV (okS_sup _ hSA))
          refine g_iload (n := 62) dX2_tryHour_60 rfl rfl ?_
          refine g_iload (n := 64) dX2_tryHour_62 rfl rfl ?_
          refine g_icmp_lt (tgt := 173) (n := 67) dX2_tryHour_64 (by decide) rfl (fun c64 => absurd c64 (nI_nlt (by omega) (by omega))) (fun c64 => ?_)
          refine g_iload (n := 69) dX2_tryHour_67 rfl rfl ?_
          refine g_iload_n (n := 70) dX2_tryHour_69 rfl rfl ?_
          refine g_callSNi (n := 73) cs_X2_62 (t_X8_isPart l _ _) dX2_tryHour_70 rfl rfl ⟨by decide, by decide, rfl, rfl, hz.1, hz.2⟩ rfl (Nat.le_of_ble_eq_true rfl) rfl ?_
          refine g_if_ne (tgt := 79) (n := 76) dX2_tryHour_73 (by decide) rfl (fun c73 => ?_) (fun c73 => absurd c73 (bI_n0.mpr hpt))
          refine g_aload (n := 81) dX2_tryHour_79 rfl rfl ?_
          refine g_aload_n (n := 82) dX2_tryHour_81 rfl rfl ?_
          refine g_get (n := 85) fl_X2_20 dX2_tryHour_82 rfl rfl rfl ?_
          refine g_iload_n (n := 86) dX2_tryHour_85 rfl rfl ?_
          refine g_aaldN (n := 87) dX2_tryHour_86 rfl rfl (by decide) (by omega) rfl ?_
          refine g_cutVv (ps := [21, 22, 23, 24, 17, 18, 19, 20]) (w' := (_ :: _ :: _ :: _ :: _ :: _ :: _ :: _ :: _ :: _ :: _ :: _ :: _ :: _ :: _ :: _ :: _ :: _ :: _ :: _ :: _ :: _ :: _ :: _ :: _ :: _ :: _ :: _ :: _ :: _ :: _ :: _ :: _ :: _ :: _ :: _ :: _ :: _ :: _ :: _ :: _ :: _)) (n := 90) cv_X2_43 (t_X3_takeFrom l (A 2) (A 1) (hZ 2) (hZ 1)) dX2_tryHour_87 rfl rfl rfl ⟨by decide, by decide, rfl, rfl, hz.1, hz.2⟩ rfl rfl rfl (Nat.le_of_ble_eq_true rfl) rfl rfl rfl ?_
          refine g_aload (n := 92) dX2_tryHour_90 rfl rfl ?_
          refine g_dup (n := 93) dX2_tryHour_92 rfl rfl ?_
          refine g_get (n := 96) fl_X2_47 dX2_tryHour_93 rfl rfl rfl ?_
          refine g_iload (n := 98) dX2_tryHour_96 rfl rfl ?_
          refine g_iconst (v := (-1)) (n := 99) dX2_tryHour_98 (by decide) rfl ?_
          refine g_ixor (n := 100) dX2_tryHour_99 rfl ?_
          refine g_iand (n := 101) dX2_tryHour_100 rfl ?_
          refine g_put (n := 104) pf_X2_47 dX2_tryHour_101 rfl (Nat.le_of_ble_eq_true rfl) (fun _ => rfl) (fun _ => rfl) rfl ?_
          refine g_wN (w' := (_ :: _ :: _ :: _ :: _ :: _ :: _ :: _ :: _ :: _ :: _ :: _ :: _ :: _ :: _ :: _ :: _ :: _ :: _ :: _ :: _ :: _ :: _ :: _ :: _ :: _ :: _ :: _ :: _ :: _ :: _ :: _ :: _ :: _ :: _ :: _ :: _ :: _ :: _ :: _ :: _ :: _)) rfl ?_
          refine g_aload_n (n := 105) dX2_tryHour_104 rfl rfl ?_
          refine g_get (n := 108) fl_X2_14 dX2_tryHour_105 rfl rfl rfl ?_
          refine g_aload_n (n := 109) dX2_tryHour_108 rfl rfl ?_
          refine g_aload (n := 111) dX2_tryHour_109 rfl rfl ?_
          refine g_cutVi (ps := [1, 2, 3, 4, 5, 6, 7, 8, 9, 10, 11, 21, 22, 23, 24]) (w' := (_ :: _ :: _ :: _ :: _ :: _ :: _ :: _ :: _ :: _ :: _ :: _ :: _ :: _ :: _ :: _ :: _ :: _ :: _ :: _ :: _ :: _ :: _ :: _ :: _ :: _ :: _ :: _ :: _ :: _ :: _ :: _ :: _ :: _ :: _ :: _ :: _ :: _ :: _ :: _ :: _ :: _)) (n := 114) cv_X2_54 (t_X0_goBy l _ _ _ V hV dn fb (dnS (A 1) off) hSA.2.1 hSA.2.2.1 a (by omega) hSA.2.2.2) dX2_tryHour_111 rfl rfl rfl ⟨by decide, by decide, rfl, rfl, hz.1, hz.2⟩ rfl rfl rfl (Nat.le_of_ble_eq_true rfl) rfl rfl rfl ?_
          refine g_if_ne (tgt := 121) (n := 117) dX2_tryHour_114 (by decide) rfl (fun c114 => absurd hfl c114) (fun c114 => ?_)
          refine g_iconst (v := nI 1) (n := 118) dX2_tryHour_117 (by decide) rfl ?_
          refine g_goto (tgt := 122) dX2_tryHour_118 (by decide) ?_
          refine g_istore (n := 124) dX2_tryHour_122 (by decide) rfl rfl ?_
          refine g_lsN (ls' := [_, _, _, _, _, _, _, _, _, _]) rfl ?_
          refine g_aload (n := 126) dX2_tryHour_124 rfl rfl ?_
          refine g_dup (n := 127) dX2_tryHour_126 rfl rfl ?_
          refine g_get (n := 130) fl_X2_47 dX2_tryHour_127 rfl rfl rfl ?_
          refine g_iload (n := 132) dX2_tryHour_130 rfl rfl ?_
          refine g_ior (n := 133) dX2_tryHour_132 rfl ?_
          refine g_put (n := 136) pf_X2_47 dX2_tryHour_133 rfl (Nat.le_of_ble_eq_true rfl) (fun _ => rfl) (fun _ => rfl) rfl ?_
          refine g_wN (w' := (_ :: _ :: _ :: _ :: _ :: _ :: _ :: _ :: _ :: _ :: _ :: _ :: _ :: _ :: _ :: _ :: _ :: _ :: _ :: _ :: _ :: _ :: _ :: _ :: _ :: _ :: _ :: _ :: _ :: _ :: _ :: _ :: _ :: _ :: _ :: _ :: _ :: _ :: _ :: _ :: _ :: _)) rfl ?_
          refine g_iload (n := 138) dX2_tryHour_136 rfl rfl ?_
          refine g_if_eq (tgt := 167) (n := 141) dX2_tryHour_138 (by decide) rfl (fun c138 => absurd c138 (by decide)) (fun c138 => ?_)
          refine g_iload_n (n := 142) dX2_tryHour_141 rfl rfl ?_
          refine g_iload (n := 144) dX2_tryHour_142 rfl rfl ?_
          refine g_iconst (v := (-1)) (n := 145) dX2_tryHour_144 (by decide) rfl ?_
          refine g_ixor (n := 146) dX2_tryHour_145 rfl ?_
          refine g_iand (n := 147) dX2_tryHour_146 rfl ?_
          refine g_top hps ?_
          refine g_istore (n := 149) dX2_tryHour_147 (by decide) rfl rfl ?_
          refine g_lsN (ls' := [_, _, _, _, _, _, _, _, _, _]) rfl ?_
          refine g_wN (w' := rq n fk (pu (pu A 2 (A 1)) 2 (upS V (A 1) off)) _ _ _ V dn fb N tl) rfl ?_
          refine g_aload_n (n := 150) dX2_tryHour_149 rfl rfl ?_
          refine g_aload_n (n := 151) dX2_tryHour_150 rfl rfl ?_
          refine g_iload_n (n := 152) dX2_tryHour_151 rfl rfl ?_
          refine g_iconst (v := nI 1) (n := 153) dX2_tryHour_152 (by decide) rfl ?_
          refine g_iaddN (n := 154) dX2_tryHour_153 rfl ?_
          refine g_iload (n := 156) dX2_tryHour_154 rfl rfl ?_
          refine g_iload (n := 158) dX2_tryHour_156 rfl rfl ?_
          refine g_iload (n := 160) dX2_tryHour_158 rfl rfl ?_
          refine g_callSi (n := 163) cs_X2_66 (t_X2_oneHourMore l _) dX2_tryHour_160 rfl rfl ⟨by decide, by decide, rfl, rfl, hz.1, hz.2⟩ rfl (Nat.le_of_ble_eq_true rfl) rfl ?_
          refine g_iaddN (n := 164) dX2_tryHour_163 rfl ?_
          refine g_callW (n := 167) (cv_X2_50d _) (hTH (left - off) (key + ohN (left - off) 6) fk (pu (pu A 2 (A 1)) 2 (upS V (A 1) off)) _ _ _ (a + 1) (by omega) (by have := ohN_b (left - off); omega) hfk hZ2 hS2 (by omega)) dX2_tryHour_164 rfl ⟨by decide, by decide, rfl, rfl, hz.1, hz.2⟩ rfl rfl rfl (Nat.le_of_ble_eq_true rfl) rfl (fun r cw164 hq164 => ?_)
          obtain ⟨rfl, A2, ra2, lo2, pr2, hA2, hZ3, rfl⟩ := hq164
          refine ⟨rfl, ?_⟩
          refine g_stN (st' := []) rfl ?_
          refine g_wN (w' := (_ :: _ :: _ :: _ :: _ :: _ :: _ :: _ :: _ :: _ :: _ :: _ :: _ :: _ :: _ :: _ :: _ :: _ :: _ :: _ :: _ :: _ :: _ :: _ :: _ :: _ :: _ :: _ :: _ :: _ :: _ :: _ :: _ :: _ :: _ :: _ :: _ :: _ :: _ :: _ :: _ :: _)) rfl ?_
          refine g_iinc (n := 170) dX2_tryHour_167 rfl rfl (by decide) rfl rfl ?_
          refine g_lsN (ls' := [_, _, _, _, _, _, _, _, _, _]) rfl ?_
          refine g_goto (tgt := 60) dX2_tryHour_170 (by decide) ?_
          rw [nI_dec]
          refine ih _ A2 _ _ _ _ _ (by omega) (Nat.le_trans (trH_le _ _ _ _ _ _) hfk) ((hA2 1 (by decide)).trans hAS) hZ3 (fun A3 ra lo pr h3 hZ4 => ?_)
          have e5 := hQ A3 ra lo pr (fun j hj => (h3 j hj).trans ((hA2 j (by omega)).trans (by unfold pu; rw [if_neg (by omega), if_neg (by omega)]))) hZ4
          exact e5
        · rw [if_neg hfl] at hQ
          have hZ2 : ∀ j, okZ (pu (pu A 2 (A 1)) 2 (upS V (A 1) off) j) := okZ_pu _ (okZ_pu _ hZ (hZ 1)) (okZ_up _ (okZ_ps hV (okZ_up _ (hZ 1))))
          refine g_iload (n := 62) dX2_tryHour_60 rfl rfl ?_
          refine g_iload (n := 64) dX2_tryHour_62 rfl rfl ?_
          refine g_icmp_lt (tgt := 173) (n := 67) dX2_tryHour_64 (by decide) rfl (fun c64 => absurd c64 (nI_nlt (by omega) (by omega))) (fun c64 => ?_)
          refine g_iload (n := 69) dX2_tryHour_67 rfl rfl ?_
          refine g_iload_n (n := 70) dX2_tryHour_69 rfl rfl ?_
          refine g_callSNi (n := 73) cs_X2_62 (t_X8_isPart l _ _) dX2_tryHour_70 rfl rfl ⟨by decide, by decide, rfl, rfl, hz.1, hz.2⟩ rfl (Nat.le_of_ble_eq_true rfl) rfl ?_
          refine g_if_ne (tgt := 79) (n := 76) dX2_tryHour_73 (by decide) rfl (fun c73 => ?_) (fun c73 => absurd c73 (bI_n0.mpr hpt))
          refine g_aload (n := 81) dX2_tryHour_79 rfl rfl ?_
          refine g_aload_n (n := 82) dX2_tryHour_81 rfl rfl ?_
          refine g_get (n := 85) fl_X2_20 dX2_tryHour_82 rfl rfl rfl ?_
          refine g_iload_n (n := 86) dX2_tryHour_85 rfl rfl ?_
          refine g_aaldN (n := 87) dX2_tryHour_86 rfl rfl (by decide) (by omega) rfl ?_
          refine g_cutVv (ps := [21, 22, 23, 24, 17, 18, 19, 20]) (w' := (_ :: _ :: _ :: _ :: _ :: _ :: _ :: _ :: _ :: _ :: _ :: _ :: _ :: _ :: _ :: _ :: _ :: _ :: _ :: _ :: _ :: _ :: _ :: _ :: _ :: _ :: _ :: _ :: _ :: _ :: _ :: _ :: _ :: _ :: _ :: _ :: _ :: _ :: _ :: _ :: _ :: _)) (n := 90) cv_X2_43 (t_X3_takeFrom l (A 2) (A 1) (hZ 2) (hZ 1)) dX2_tryHour_87 rfl rfl rfl ⟨by decide, by decide, rfl, rfl, hz.1, hz.2⟩ rfl rfl rfl (Nat.le_of_ble_eq_true rfl) rfl rfl rfl ?_
          refine g_aload (n := 92) dX2_tryHour_90 rfl rfl ?_
          refine g_dup (n := 93) dX2_tryHour_92 rfl rfl ?_
          refine g_get (n := 96) fl_X2_47 dX2_tryHour_93 rfl rfl rfl ?_
          refine g_iload (n := 98) dX2_tryHour_96 rfl rfl ?_
          refine g_iconst (v := (-1)) (n := 99) dX2_tryHour_98 (by decide) rfl ?_
          refine g_ixor (n := 100) dX2_tryHour_99 rfl ?_
          refine g_iand (n := 101) dX2_tryHour_100 rfl ?_
          refine g_put (n := 104) pf_X2_47 dX2_tryHour_101 rfl (Nat.le_of_ble_eq_true rfl) (fun _ => rfl) (fun _ => rfl) rfl ?_
          refine g_wN (w' := (_ :: _ :: _ :: _ :: _ :: _ :: _ :: _ :: _ :: _ :: _ :: _ :: _ :: _ :: _ :: _ :: _ :: _ :: _ :: _ :: _ :: _ :: _ :: _ :: _ :: _ :: _ :: _ :: _ :: _ :: _ :: _ :: _ :: _ :: _ :: _ :: _ :: _ :: _ :: _ :: _ :: _)) rfl ?_
          refine g_aload_n (n := 105) dX2_tryHour_104 rfl rfl ?_
          refine g_get (n := 108) fl_X2_14 dX2_tryHour_105 rfl rfl rfl ?_
          refine g_aload_n (n := 109) dX2_tryHour_108 rfl rfl ?_
          refine g_aload (n := 111) dX2_tryHour_109 rfl rfl ?_
          refine g_cutVi (ps := [1, 2, 3, 4, 5, 6, 7, 8, 9, 10, 11, 21, 22, 23, 24]) (w' := (_ :: _ :: _ :: _ :: _ :: _ :: _ :: _ :: _ :: _ :: _ :: _ :: _ :: _ :: _ :: _ :: _ :: _ :: _ :: _ :: _ :: _ :: _ :: _ :: _ :: _ :: _ :: _ :: _ :: _ :: _ :: _ :: _ :: _ :: _ :: _ :: _ :: _ :: _ :: _ :: _ :: _)) (n := 114) cv_X2_54 (t_X0_goBy l _ _ _ V hV dn fb (dnS (A 1) off) hSA.2.1 hSA.2.2.1 a (by omega) hSA.2.2.2) dX2_tryHour_111 rfl rfl rfl ⟨by decide, by decide, rfl, rfl, hz.1, hz.2⟩ rfl rfl rfl (Nat.le_of_ble_eq_true rfl) rfl rfl rfl ?_
          refine g_if_ne (tgt := 121) (n := 117) dX2_tryHour_114 (by decide) rfl (fun c114 => ?_) (fun c114 => absurd c114 hfl)
          refine g_iconst (v := nI 0) (n := 122) dX2_tryHour_121 (by decide) rfl ?_
          refine g_istore (n := 124) dX2_tryHour_122 (by decide) rfl rfl ?_
          refine g_lsN (ls' := [_, _, _, _, _, _, _, _, _, _]) rfl ?_
          refine g_aload (n := 126) dX2_tryHour_124 rfl rfl ?_
          refine g_dup (n := 127) dX2_tryHour_126 rfl rfl ?_
          refine g_get (n := 130) fl_X2_47 dX2_tryHour_127 rfl rfl rfl ?_
          refine g_iload (n := 132) dX2_tryHour_130 rfl rfl ?_
          refine g_ior (n := 133) dX2_tryHour_132 rfl ?_
          refine g_put (n := 136) pf_X2_47 dX2_tryHour_133 rfl (Nat.le_of_ble_eq_true rfl) (fun _ => rfl) (fun _ => rfl) rfl ?_
          refine g_wN (w' := (_ :: _ :: _ :: _ :: _ :: _ :: _ :: _ :: _ :: _ :: _ :: _ :: _ :: _ :: _ :: _ :: _ :: _ :: _ :: _ :: _ :: _ :: _ :: _ :: _ :: _ :: _ :: _ :: _ :: _ :: _ :: _ :: _ :: _ :: _ :: _ :: _ :: _ :: _ :: _ :: _ :: _)) rfl ?_
          refine g_iload (n := 138) dX2_tryHour_136 rfl rfl ?_
          refine g_if_eq (tgt := 167) (n := 141) dX2_tryHour_138 (by decide) rfl (fun c138 => ?_) (fun c138 => absurd rfl c138)
          refine g_iinc (n := 170) dX2_tryHour_167 rfl rfl (by decide) rfl rfl ?_
          refine g_lsN (ls' := [_, _, _, _, _, _, _, _, _, _]) rfl ?_
          refine g_goto (tgt := 60) dX2_tryHour_170 (by decide) ?_
          rw [nI_dec]
          refine g_wN (w' := rq n fk (pu (pu A 2 (A 1)) 2 (upS V (A 1) off)) _ _ _ V dn fb N tl) rfl ?_
          refine ih _ (pu (pu A 2 (A 1)) 2 (upS V (A 1) off)) _ _ _ _ _ (by omega) hfk hAS hZ2 (fun A3 ra lo pr h3 hZ4 => ?_)
          have e5 := hQ A3 ra lo pr (fun j hj => (h3 j hj).trans (by unfold pu; rw [if_neg (by omega), if_neg (by omega)])) hZ4
          exact e5
      · rw [if_neg hpt] at hQ
        refine g_iload (n := 62) dX2_tryHour_60 rfl rfl ?_
        refine g_iload (n := 64) dX2_tryHour_62 rfl rfl ?_
        refine g_icmp_lt (tgt := 173) (n := 67) dX2_tryHour_64 (by decide) rfl (fun c64 => absurd c64 (nI_nlt (by omega) (by omega))) (fun c64 => ?_)
        refine g_iload (n := 69) dX2_tryHour_67 rfl rfl ?_
        refine g_iload_n (n := 70) dX2_tryHour_69 rfl rfl ?_
        refine g_callSNi (n := 73) cs_X2_62 (t_X8_isPart l _ _) dX2_tryHour_70 rfl rfl ⟨by decide, by decide, rfl, rfl, hz.1, hz.2⟩ rfl (Nat.le_of_ble_eq_true rfl) rfl ?_
        refine g_if_ne (tgt := 79) (n := 76) dX2_tryHour_73 (by decide) rfl (fun c73 => absurd (bI_0.mpr (Bool.eq_false_iff.mpr hpt)) c73) (fun c73 => ?_)
        refine g_goto (tgt := 167) dX2_tryHour_76 (by decide) ?_
        refine g_iinc (n := 170) dX2_tryHour_167 rfl rfl (by decide) rfl rfl ?_
        refine g_lsN (ls' := [_, _, _, _, _, _, _, _, _, _]) rfl ?_
        refine g_goto (tgt := 60) dX2_tryHour_170 (by decide) ?_
        rw [nI_dec]
        exact ih _ A _ _ _ _ _ (by omega) hfk hAS hZ hQ
set_option maxRecDepth 20000 in
set_option maxHeartbeats 1000000 in
theorem t_X2_tryHour_1 (l : Launch) (V : WT) (hV : okV V) (dn : Int32) (fb : Nat → Int32) (N : ST) (tl : List va_E) (n : Nat) (hn : 1 ≤ n) (hn5 : n ≤ 5) (hTH : 1 < n → TH l V dn fb N tl n 9 2) : TH l V dn fb N tl n 10 1 := by
  intro left key fk A ra lo pr a hl hkey hfk hZ hS ha
  refine con_of rfl rfl (Nat.le_of_ble_eq_true rfl) ?_
  refine g_lsN (ls' := [_, _, _, _, _, _, _, _, _, _]) rfl ?_
  by_cases hk : key < fk
  · by_cases hnh : n = 1
    · subst hnh
      refine g_iload (n := 2) dX2_tryHour_0 rfl rfl ?_
      refine g_aload_n (n := 3) dX2_tryHour_2 rfl rfl ?_
      refine g_get (n := 6) fl_X2_36 dX2_tryHour_3 rfl rfl rfl ?_
      refine g_icmp_lt (tgt := 10) (n := 9) dX2_tryHour_6 (by decide) rfl (fun c6 => ?_) (fun c6 => absurd (nI_lt hk (by omega)) c6)
      refine g_iload_n (n := 11) dX2_tryHour_10 rfl rfl ?_
      refine g_aload_n (n := 12) dX2_tryHour_11 rfl rfl ?_
      refine g_get (n := 15) fl_X2_31 dX2_tryHour_12 rfl rfl rfl ?_
      refine g_icmp_ge (tgt := 23) (n := 18) dX2_tryHour_15 (by decide) rfl (fun c15 => ?_) (fun c15 => absurd (nI_le (by omega) (by omega)) c15)
      refine g_aload_n (n := 24) dX2_tryHour_23 rfl rfl ?_
      refine g_iload (n := 26) dX2_tryHour_24 rfl rfl ?_
      refine g_put (n := 29) pf_X2_36 dX2_tryHour_26 rfl (Nat.le_of_ble_eq_true rfl) (fun _ => rfl) (fun _ => rfl) rfl ?_
      refine g_wN (w' := (_ :: _ :: _ :: _ :: _ :: _ :: _ :: _ :: _ :: _ :: _ :: _ :: _ :: _ :: _ :: _ :: _ :: _ :: _ :: _ :: _ :: _ :: _ :: _ :: _ :: _ :: _ :: _ :: _ :: _ :: _ :: _ :: _ :: _ :: _ :: _ :: _ :: _ :: _ :: _ :: _ :: _)) rfl ?_
      exact g_vret dX2_tryHour_29 rfl ⟨Nat.zero_le _, Nat.zero_le _⟩ ⟨rfl, A, ra, lo, pr, fun _ _ => rfl, hZ, by rw [show 1 - 1 = 0 from rfl, trH, if_pos hk]; rfl⟩
    · have e1 : n - 1 = n - 2 + 1 := by omega
      have e2 : trH V (n - 1) (A 1) left key fk = lpO (if n - 2 = 0 then left else 0) (fun off fk => if ptB off left then (if flN V (dnS (A 1) off) (vnb V) = 0 then trH V (n - 2) (upS V (A 1) off) (left - off) (key + ohN (left - off) 6) fk else fk) else fk) (left + 1) fk := by rw [e1, trH, if_pos hk]
      rw [e2]
      by_cases hlast : n = 2
      · rw [if_pos (show n - 2 = 0 by omega)]
        refine g_iload (n := 2) dX2_tryHour_0 rfl rfl ?_
        refine g_aload_n (n := 3) dX2_tryHour_2 rfl rfl ?_
        refine g_get (n := 6) fl_X2_36 dX2_tryHour_3 rfl rfl rfl ?_
        refine g_icmp_lt (tgt := 10) (n := 9) dX2_tryHour_6 (by decide) rfl (fun c6 => ?_) (fun c6 => absurd (nI_lt hk (by omega)) c6)
        refine g_iload_n (n := 11) dX2_tryHour_10 rfl rfl ?_
        refine g_aload_n (n := 12) dX2_tryHour_11 rfl rfl ?_
        refine g_get (n := 15) fl_X2_31 dX2_tryHour_12 rfl rfl rfl ?_
        refine g_icmp_ge (tgt := 23) (n := 18) dX2_tryHour_15 (by decide) rfl (fun c15 => absurd c15 (nI_ge (by omega) (by omega))) (fun c15 => ?_)
        refine g_iload_n (n := 19) dX2_tryHour_18 rfl rfl ?_
        refine g_iconst (v := nI 5) (n := 20) dX2_tryHour_19 (by decide) rfl ?_
        refine g_icmp_lt (tgt := 30) (n := 23) dX2_tryHour_20 (by decide) rfl (fun c20 => ?_) (fun c20 => absurd (by decide) c20)
        refine g_aload_n (n := 31) dX2_tryHour_30 rfl rfl ?_
        refine g_get (n := 34) fl_X2_20 dX2_tryHour_31 rfl rfl rfl ?_
        refine g_iload_n (n := 35) dX2_tryHour_34 rfl rfl ?_
        refine g_iconst (v := nI 1) (n := 36) dX2_tryHour_35 (by decide) rfl ?_
        refine g_iaddN (n := 37) dX2_tryHour_36 rfl ?_
        refine g_aaldN (n := 38) dX2_tryHour_37 rfl rfl (by decide) (by omega) rfl ?_
        refine g_astore (n := 40) dX2_tryHour_38 (by decide) rfl rfl ?_
        refine g_lsN (ls' := [_, _, _, _, _, _, _, _, _, _]) rfl ?_
        refine g_iload_n (n := 41) dX2_tryHour_40 rfl rfl ?_
        refine g_aload_n (n := 42) dX2_tryHour_41 rfl rfl ?_
        refine g_get (n := 45) fl_X2_31 dX2_tryHour_42 rfl rfl rfl ?_
        refine g_iconst (v := nI 1) (n := 46) dX2_tryHour_45 (by decide) rfl ?_
        refine g_isubN (n := 47) dX2_tryHour_46 rfl (by omega) ?_
        refine g_icmp_ne (tgt := 54) (n := 50) dX2_tryHour_47 (by decide) rfl (fun c47 => absurd (show nI 1 = nI (n - 1) by rw [show n - 1 = 1 by omega]) c47) (fun c47 => ?_)
        refine g_iload_n (n := 51) dX2_tryHour_50 rfl rfl ?_
        refine g_goto (tgt := 55) dX2_tryHour_51 (by decide) ?_
        refine g_istore (n := 57) dX2_tryHour_55 (by decide) rfl rfl ?_
        refine g_lsN (ls' := [_, _, _, _, _, _, _, _, _, _]) rfl ?_
        refine g_iload_n (n := 58) dX2_tryHour_57 rfl rfl ?_
        refine g_istore (n := 60) dX2_tryHour_58 (by decide) rfl rfl ?_
        refine g_lsN (ls' := [_, _, _, _, _, _, _, _, _, _]) rfl ?_
        refine g_lsN (ls' := [_, _, _, _, _, _, _, some (.int (nI (left + 1) - nI 1)), _, _]) (by rw [nI_sub1 (by omega)]; rfl) ?_
        exact lp_X2_tryHour_1 l _ ⟨Nat.zero_le _, Nat.zero_le _⟩ _ V hV dn fb N tl n (by omega) hn5 (hTH (by omega)) left key left hl hkey (by omega) (A 1) a (by omega) hS (left + 1) fk A _ _ _ _ _ (Nat.le_refl _) hfk rfl hZ (fun A2 ra lo pr h2 hZ2 => ⟨rfl, A2, ra, lo, pr, h2, hZ2, rfl⟩)
      · rw [if_neg (show ¬ n - 2 = 0 by omega)]
        refine g_iload (n := 2) dX2_tryHour_0 rfl rfl ?_
        refine g_aload_n (n := 3) dX2_tryHour_2 rfl rfl ?_
        refine g_get (n := 6) fl_X2_36 dX2_tryHour_3 rfl rfl rfl ?_
        refine g_icmp_lt (tgt := 10) (n := 9) dX2_tryHour_6 (by decide) rfl (fun c6 => ?_) (fun c6 => absurd (nI_lt hk (by omega)) c6)
        refine g_iload_n (n := 11) dX2_tryHour_10 rfl rfl ?_
        refine g_aload_n (n := 12) dX2_tryHour_11 rfl rfl ?_
        refine g_get (n := 15) fl_X2_31 dX2_tryHour_12 rfl rfl rfl ?_
        refine g_icmp_ge (tgt := 23) (n := 18) dX2_tryHour_15 (by decide) rfl (fun c15 => absurd c15 (nI_ge (by omega) (by omega))) (fun c15 => ?_)
        refine g_iload_n (n := 19) dX2_tryHour_18 rfl rfl ?_
        refine g_iconst (v := nI 5) (n := 20) dX2_tryHour_19 (by decide) rfl ?_
        refine g_icmp_lt (tgt := 30) (n := 23) dX2_tryHour_20 (by decide) rfl (fun c20 => ?_) (fun c20 => absurd (by decide) c20)
        refine g_aload_n (n := 31) dX2_tryHour_30 rfl rfl ?_
        refine g_get (n := 34) fl_X2_20 dX2_tryHour_31 rfl rfl rfl ?_
        refine g_iload_n (n := 35) dX2_tryHour_34 rfl rfl ?_
        refine g_iconst (v := nI 1) (n := 36) dX2_tryHour_35 (by decide) rfl ?_
        refine g_iaddN (n := 37) dX2_tryHour_36 rfl ?_
        refine g_aaldN (n := 38) dX2_tryHour_37 rfl rfl (by decide) (by omega) rfl ?_
        refine g_astore (n := 40) dX2_tryHour_38 (by decide) rfl rfl ?_
        refine g_lsN (ls' := [_, _, _, _, _, _, _, _, _, _]) rfl ?_
        refine g_iload_n (n := 41) dX2_tryHour_40 rfl rfl ?_
        refine g_aload_n (n := 42) dX2_tryHour_41 rfl rfl ?_
        refine g_get (n := 45) fl_X2_31 dX2_tryHour_42 rfl rfl rfl ?_
        refine g_iconst (v := nI 1) (n := 46) dX2_tryHour_45 (by decide) rfl ?_
        refine g_isubN (n := 47) dX2_tryHour_46 rfl (by omega) ?_
        refine g_icmp_ne (tgt := 54) (n := 50) dX2_tryHour_47 (by decide) rfl (fun c47 => ?_) (fun c47 => absurd c47 (fun x => by have := (nI_eq (by omega) (by omega)).mp x; omega))
        refine g_iconst (v := nI 0) (n := 55) dX2_tryHour_54 (by decide) rfl ?_
        refine g_istore (n := 57) dX2_tryHour_55 (by decide) rfl rfl ?_
        refine g_lsN (ls' := [_, _, _, _, _, _, _, _, _, _]) rfl ?_
        refine g_iload_n (n := 58) dX2_tryHour_57 rfl rfl ?_
        refine g_istore (n := 60) dX2_tryHour_58 (by decide) rfl rfl ?_
        refine g_lsN (ls' := [_, _, _, _, _, _, _, _, _, _]) rfl ?_
        refine g_lsN (ls' := [_, _, _, _, _, _, _, some (.int (nI (left + 1) - nI 1)), _, _]) (by rw [nI_sub1 (by omega)]; rfl) ?_
        exact lp_X2_tryHour_1 l _ ⟨Nat.zero_le _, Nat.zero_le _⟩ _ V hV dn fb N tl n (by omega) hn5 (hTH (by omega)) left key 0 hl hkey (by omega) (A 1) a (by omega) hS (left + 1) fk A _ _ _ _ _ (Nat.le_refl _) hfk rfl hZ (fun A2 ra lo pr h2 hZ2 => ⟨rfl, A2, ra, lo, pr, h2, hZ2, rfl⟩)
  · have e2 : trH V (n - 1) (A 1) left key fk = fk := by
      cases n - 1 with
      | zero => rw [trH, if_neg hk]
      | succ k => rw [trH, if_neg hk]
    rw [e2]
    refine g_iload (n := 2) dX2_tryHour_0 rfl rfl ?_
    refine g_aload_n (n := 3) dX2_tryHour_2 rfl rfl ?_
    refine g_get (n := 6) fl_X2_36 dX2_tryHour_3 rfl rfl rfl ?_
    refine g_icmp_lt (tgt := 10) (n := 9) dX2_tryHour_6 (by decide) rfl (fun c6 => absurd c6 (nI_nlt (by omega) (by omega))) (fun c6 => ?_)
    exact g_vret dX2_tryHour_9 rfl ⟨Nat.zero_le _, Nat.zero_le _⟩ ⟨rfl, A, _, _, _, fun _ _ => rfl, hZ, rfl⟩
set_option maxRecDepth 20000 in
set_option maxHeartbeats 4000000 in
theorem lp_X2_tryHour_0 (l : Launch) (z : Nat × Nat × Nat) (hz : z.2.1 ≤ 0 ∧ z.2.2 ≤ 0) (Q : Option Value → List va_E → Prop) (V : WT) (hV : okV V) (dn : Int32) (fb : Nat → Int32) (N : ST) (tl : List va_E) (n : Nat) (hn : 0 < n) (hn5 : n ≤ 5) (hTH : TH l V dn fb N tl n 10 1) (left key few : Nat) (hl : left < 64) (hkey : key ≤ 0 * 37449) (hfew : few ≤ left) (S : ST) (a : Nat) (ha : a + (20 - 0) < 2 ^ 31) (hS : okS V S a) : ∀ (m fk : Nat) (A : Nat → ST) (ra lo pr : Nat → Int32) (o8 o9 : Option Value), m ≤ left + 1 → fk ≤ 262144 → A 0 = S → (∀ j, okZ (A j)) → (∀ A2 ra lo pr, (∀ j, j ≤ 0 → A2 j = A j) → (∀ j, okZ (A2 j)) → Q none (rq n (lpO few (fun off fk => if ptB off left then (if flN V (dnS S off) (vnb V) = 0 then trH V (n - 1) (upS V S off) (left - off) (key + ohN (left - off) 6) fk else fk) else fk) m fk) A2 ra lo pr V dn fb N tl)) → G l (M_X2_tryHour 11) z Q 60 [some (.ref 0), some (.ref 5), some (.int (nI 0)), some (.int (nI left)), some (.int (nI key)), some (.ref 17), some (.int (nI few)), some (.int (nI m - nI 1)), o8, o9] [] (rq n fk A ra lo pr V dn fb N tl) := by
  intro m
  induction m with
  | zero =>
    intro fk A ra lo pr o8 o9 hm hfk hAS hZ hQ
    refine g_iload (n := 62) dX2_tryHour_60 rfl rfl ?_
    refine g_iload (n := 64) dX2_tryHour_62 rfl rfl ?_
    refine g_icmp_lt (tgt := 173) (n := 67) dX2_tryHour_64 (by decide) rfl (fun c64 => ?_) (fun c64 => absurd (show nI 0 - nI 1 < nI few from pk_sneg_lt (by omega)) c64)
    exact g_vret dX2_tryHour_173 rfl hz (hQ A _ _ _ (fun _ _ => rfl) hZ)
  | succ off ih =>
    intro fk A ra lo pr o8 o9 hm hfk hAS hZ hQ
    have e7 : nI (off + 1) - nI 1 = nI off := nI_sub1 (by omega)
    rw [e7]
    have hSA : okS V (A 0) a := by rw [hAS]; exact hS
    by_cases hlt : off < few
    · have eL : lpO few (fun off fk => if ptB off left then (if flN V (dnS S off) (vnb V) = 0 then trH V (n - 1) (upS V S off) (left - off) (key + ohN (left - off) 6) fk else fk) else fk) (off + 1) fk = fk := by rw [lpO, if_pos hlt]
      rw [eL] at hQ
      refine g_iload (n := 62) dX2_tryHour_60 rfl rfl ?_
      refine g_iload (n := 64) dX2_tryHour_62 rfl rfl ?_
      refine g_icmp_lt (tgt := 173) (n := 67) dX2_tryHour_64 (by decide) rfl (fun c64 => ?_) (fun c64 => absurd (nI_lt hlt (by omega)) c64)
      exact g_vret dX2_tryHour_173 rfl hz (hQ A _ _ _ (fun _ _ => rfl) hZ)
    · have eL : lpO few (fun off fk => if ptB off left then (if flN V (dnS S off) (vnb V) = 0 then trH V (n - 1) (upS V S off) (left - off) (key + ohN (left - off) 6) fk else fk) else fk) (off + 1) fk = lpO few (fun off fk => if ptB off left then (if flN V (dnS S off) (vnb V) = 0 then trH V (n - 1) (upS V S off) (left - off) (key + ohN (left - off) 6) fk else fk) else fk) off (if ptB off left then (if flN V (dnS (A 0) off) (vnb V) = 0 then trH V (n - 1) (upS V (A 0) off) (left - off) (key + ohN (left - off) 6) fk else fk) else fk) := by rw [lpO, if_neg hlt, hAS]
      rw [eL] at hQ
      by_cases hpt : ptB off left = true
      · have hps := pt_sub left hl off (by omega) hpt
        rw [if_pos hpt] at hQ
        by_cases hfl : flN V (dnS (A 0) off) (vnb V) = 0
        · rw [if_pos hfl] at hQ
          have hZ2 : ∀ j, okZ (pu (pu A 1 (A 0)) 1 (upS V (A 0) off) j) := okZ_pu _ (okZ_pu _ hZ (hZ 0)) (okZ_up _ (okZ_ps hV (okZ_up _ (hZ 0))))
          have hS2 : okS V (pu (pu A 1 (A 0)) 1 (upS V (A 0) off) 1) (a + 1) := okS_sup _ (okS_ps hV (okS_sup _ hSA))
          refine g_iload (n := 62) dX2_tryHour_60 rfl rfl ?_
          refine g_iload (n := 64) dX2_tryHour_62 rfl rfl ?_
          refine g_icmp_lt (tgt := 173) (n := 67) dX2_tryHour_64 (by decide) rfl (fun c64 => absurd c64 (nI_nlt (by omega) (by omega))) (fun c64 => ?_)
          refine g_iload (n := 69) dX2_tryHour_67 rfl rfl ?_
          refine g_iload_n (n := 70) dX2_tryHour_69 rfl rfl ?_
          refine g_callSNi (n := 73) cs_X2_62 (t_X8_isPart l _ _) dX2_tryHour_70 rfl rfl ⟨by decide, by decide, rfl, rfl, hz.1, hz.2⟩ rfl (Nat.le_of_ble_eq_true rfl) rfl ?_
          refine g_if_ne (tgt := 79) (n := 76) dX2_tryHour_73 (by decide) rfl (fun c73 => ?_) (fun c73 => absurd c73 (bI_n0.mpr hpt))
          refine g_aload (n := 81) dX2_tryHour_79 rfl rfl ?_
          refine g_aload_n (n := 82) dX2_tryHour_81 rfl rfl ?_
          refine g_get (n := 85) fl_X2_20 dX2_tryHour_82 rfl rfl rfl ?_
          refine g_iload_n (n := 86) dX2_tryHour_85 rfl rfl ?_
          refine g_aaldN (n := 87) dX2_tryHour_86 rfl rfl (by decide) (by omega) rfl ?_
          refine g_cutVv (ps := [17, 18, 19, 20, 13, 14, 15, 16]) (w' := (_ :: _ :: _ :: _ :: _ :: _ :: _ :: _ :: _ :: _ :: _ :: _ :: _ :: _ :: _ :: _ :: _ :: _ :: _ :: _ :: _ :: _ :: _ :: _ :: _ :: _ :: _ :: _ :: _ :: _ :: _ :: _ :: _ :: _ :: _ :: _ :: _ :: _ :: _ :: _ :: _ :: _)) (n := 90) cv_X2_43 (t_X3_takeFrom l (A 1) (A 0) (hZ 1) (hZ 0)) dX2_tryHour_87 rfl rfl rfl ⟨by decide, by decide, rfl, rfl, hz.1, hz.2⟩ rfl rfl rfl (Nat.le_of_ble_eq_true rfl) rfl rfl rfl ?_
          refine g_aload (n := 92) dX2_tryHour_90 rfl rfl ?_
          refine g_dup (n := 93) dX2_tryHour_92 rfl rfl ?_
          refine g_get (n := 96) fl_X2_47 dX2_tryHour_93 rfl rfl rfl ?_
          refine g_iload (n := 98) dX2_tryHour_96 rfl rfl ?_
          refine g_iconst (v := (-1)) (n := 99) dX2_tryHour_98 (by decide) rfl ?_
          refine g_ixor (n := 100) dX2_tryHour_99 rfl ?_
          refine g_iand (n := 101) dX2_tryHour_100 rfl ?_
          refine g_put (n := 104) pf_X2_47 dX2_tryHour_101 rfl (Nat.le_of_ble_eq_true rfl) (fun _ => rfl) (fun _ => rfl) rfl ?_
          refine g_wN (w' := (_ :: _ :: _ :: _ :: _ :: _ :: _ :: _ :: _ :: _ :: _ :: _ :: _ :: _ :: _ :: _ :: _ :: _ :: _ :: _ :: _ :: _ :: _ :: _ :: _ :: _ :: _ :: _ :: _ :: _ :: _ :: _ :: _ :: _ :: _ :: _ :: _ :: _ :: _ :: _ :: _ :: _)) rfl ?_
          refine g_aload_n (n := 105) dX2_tryHour_104 rfl rfl ?_
          refine g_get (n := 108) fl_X2_14 dX2_tryHour_105 rfl rfl rfl ?_
          refine g_aload_n (n := 109) dX2_tryHour_108 rfl rfl ?_
          refine g_aload (n := 111) dX2_tryHour_109 rfl rfl ?_
          refine g_cutVi (ps := [1, 2, 3, 4, 5, 6, 7, 8, 9, 10, 11, 17, 18, 19, 20]) (w' := (_ :: _ :: _ :: _ :: _ :: _ :: _ :: _ :: _ :: _ :: _ :: _ :: _ :: _ :: _ :: _ :: _ :: _ :: _ :: _ :: _ :: _ :: _ :: _ :: _ :: _ :: _ :: _ :: _ :: _ :: _ :: _ :: _ :: _ :: _ :: _ :: _ :: _ :: _ :: _ :: _ :: _)) (n := 114) cv_X2_54 (t_X0_goBy l _ _ _ V hV dn fb (dnS (A 0) off) hSA.2.1 hSA.2.2.1 a (by omega) hSA.2.2.2) dX2_tryHour_111 rfl rfl rfl ⟨by decide, by decide, rfl, rfl, hz.1, hz.2⟩ rfl rfl rfl (Nat.le_of_ble_eq_true rfl) rfl rfl rfl ?_
          refine g_if_ne (tgt := 121) (n := 117) dX2_tryHour_114 (by decide) rfl (fun c114 => absurd hfl c114) (fun c114 => ?_)
          refine g_iconst (v := nI 1) (n := 118) dX2_tryHour_117 (by decide) rfl ?_
          refine g_goto (tgt := 122) dX2_tryHour_118 (by decide) ?_
          refine g_istore (n := 124) dX2_tryHour_122 (by decide) rfl rfl ?_
          refine g_lsN (ls' := [_, _, _, _, _, _, _, _, _, _]) rfl ?_
          refine g_aload (n := 126) dX2_tryHour_124 rfl rfl ?_
          refine g_dup (n := 127) dX2_tryHour_126 rfl rfl ?_
          refine g_get (n := 130) fl_X2_47 dX2_tryHour_127 rfl rfl rfl ?_
          refine g_iload (n := 132) dX2_tryHour_130 rfl rfl ?_
          refine g_ior (n := 133) dX2_tryHour_132 rfl ?_
          refine g_put (n := 136) pf_X2_47 dX2_tryHour_133 rfl (Nat.le_of_ble_eq_true rfl) (fun _ => rfl) (fun _ => rfl) rfl ?_
          refine g_wN (w' := (_ :: _ :: _ :: _ :: _ :: _ :: _ :: _ :: _ :: _ :: _ :: _ :: _ :: _ :: _ :: _ :: _ :: _ :: _ :: _ :: _ :: _ :: _ :: _ :: _ :: _ :: _ :: _ :: _ :: _ :: _ :: _ :: _ :: _ :: _ :: _ :: _ :: _ :: _ :: _ :: _ :: _)) rfl ?_
          refine g_iload (n := 138) dX2_tryHour_136 rfl rfl ?_
          refine g_if_eq (tgt := 167) (n := 141) dX2_tryHour_138 (by decide) rfl (fun c138 => absurd c138 (by decide)) (fun c138 => ?_)
          refine g_iload_n (n := 142) dX2_tryHour_141 rfl rfl ?_
          refine g_iload (n := 144) dX2_tryHour_142 rfl rfl ?_
          refine g_iconst (v := (-1)) (n := 145) dX2_tryHour_144 (by decide) rfl ?_
          refine g_ixor (n := 146) dX2_tryHour_145 rfl ?_
          refine g_iand (n := 147) dX2_tryHour_146 rfl ?_
          refine g_top hps ?_
          refine g_istore (n := 149) dX2_tryHour_147 (by decide) rfl rfl ?_
          refine g_lsN (ls' := [_, _, _, _, _, _, _, _, _, _]) rfl ?_
          refine g_wN (w' := rq n fk (pu (pu A 1 (A 0)) 1 (upS V (A 0) off)) _ _ _ V dn fb N tl) rfl ?_
          refine g_aload_n (n := 150) dX2_tryHour_149 rfl rfl ?_
          refine g_aload_n (n := 151) dX2_tryHour_150 rfl rfl ?_
          refine g_iload_n (n := 152) dX2_tryHour_151 rfl rfl ?_
          refine g_iconst (v := nI 1) (n := 153) dX2_tryHour_152 (by decide) rfl ?_
          refine g_iaddN (n := 154) dX2_tryHour_153 rfl ?_
          refine g_iload (n := 156) dX2_tryHour_154 rfl rfl ?_
          refine g_iload (n := 158) dX2_tryHour_156 rfl rfl ?_
          refine g_iload (n := 160) dX2_tryHour_158 rfl rfl ?_
          refine g_callSi (n := 163) cs_X2_66 (t_X2_oneHourMore l _) dX2_tryHour_160 rfl rfl ⟨by decide, by decide, rfl, rfl, hz.1, hz.2⟩ rfl (Nat.le_of_ble_eq_true rfl) rfl ?_
          refine g_iaddN (n := 164) dX2_tryHour_163 rfl ?_
          refine g_callW (n := 167) (cv_X2_50d _) (hTH (left - off) (key + ohN (left - off) 6) fk (pu (pu A 1 (A 0)) 1 (upS V (A 0) off)) _ _ _ (a + 1) (by omega) (by have := ohN_b (left - off); omega) hfk hZ2 hS2 (by omega)) dX2_tryHour_164 rfl ⟨by decide, by decide, rfl, rfl, hz.1, hz.2⟩ rfl rfl rfl (Nat.le_of_ble_eq_true rfl) rfl (fun r cw164 hq164 => ?_)
          obtain ⟨rfl, A2, ra2, lo2, pr2, hA2, hZ3, rfl⟩ := hq164
          refine ⟨rfl, ?_⟩
          refine g_stN (st' := []) rfl ?_
          refine g_wN (w' := (_ :: _ :: _ :: _ :: _ :: _ :: _ :: _ :: _ :: _ :: _ :: _ :: _ :: _ :: _ :: _ :: _ :: _ :: _ :: _ :: _ :: _ :: _ :: _ :: _ :: _ :: _ :: _ :: _ :: _ :: _ :: _ :: _ :: _ :: _ :: _ :: _ :: _ :: _ :: _ :: _ :: _)) rfl ?_
          refine g_iinc (n := 170) dX2_tryHour_167 rfl rfl (by decide) rfl rfl ?_
          refine g_lsN (ls' := [_, _, _, _, _, _, _, _, _, _]) rfl ?_
          refine g_goto (tgt := 60) dX2_tryHour_170 (by decide) ?_
          rw [nI_dec]
          refine ih _ A2 _ _ _ _ _ (by omega) (Nat.le_trans (trH_le _ _ _ _ _ _) hfk) ((hA2 0 (by decide)).trans hAS) hZ3 (fun A3 ra lo pr h3 hZ4 => ?_)
          have e5 := hQ A3 ra lo pr (fun j hj => (h3 j hj).trans ((hA2 j (by omega)).trans (by unfold pu; rw [if_neg (by omega), if_neg (by omega)]))) hZ4
          exact e5
        · rw [if_neg hfl] at hQ
          have hZ2 : ∀ j, okZ (pu (pu A 1 (A 0)) 1 (upS V (A 0) off) j) := okZ_pu _ (okZ_pu _ hZ (hZ 0)) (okZ_up _ (okZ_ps hV (okZ_up _ (hZ 0))))
          refine g_iload (n := 62) dX2_tryHour_60 rfl rfl ?_
          refine g_iload (n := 64) dX2_tryHour_62 rfl rfl ?_
          refine g_icmp_lt (tgt := 173) (n := 67) dX2_tryHour_64 (by decide) rfl (fun c64 => absurd c64 (nI_nlt (by omega) (by omega))) (fun c64 => ?_)
          refine g_iload (n := 69) dX2_tryHour_67 rfl rfl ?_
          refine g_iload_n (n := 70) dX2_tryHour_69 rfl rfl ?_
          refine g_callSNi (n := 73) cs_X2_62 (t_X8_isPart l _ _) dX2_tryHour_70 rfl rfl ⟨by decide, by decide, rfl, rfl, hz.1, hz.2⟩ rfl (Nat.le_of_ble_eq_true rfl) rfl ?_
          refine g_if_ne (tgt := 79) (n := 76) dX2_tryHour_73 (by decide) rfl (fun c73 => ?_) (fun c73 => absurd c73 (bI_n0.mpr hpt))
          refine g_aload (n := 81) dX2_tryHour_79 rfl rfl ?_
          refine g_aload_n (n := 82) dX2_tryHour_81 rfl rfl ?_
          refine g_get (n := 85) fl_X2_20 dX2_tryHour_82 rfl rfl rfl ?_
          refine g_iload_n (n := 86) dX2_tryHour_85 rfl rfl ?_
          refine g_aaldN (n := 87) dX2_tryHour_86 rfl rfl (by decide) (by omega) rfl ?_
          refine g_cutVv (ps := [17, 18, 19, 20, 13, 14, 15, 16]) (w' := (_ :: _ :: _ :: _ :: _ :: _ :: _ :: _ :: _ :: _ :: _ :: _ :: _ :: _ :: _ :: _ :: _ :: _ :: _ :: _ :: _ :: _ :: _ :: _ :: _ :: _ :: _ :: _ :: _ :: _ :: _ :: _ :: _ :: _ :: _ :: _ :: _ :: _ :: _ :: _ :: _ :: _)) (n := 90) cv_X2_43 (t_X3_takeFrom l (A 1) (A 0) (hZ 1) (hZ 0)) dX2_tryHour_87 rfl rfl rfl ⟨by decide, by decide, rfl, rfl, hz.1, hz.2⟩ rfl rfl rfl (Nat.le_of_ble_eq_true rfl) rfl rfl rfl ?_
          refine g_aload (n := 92) dX2_tryHour_90 rfl rfl ?_
          refine g_dup (n := 93) dX2_tryHour_92 rfl rfl ?_
          refine g_get (n := 96) fl_X2_47 dX2_tryHour_93 rfl rfl rfl ?_
          refine g_iload (n := 98) dX2_tryHour_96 rfl rfl ?_
          refine g_iconst (v := (-1)) (n := 99) dX2_tryHour_98 (by decide) rfl ?_
          refine g_ixor (n := 100) dX2_tryHour_99 rfl ?_
          refine g_iand (n := 101) dX2_tryHour_100 rfl ?_
          refine g_put (n := 104) pf_X2_47 dX2_tryHour_101 rfl (Nat.le_of_ble_eq_true rfl) (fun _ => rfl) (fun _ => rfl) rfl ?_
          refine g_wN (w' := (_ :: _ :: _ :: _ :: _ :: _ :: _ :: _ :: _ :: _ :: _ :: _ :: _ :: _ :: _ :: _ :: _ :: _ :: _ :: _ :: _ :: _ :: _ :: _ :: _ :: _ :: _ :: _ :: _ :: _ :: _ :: _ :: _ :: _ :: _ :: _ :: _ :: _ :: _ :: _ :: _ :: _)) rfl ?_
          refine g_aload_n (n := 105) dX2_tryHour_104 rfl rfl ?_
          refine g_get (n := 108) fl_X2_14 dX2_tryHour_105 rfl rfl rfl ?_
          refine g_aload_n (n := 109) dX2_tryHour_108 rfl rfl ?_
          refine g_aload (n := 111) dX2_tryHour_109 rfl rfl ?_
          refine g_cutVi (ps := [1, 2, 3, 4, 5, 6, 7, 8, 9, 10, 11, 17, 18, 19, 20]) (w' := (_ :: _ :: _ :: _ :: _ :: _ :: _ :: _ :: _ :: _ :: _ :: _ :: _ :: _ :: _ :: _ :: _ :: _ :: _ :: _ :: _ :: _ :: _ :: _ :: _ :: _ :: _ :: _ :: _ :: _ :: _ :: _ :: _ :: _ :: _ :: _ :: _ :: _ :: _ :: _ :: _ :: _)) (n := 114) cv_X2_54 (t_X0_goBy l _ _ _ V hV dn fb (dnS (A 0) off) hSA.2.1 hSA.2.2.1 a (by omega) hSA.2.2.2) dX2_tryHour_111 rfl rfl rfl ⟨by decide, by decide, rfl, rfl, hz.1, hz.2⟩ rfl rfl rfl (Nat.le_of_ble_eq_true rfl) rfl rfl rfl ?_
          refine g_if_ne (tgt := 121) (n := 117) dX2_tryHour_114 (by decide) rfl (fun c114 => ?_) (fun c114 => absurd c114 hfl)
          refine g_iconst (v := nI 0) (n := 122) dX2_tryHour_121 (by decide) rfl ?_
          refine g_istore (n := 124) dX2_tryHour_122 (by decide) rfl rfl ?_
          refine g_lsN (ls' := [_, _, _, _, _, _, _, _, _, _]) rfl ?_
          refine g_aload (n := 126) dX2_tryHour_124 rfl rfl ?_
          refine g_dup (n := 127) dX2_tryHour_126 rfl rfl ?_
          refine g_get (n := 130) fl_X2_47 dX2_tryHour_127 rfl rfl rfl ?_
          refine g_iload (n := 132) dX2_tryHour_130 rfl rfl ?_
          refine g_ior (n := 133) dX2_tryHour_132 rfl ?_
          refine g_put (n := 136) pf_X2_47 dX2_tryHour_133 rfl (Nat.le_of_ble_eq_true rfl) (fun _ => rfl) (fun _ => rfl) rfl ?_
          refine g_wN (w' := (_ :: _ :: _ :: _ :: _ :: _ :: _ :: _ :: _ :: _ :: _ :: _ :: _ :: _ :: _ :: _ :: _ :: _ :: _ :: _ :: _ :: _ :: _ :: _ :: _ :: _ :: _ :: _ :: _ :: _ :: _ :: _ :: _ :: _ :: _ :: _ :: _ :: _ :: _ :: _ :: _ :: _)) rfl ?_
          refine g_iload (n := 138) dX2_tryHour_136 rfl rfl ?_
          refine g_if_eq (tgt := 167) (n := 141) dX2_tryHour_138 (by decide) rfl (fun c138 => ?_) (fun c138 => absurd rfl c138)
          refine g_iinc (n := 170) dX2_tryHour_167 rfl rfl (by decide) rfl rfl ?_
          refine g_lsN (ls' := [_, _, _, _, _, _, _, _, _, _]) rfl ?_
          refine g_goto (tgt := 60) dX2_tryHour_170 (by decide) ?_
          rw [nI_dec]
          refine g_wN (w' := rq n fk (pu (pu A 1 (A 0)) 1 (upS V (A 0) off)) _ _ _ V dn fb N tl) rfl ?_
          refine ih _ (pu (pu A 1 (A 0)) 1 (upS V (A 0) off)) _ _ _ _ _ (by omega) hfk hAS hZ2 (fun A3 ra lo pr h3 hZ4 => ?_)
          have e5 := hQ A3 ra lo pr (fun j hj => (h3 j hj).trans (by unfold pu; rw [if_neg (by omega), if_neg (by omega)])) hZ4
          exact e5
      · rw [if_neg hpt] at hQ
        refine g_iload (n := 62) dX2_tryHour_60 rfl rfl ?_
        refine g_iload (n := 64) dX2_tryHour_62 rfl rfl ?_
        refine g_icmp_lt (tgt := 173) (n := 67) dX2_tryHour_64 (by decide) rfl (fun c64 => absurd c64 (nI_nlt (by omega) (by omega))) (fun c64 => ?_)
        refine g_iload (n := 69) dX2_tryHour_67 rfl rfl ?_
        refine g_iload_n (n := 70) dX2_tryHour_69 rfl rfl ?_
        refine g_callSNi (n := 73) cs_X2_62 (t_X8_isPart l _ _) dX2_tryHour_70 rfl rfl ⟨by decide, by decide, rfl, rfl, hz.1, hz.2⟩ rfl (Nat.le_of_ble_eq_true rfl) rfl ?_
        refine g_if_ne (tgt := 79) (n := 76) dX2_tryHour_73 (by decide) rfl (fun c73 => absurd (bI_0.mpr (Bool.eq_false_iff.mpr hpt)) c73) (fun c73 => ?_)
        refine g_goto (tgt := 167) dX2_tryHour_76 (by decide) ?_
        refine g_iinc (n := 170) dX2_tryHour_167 rfl rfl (by decide) rfl rfl ?_
        refine g_lsN (ls' := [_, _, _, _, _, _, _, _, _, _]) rfl ?_
        refine g_goto (tgt := 60) dX2_tryHour_170 (by decide) ?_
        rw [nI_dec]
        exact ih _ A _ _ _ _ _ (by omega) hfk hAS hZ hQ
set_option maxRecDepth 20000 in
set_option maxHeartbeats 1000000 in
theorem t_X2_tryHour_0 (l : Launch) (V : WT) (hV : okV V) (dn : Int32) (fb : Nat → Int32) (N : ST) (tl : List va_E) (n : Nat) (hn : 0 ≤ n) (hn5 : n ≤ 5) (hTH : 0 < n → TH l V dn fb N tl n 10 1) : TH l V dn fb N tl n 11 0 := by
  intro left key fk A ra lo pr a hl hkey hfk hZ hS ha
  refine con_of rfl rfl (Nat.le_of_ble_eq_true rfl) ?_
  refine g_lsN (ls' := [_, _, _, _, _, _, _, _, _, _]) rfl ?_
  by_cases hk : key < fk
  · by_cases hnh : n = 0
    · subst hnh
      refine g_iload (n := 2) dX2_tryHour_0 rfl rfl ?_
      refine g_aload_n (n := 3) dX2_tryHour_2 rfl rfl ?_
      refine g_get (n := 6) fl_X2_36 dX2_tryHour_3 rfl rfl rfl ?_
      refine g_icmp_lt (tgt := 10) (n := 9) dX2_tryHour_6 (by decide) rfl (fun c6 => ?_) (fun c6 => absurd (nI_lt hk (by omega)) c6)
      refine g_iload_n (n := 11) dX2_tryHour_10 rfl rfl ?_
      refine g_aload_n (n := 12) dX2_tryHour_11 rfl rfl ?_
      refine g_get (n := 15) fl_X2_31 dX2_tryHour_12 rfl rfl rfl ?_
      refine g_icmp_ge (tgt := 23) (n := 18) dX2_tryHour_15 (by decide) rfl (fun c15 => ?_) (fun c15 => absurd (nI_le (by omega) (by omega)) c15)
      refine g_aload_n (n := 24) dX2_tryHour_23 rfl rfl ?_
      refine g_iload (n := 26) dX2_tryHour_24 rfl rfl ?_
      refine g_put (n := 29) pf_X2_36 dX2_tryHour_26 rfl (Nat.le_of_ble_eq_true rfl) (fun _ => rfl) (fun _ => rfl) rfl ?_
      refine g_wN (w' := (_ :: _ :: _ :: _ :: _ :: _ :: _ :: _ :: _ :: _ :: _ :: _ :: _ :: _ :: _ :: _ :: _ :: _ :: _ :: _ :: _ :: _ :: _ :: _ :: _ :: _ :: _ :: _ :: _ :: _ :: _ :: _ :: _ :: _ :: _ :: _ :: _ :: _ :: _ :: _ :: _ :: _)) rfl ?_
      exact g_vret dX2_tryHour_29 rfl ⟨Nat.zero_le _, Nat.zero_le _⟩ ⟨rfl, A, ra, lo, pr, fun _ _ => rfl, hZ, by rw [show 0 - 0 = 0 from rfl, trH, if_pos hk]; rfl⟩
    · have e1 : n - 0 = n - 1 + 1 := by omega
      have e2 : trH V (n - 0) (A 0) left key fk = lpO (if n - 1 = 0 then left else 0) (fun off fk => if ptB off left then (if flN V (dnS (A 0) off) (vnb V) = 0 then trH V (n - 1) (upS V (A 0) off) (left - off) (key + ohN (left - off) 6) fk else fk) else fk) (left + 1) fk := by rw [e1, trH, if_pos hk]
      rw [e2]
      by_cases hlast : n = 1
      · rw [if_pos (show n - 1 = 0 by omega)]
        refine g_iload (n := 2) dX2_tryHour_0 rfl rfl ?_
        refine g_aload_n (n := 3) dX2_tryHour_2 rfl rfl ?_
        refine g_get (n := 6) fl_X2_36 dX2_tryHour_3 rfl rfl rfl ?_
        refine g_icmp_lt (tgt := 10) (n := 9) dX2_tryHour_6 (by decide) rfl (fun c6 => ?_) (fun c6 => absurd (nI_lt hk (by omega)) c6)
        refine g_iload_n (n := 11) dX2_tryHour_10 rfl rfl ?_
        refine g_aload_n (n := 12) dX2_tryHour_11 rfl rfl ?_
        refine g_get (n := 15) fl_X2_31 dX2_tryHour_12 rfl rfl rfl ?_
        refine g_icmp_ge (tgt := 23) (n := 18) dX2_tryHour_15 (by decide) rfl (fun c15 => absurd c15 (nI_ge (by omega) (by omega))) (fun c15 => ?_)
        refine g_iload_n (n := 19) dX2_tryHour_18 rfl rfl ?_
        refine g_iconst (v := nI 5) (n := 20) dX2_tryHour_19 (by decide) rfl ?_
        refine g_icmp_lt (tgt := 30) (n := 23) dX2_tryHour_20 (by decide) rfl (fun c20 => ?_) (fun c20 => absurd (by decide) c20)
        refine g_aload_n (n := 31) dX2_tryHour_30 rfl rfl ?_
        refine g_get (n := 34) fl_X2_20 dX2_tryHour_31 rfl rfl rfl ?_
        refine g_iload_n (n := 35) dX2_tryHour_34 rfl rfl ?_
        refine g_iconst (v := nI 1) (n := 36) dX2_tryHour_35 (by decide) rfl ?_
        refine g_iaddN (n := 37) dX2_tryHour_36 rfl ?_
        refine g_aaldN (n := 38) dX2_tryHour_37 rfl rfl (by decide) (by omega) rfl ?_
        refine g_astore (n := 40) dX2_tryHour_38 (by decide) rfl rfl ?_
        refine g_lsN (ls' := [_, _, _, _, _, _, _, _, _, _]) rfl ?_
        refine g_iload_n (n := 41) dX2_tryHour_40 rfl rfl ?_
        refine g_aload_n (n := 42) dX2_tryHour_41 rfl rfl ?_
        refine g_get (n := 45) fl_X2_31 dX2_tryHour_42 rfl rfl rfl ?_
        refine g_iconst (v := nI 1) (n := 46) dX2_tryHour_45 (by decide) rfl ?_
        refine g_isubN (n := 47) dX2_tryHour_46 rfl (by omega) ?_
        refine g_icmp_ne (tgt := 54) (n := 50) dX2_tryHour_47 (by decide) rfl (fun c47 => absurd (show nI 0 = nI (n - 1) by rw [show n - 1 = 0 by omega]) c47) (fun c47 => ?_)
        refine g_iload_n (n := 51) dX2_tryHour_50 rfl rfl ?_
        refine g_goto (tgt := 55) dX2_tryHour_51 (by decide) ?_
        refine g_istore (n := 57) dX2_tryHour_55 (by decide) rfl rfl ?_
        refine g_lsN (ls' := [_, _, _, _, _, _, _, _, _, _]) rfl ?_
        refine g_iload_n (n := 58) dX2_tryHour_57 rfl rfl ?_
        refine g_istore (n := 60) dX2_tryHour_58 (by decide) rfl rfl ?_
        refine g_lsN (ls' := [_, _, _, _, _, _, _, _, _, _]) rfl ?_
        refine g_lsN (ls' := [_, _, _, _, _, _, _, some (.int (nI (left + 1) - nI 1)), _, _]) (by rw [nI_sub1 (by omega)]; rfl) ?_
        exact lp_X2_tryHour_0 l _ ⟨Nat.zero_le _, Nat.zero_le _⟩ _ V hV dn fb N tl n (by omega) hn5 (hTH (by omega)) left key left hl hkey (by omega) (A 0) a (by omega) hS (left + 1) fk A _ _ _ _ _ (Nat.le_refl _) hfk rfl hZ (fun A2 ra lo pr h2 hZ2 => ⟨rfl, A2, ra, lo, pr, h2, hZ2, rfl⟩)
      · rw [if_neg (show ¬ n - 1 = 0 by omega)]
        refine g_iload (n := 2) dX2_tryHour_0 rfl rfl ?_
        refine g_aload_n (n := 3) dX2_tryHour_2 rfl rfl ?_
        refine g_get (n := 6) fl_X2_36 dX2_tryHour_3 rfl rfl rfl ?_
        refine g_icmp_lt (tgt := 10) (n := 9) dX2_tryHour_6 (by decide) rfl (fun c6 => ?_) (fun c6 => absurd (nI_lt hk (by omega)) c6)
        refine g_iload_n (n := 11) dX2_tryHour_10 rfl rfl ?_
        refine g_aload_n (n := 12) dX2_tryHour_11 rfl rfl ?_
        refine g_get (n := 15) fl_X2_31 dX2_tryHour_12 rfl rfl rfl ?_
        refine g_icmp_ge (tgt := 23) (n := 18) dX2_tryHour_15 (by decide) rfl (fun c15 => absurd c15 (nI_ge (by omega) (by omega))) (fun c15 => ?_)
        refine g_iload_n (n := 19) dX2_tryHour_18 rfl rfl ?_
        refine g_iconst (v := nI 5) (n := 20) dX2_tryHour_19 (by decide) rfl ?_
        refine g_icmp_lt (tgt := 30) (n := 23) dX2_tryHour_20 (by decide) rfl (fun c20 => ?_) (fun c20 => absurd (by decide) c20)
        refine g_aload_n (n := 31) dX2_tryHour_30 rfl rfl ?_
        refine g_get (n := 34) fl_X2_20 dX2_tryHour_31 rfl rfl rfl ?_
        refine g_iload_n (n := 35) dX2_tryHour_34 rfl rfl ?_
        refine g_iconst (v := nI 1) (n := 36) dX2_tryHour_35 (by decide) rfl ?_
        refine g_iaddN (n := 37) dX2_tryHour_36 rfl ?_
        refine g_aaldN (n := 38) dX2_tryHour_37 rfl rfl (by decide) (by omega) rfl ?_
        refine g_astore (n := 40) dX2_tryHour_38 (by decide) rfl rfl ?_
        refine g_lsN (ls' := [_, _, _, _, _, _, _, _, _, _]) rfl ?_
        refine g_iload_n (n := 41) dX2_tryHour_40 rfl rfl ?_
        refine g_aload_n (n := 42) dX2_tryHour_41 rfl rfl ?_
        refine g_get (n := 45) fl_X2_31 dX2_tryHour_42 rfl rfl rfl ?_
        refine g_iconst (v := nI 1) (n := 46) dX2_tryHour_45 (by decide) rfl ?_
        refine g_isubN (n := 47) dX2_tryHour_46 rfl (by omega) ?_
        refine g_icmp_ne (tgt := 54) (n := 50) dX2_tryHour_47 (by decide) rfl (fun c47 => ?_) (fun c47 => absurd c47 (fun x => by have := (nI_eq (by omega) (by omega)).mp x; omega))
        refine g_iconst (v := nI 0) (n := 55) dX2_tryHour_54 (by decide) rfl ?_
        refine g_istore (n := 57) dX2_tryHour_55 (by decide) rfl rfl ?_
        refine g_lsN (ls' := [_, _, _, _, _, _, _, _, _, _]) rfl ?_
        refine g_iload_n (n := 58) dX2_tryHour_57 rfl rfl ?_
        refine g_istore (n := 60) dX2_tryHour_58 (by decide) rfl rfl ?_
        refine g_lsN (ls' := [_, _, _, _, _, _, _, _, _, _]) rfl ?_
        refine g_lsN (ls' := [_, _, _, _, _, _, _, some (.int (nI (left + 1) - nI 1)), _, _]) (by rw [nI_sub1 (by omega)]; rfl) ?_
        exact lp_X2_tryHour_0 l _ ⟨Nat.zero_le _, Nat.zero_le _⟩ _ V hV dn fb N tl n (by omega) hn5 (hTH (by omega)) left key 0 hl hkey (by omega) (A 0) a (by omega) hS (left + 1) fk A _ _ _ _ _ (Nat.le_refl _) hfk rfl hZ (fun A2 ra lo pr h2 hZ2 => ⟨rfl, A2, ra, lo, pr, h2, hZ2, rfl⟩)
  · have e2 : trH V (n - 0) (A 0) left key fk = fk := by
      cases n - 0 with
      | zero => rw [trH, if_neg hk]
      | succ k => rw [trH, if_neg hk]
    rw [e2]
    refine g_iload (n := 2) dX2_tryHour_0 rfl rfl ?_
    refine g_aload_n (n := 3) dX2_tryHour_2 rfl rfl ?_
    refine g_get (n := 6) fl_X2_36 dX2_tryHour_3 rfl rfl rfl ?_
    refine g_icmp_lt (tgt := 10) (n := 9) dX2_tryHour_6 (by decide) rfl (fun c6 => absurd c6 (nI_nlt (by omega) (by omega))) (fun c6 => ?_)
    exact g_vret dX2_tryHour_9 rfl ⟨Nat.zero_le _, Nat.zero_le _⟩ ⟨rfl, A, _, _, _, fun _ _ => rfl, hZ, rfl⟩

/-! 71.tables2: what the tables and the start give -/
theorem big_mem {w : Cond} (h1 : w ∈ lw_tbl) (h2 : goodWord w = true) : w ∈ big := List.mem_filter.mpr ⟨h1, h2⟩
theorem kl_L_7 : Cond.classLink RL 7 RX8 ∈ big := big_mem (by decide +kernel) (by decide +kernel)
theorem kl_L_10 : Cond.classLink RL 10 RX9 ∈ big := big_mem (by decide +kernel) (by decide +kernel)
theorem ci_L_9 : CI RL 9 M_X8_init 0 := ⟨cb_X8_init, big_mem (by decide +kernel) (by decide +kernel), big_mem (by decide +kernel) (by decide +kernel), rfl, rfl⟩
theorem ci_L_12 : CI RL 12 M_X9_init 0 := ⟨cb_X9_init, big_mem (by decide +kernel) (by decide +kernel), big_mem (by decide +kernel) (by decide +kernel), rfl, rfl⟩
theorem nest_mem : ∀ q ∈ nestW, Cond.methodLinkNest q.1 q.2.1 q.2.2.1 q.2.2.2 ∈ lw_tbl := by decide +kernel
theorem nest_tab : ∀ q ∈ nestW, (Cond.methodLinkNest q.1 q.2.1 q.2.2.1 q.2.2.2).onTables = true := by decide +kernel
theorem kb_of {s : State} {b : Nat} (hts : ∀ w ∈ lw_tbl, w.before #[Value.ref b] s = true) : ∃ (D : va_G) (ct : Nat → Nat), KB D ct s := by
  have htb : ∀ w ∈ big, w.before #[Value.ref b] s = true := fun w hw => hts w (List.mem_filter.mp hw).1
  have h0 : ∀ c : Nat, ∃ d : ClassId × (Nat → Nat), ∀ q, vwCl[c]? = some q → u_Kn s q.1 q.2.1 q.2.2 d.1 d.2 := by
    intro c
    have key : ∀ {C : String} {T : u_T} {N : Nat}, (∀ w ∈ u_ws C T N, w ∈ big) → Cond.instantiable C N ∈ big → vwCl[c]? = some (C, T, N) → ∃ d : ClassId × (Nat → Nat), ∀ q, vwCl[c]? = some q → u_Kn s q.1 q.2.1 q.2.2 d.1 d.2 := by
      intro C T N hu hi hc
      obtain ⟨cC, iS, h⟩ := u_known htb hu (htb _ hi)
      refine ⟨(cC, iS), fun q hq => ?_⟩
      rw [hc] at hq
      cases hq
      exact h
    rcases Nat.lt_or_ge c 10 with h | h
    · rcases (show c = 0 ∨ c = 1 ∨ c = 2 ∨ c = 3 ∨ c = 4 ∨ c = 5 ∨ c = 6 ∨ c = 7 ∨ c = 8 ∨ c = 9 by omega) with rfl | rfl | rfl | rfl | rfl | rfl | rfl | rfl | rfl | rfl
      · exact key us_X0 ki_X0 rfl
      · exact key us_X1 ki_X1 rfl
      · exact key us_X2 ki_X2 rfl
      · exact key us_X3 ki_X3 rfl
      · exact key us_X4 ki_X4 rfl
      · exact key us_X5 ki_X5 rfl
      · exact key us_X6 ki_X6 rfl
      · exact key us_X7 ki_X7 rfl
      · exact key us_X8 ki_X8 rfl
      · exact key us_X9 ki_X9 rfl
    · refine ⟨(0, fun _ => 0), fun q hq => ?_⟩
      have := (List.getElem?_eq_some_iff.mp hq).1
      exact absurd this (Nat.not_lt.mpr h)
  obtain ⟨d, hd⟩ := Classical.axiomOfChoice h0
  obtain ⟨c0, k0, m0, f1, f2, f3⟩ := Cond.arrayClass_spec (htb _ ka_int)
  obtain ⟨c1, k1, m1, g1, g2, g3⟩ := Cond.arrayClass_spec (htb _ ka_char)
  have hao : (Cond.arrayOver (.object "ButtressWall$State")).before #[Value.ref b] s = true := hts _ (by decide +kernel)
  obtain ⟨m2, c2, k2, n1, n2, n3, n4, n5⟩ := Cond.arrayOver_spec hao
  refine ⟨(fun c => (d c).1, fun c => (d c).2), fun k => if k = 0 then c0 else if k = 1 then c1 else c2, ⟨fun c q hq => hd c q hq, fun k q hk => ?_⟩, fun q hq => va_tabs (nest_tab q hq) rfl (hts _ (nest_mem q hq)), va_AO.of hao⟩
  rcases Nat.lt_or_ge k 3 with h | h
  · rcases (show k = 0 ∨ k = 1 ∨ k = 2 by omega) with rfl | rfl | rfl
    · cases hk
      exact ⟨fun n z => ⟨fun k h => (by cases h), k0, f2, m0, f3⟩, f1⟩
    · cases hk
      exact ⟨fun n z => ⟨fun k h => (by cases h), k1, g2, m1, g3⟩, g1⟩
    · cases hk
      exact ⟨fun n z => ⟨fun k h => (by cases h), k2, n3, m2, n4⟩, k2, m2, n3, n4, n1, n5⟩
  · have := (List.getElem?_eq_some_iff.mp hk).1
    exact absurd this (Nat.not_lt.mpr h)
abbrev tmS : Term := .string "ButtressWall" 72
abbrev tmV : Term := .field tmS "java/lang/String" "value" "[B"
theorem ez_of {s : State} {b : Nat} (hts : ∀ w ∈ lw_tbl, w.before #[Value.ref b] s = true) (hg : (Jvm.Cond.and given_1 narrow_1).before #[Value.ref b] s = true) : EZ s (Ah s) := by
  have hs := flat_of_before _ hg
  have hA : ∀ a : Nat, a < s.heap.size → ¬ Ah s a := fun a h => Nat.not_le.mpr h
  have hex : (Cond.exactly tmS "java/lang/String").before #[Value.ref b] s = true := hs _ (by decide +kernel)
  have hco : (Cond.eq (.field tmS "java/lang/String" "coder" "B") (.int 0)).before #[Value.ref b] s = true := hs _ (by decide +kernel)
  have har : (Cond.arrayOf tmV .byte).before #[Value.ref b] s = true := hs _ (by decide +kernel)
  have hle : (Cond.eq (.length tmV) (.int (Int32.ofNat 107))).before #[Value.ref b] s = true := hs _ (by decide +kernel)
  have hel : ∀ j : Nat, j < 107 → (Cond.eq (.elem tmV (.int (Int32.ofNat j))) (.int (nI (tz j)))).before #[Value.ref b] s = true := by
    intro j hj
    exact hs _ ((by decide +kernel : ∀ j, j < 107 → Cond.eq (.elem tmV (.int (Int32.ofNat j))) (.int (nI (tz j))) ∈ flatC (Jvm.Cond.and given_1 narrow_1)) j hj)
  have hz1 : (Cond.eq (.static "java/lang/String" "COMPACT_STRINGS" "Z") (.int 1)).before #[Value.ref b] s = true := hs _ (by decide +kernel)
  have hz2 : (Cond.isRef (.static "jdk/internal/util/Preconditions" "SIOOBE_FORMATTER" "Ljava/util/function/BiFunction;")).before #[Value.ref b] s = true := hs _ (by decide +kernel)
  obtain ⟨a, c, cA, kA, q1, q2, q3, q4, q5, q6, -⟩ := Cond.exactly_spec (args := #[Value.ref b]) (first := s) (o := none) (s := s) (idx := []) (t := tmS) (cls := "java/lang/String") hex
  obtain ⟨t, ht, hT⟩ := va_Tof (f := fun j => .int (nI (tz j))) (A := Ah s) (by decide) har (va_eqt hle) (fun j hj => va_eqt (hel j hj)) hA
  exact ⟨a, t, vk_R.of (A := #[Value.ref b]) (hts _ (by decide +kernel)) q1, ⟨cA, q3, q5, by rw [q6]; exact q2, hA a (Array.getElem?_eq_some_iff.mp q3).1⟩, vk_OFof q1 (va_eqt hco) hA, vk_OFof q1 ht hA, hT, va_Zof (hts _ (by decide +kernel)) (hts _ (by decide +kernel)) (va_eqt hz1) hA, va_Zqof (hts _ (by decide +kernel)) (hts _ (by decide +kernel)) hz2 hA⟩

/-! 11.mleaf: the reference: its world, its leaves -/
abbrev MR : Type := (Nat → Int32) × Int32 × (Nat → Int32) × (Nat → Int32) × Int32 × (Nat → Int32) × Int32 × (Nat → Int32) × Int32 × Int32 × (Nat → Int32)
/-- the reference's cells: e: text, typed, draft, begun, downs, past, known, images, kept, at, aside -/
abbrev mw (e : MR) (to s : Nat → Int32) : List va_E := [.inr (9, [.ref 1, .int e.2.1, .ref 2, .ref 3, .ref 4, .int e.2.2.2.2.1, .ref 5, .ref 6, .int e.2.2.2.2.2.2.1, .ref 7, .int e.2.2.2.2.2.2.2.2.1, .int e.2.2.2.2.2.2.2.2.2.1, .ref 8]), .inl (0, 200, .inl e.1), .inl (0, 38, .inl to), .inl (0, 38, .inl e.2.2.1), .inl (0, 6, .inl e.2.2.2.1), .inl (0, 23, .inl s), .inl (0, 184, .inl e.2.2.2.2.2.1), .inl (0, 46, .inl e.2.2.2.2.2.2.2.1), .inl (0, 23, .inl e.2.2.2.2.2.2.2.2.2.2)]
theorem okT {P : Bool} (h : P = true) : some (Value.int (nI 1)) = some (Value.int (bI P)) := by rw [h]; rfl
theorem okF {P : Bool} (h : P = false) : some (Value.int (nI 0)) = some (Value.int (bI P)) := by rw [h]; rfl
theorem loopN {P : Nat → Prop} (e : Nat) (hx : P e) (hs : ∀ i, i < e → P (i + 1) → P i) : ∀ i, i ≤ e → P i := by
  have h : ∀ k i, i + k = e → P i := by
    intro k
    induction k with
    | zero => intro i hi; have : i = e := by omega
              subst this; exact hx
    | succ k ih => intro i hi; exact hs i (by omega) (ih (i + 1) (by omega))
  exact fun i hi => h (e - i) i (by omega)

set_option maxRecDepth 20000 in
theorem t_X9_in (l : Launch) (v a b : Int32) : Fn l M_X9_in [.int v, .int a, .int b] [] (some (.int (bI (inB v a b)))) [] := by
  refine con_of rfl rfl (Nat.le_of_ble_eq_true rfl) ?_
  refine g_lsN (ls' := [_, _, _]) rfl ?_
  refine g_iload_n (n := 1) dX9_in_0 rfl rfl ?_
  refine g_iload_n (n := 2) dX9_in_1 rfl rfl ?_
  refine g_icmp_lt (tgt := 14) (n := 5) dX9_in_2 (by decide) rfl (fun c2 => ?_) (fun c2 => ?_)
  ·
    have hF : inB v a b = false := by simp only [inB, decide_eq_false (Int32.not_le.mpr c2), Bool.false_and]
    refine g_iconst (v := nI 0) (n := 15) dX9_in_14 (by decide) rfl ?_
    exact g_iret (ty := .boolean) dX9_in_15 rfl (by first | exact bI_nar _ | decide) ⟨Nat.zero_le _, Nat.zero_le _⟩ ⟨by first | exact okT hT | exact okF hF, rfl⟩
  ·
    refine g_iload_n (n := 6) dX9_in_5 rfl rfl ?_
    refine g_iload_n (n := 7) dX9_in_6 rfl rfl ?_
    refine g_icmp_gt (tgt := 14) (n := 10) dX9_in_7 (by decide) rfl (fun c7 => ?_) (fun c7 => ?_)
    ·
      have hF : inB v a b = false := by simp only [inB, decide_eq_false (Int32.not_le.mpr c7), Bool.and_false]
      refine g_iconst (v := nI 0) (n := 15) dX9_in_14 (by decide) rfl ?_
      exact g_iret (ty := .boolean) dX9_in_15 rfl (by first | exact bI_nar _ | decide) ⟨Nat.zero_le _, Nat.zero_le _⟩ ⟨by first | exact okT hT | exact okF hF, rfl⟩
    ·
      have hT : inB v a b = true := by simp only [inB, decide_eq_true (Int32.not_lt.mp c2), decide_eq_true (Int32.not_lt.mp c7), Bool.and_true]
      refine g_iconst (v := nI 1) (n := 11) dX9_in_10 (by decide) rfl ?_
      refine g_goto (tgt := 15) dX9_in_11 (by decide) ?_
      exact g_iret (ty := .boolean) dX9_in_15 rfl (by first | exact bI_nar _ | decide) ⟨Nat.zero_le _, Nat.zero_le _⟩ ⟨by first | exact okT hT | exact okF hF, rfl⟩
set_option maxRecDepth 20000 in
theorem t_X9_has (l : Launch) (x k : Int32) : Fn l M_X9_has [.int x, .int k] [] (some (.int (bI (hb x k)))) [] := by
  refine con_of rfl rfl (Nat.le_of_ble_eq_true rfl) ?_
  refine g_lsN (ls' := [_, _]) rfl ?_
  refine g_iload_n (n := 1) dX9_has_0 rfl rfl ?_
  refine g_iload_n (n := 2) dX9_has_1 rfl rfl ?_
  refine g_ishr (n := 3) dX9_has_2 rfl ?_
  refine g_iconst (v := nI 1) (n := 4) dX9_has_3 (by decide) rfl ?_
  refine g_iand (n := 5) dX9_has_4 rfl ?_
  refine g_iconst (v := nI 1) (n := 6) dX9_has_5 (by decide) rfl ?_
  refine g_icmp_ne (tgt := 13) (n := 9) dX9_has_6 (by decide) rfl (fun c6 => ?_) (fun c6 => ?_)
  ·
    have hF : hb x k = false := decide_eq_false c6
    refine g_iconst (v := nI 0) (n := 14) dX9_has_13 (by decide) rfl ?_
    exact g_iret (ty := .boolean) dX9_has_14 rfl (by first | exact bI_nar _ | decide) ⟨Nat.zero_le _, Nat.zero_le _⟩ ⟨by first | exact okT hT | exact okF hF, rfl⟩
  ·
    have hT : hb x k = true := decide_eq_true c6
    refine g_iconst (v := nI 1) (n := 10) dX9_has_9 (by decide) rfl ?_
    refine g_goto (tgt := 14) dX9_has_10 (by decide) ?_
    exact g_iret (ty := .boolean) dX9_has_14 rfl (by first | exact bI_nar _ | decide) ⟨Nat.zero_le _, Nat.zero_le _⟩ ⟨by first | exact okT hT | exact okF hF, rfl⟩
/-- how many of the lowest n bits are set -/
def on (x : Int32) : Nat → Int32
  | 0 => nI 0
  | k + 1 => on x k + (x >>> (nI k &&& 31) &&& nI 1)
set_option maxRecDepth 20000 in
theorem lp_X9_ones (l : Launch) (z : Nat × Nat × Nat) (hz : z.2.1 ≤ 0 ∧ z.2.2 ≤ 0) (Q : Option Value → List va_E → Prop) (x : Int32) (hQ : Q (some (.int (on x 8))) []) : ∀ k, k ≤ 8 → G l M_X9_ones z Q 4 [some (.int x), some (.int (on x k)), some (.int (nI k))] [] [] := by
  refine loopN 8 ?_ (fun k hk ih => ?_)
  ·
    refine g_iload_n (n := 5) dX9_ones_4 rfl rfl ?_
    refine g_bipush (v := nI 8) (n := 7) dX9_ones_5 (by decide) rfl ?_
    refine g_icmp_ge (tgt := 24) (n := 10) dX9_ones_7 (by decide) rfl (fun c7 => ?_) (fun c7 => absurd (nI_le (Nat.le_refl 8) (by decide)) c7)
    refine g_iload_n (n := 25) dX9_ones_24 rfl rfl ?_
    exact g_iret (ty := .int) dX9_ones_25 rfl rfl hz hQ
  ·
    refine g_iload_n (n := 5) dX9_ones_4 rfl rfl ?_
    refine g_bipush (v := nI 8) (n := 7) dX9_ones_5 (by decide) rfl ?_
    refine g_icmp_ge (tgt := 24) (n := 10) dX9_ones_7 (by decide) rfl (fun c7 => absurd c7 (nI_ge hk (by decide))) (fun c7 => ?_)
    refine g_iload_n (n := 11) dX9_ones_10 rfl rfl ?_
    refine g_iload_n (n := 12) dX9_ones_11 rfl rfl ?_
    refine g_iload_n (n := 13) dX9_ones_12 rfl rfl ?_
    refine g_ishr (n := 14) dX9_ones_13 rfl ?_
    refine g_iconst (v := nI 1) (n := 15) dX9_ones_14 (by decide) rfl ?_
    refine g_iand (n := 16) dX9_ones_15 rfl ?_
    refine g_iadd (n := 17) dX9_ones_16 rfl ?_
    refine g_istore_n (n := 18) dX9_ones_17 (by decide) rfl rfl ?_
    refine g_lsN (ls' := [_, _, _]) rfl ?_
    refine g_iincN (k := 1) (n := 21) dX9_ones_18 rfl (by decide) rfl rfl ?_
    refine g_lsN (ls' := [_, _, _]) rfl ?_
    refine g_goto (tgt := 4) dX9_ones_21 (by decide) ?_
    exact ih
set_option maxRecDepth 20000 in
theorem t_X9_ones (l : Launch) (x : Int32) : Fn l M_X9_ones [.int x] [] (some (.int (on x 8))) [] := by
  refine con_of rfl rfl (Nat.le_of_ble_eq_true rfl) ?_
  refine g_lsN (ls' := [_, _, _]) rfl ?_
  refine g_iconst (v := nI 0) (n := 1) dX9_ones_0 (by decide) rfl ?_
  refine g_istore_n (n := 2) dX9_ones_1 (by decide) rfl rfl ?_
  refine g_lsN (ls' := [_, _, _]) rfl ?_
  refine g_iconst (v := nI 0) (n := 3) dX9_ones_2 (by decide) rfl ?_
  refine g_istore_n (n := 4) dX9_ones_3 (by decide) rfl rfl ?_
  refine g_lsN (ls' := [_, _, _]) rfl ?_
  exact lp_X9_ones l _ ⟨Nat.zero_le _, Nat.zero_le _⟩ _ x ⟨rfl, rfl⟩ 0 (by decide)
/-! a wall told: bays, buttresses, carts, their bits, thrusts, patience, kinds, strengths, knees -/
abbrev WT : Type := Nat × Nat × Nat × Int32 × (Nat → Int32) × (Nat → Int32) × (Nat → Int32) × (Nat → Int32) × (Nat → Int32)
abbrev vnb (V : WT) : Nat := V.1
abbrev vnf (V : WT) : Nat := V.2.1
abbrev vnc (V : WT) : Nat := V.2.2.1
abbrev vca (V : WT) : Int32 := V.2.2.2.1
abbrev vth (V : WT) : Nat → Int32 := V.2.2.2.2.1
abbrev vpa (V : WT) : Nat → Int32 := V.2.2.2.2.2.1
abbrev vki (V : WT) : Nat → Int32 := V.2.2.2.2.2.2.1
abbrev vsg (V : WT) : Nat → Int32 := V.2.2.2.2.2.2.2.1
abbrev vkn (V : WT) : Nat → Int32 := V.2.2.2.2.2.2.2.2
/-! how things stand: hour, who is up, what has fallen, how tired, where, for how long unheld -/
abbrev ST : Type := Int32 × Int32 × Int32 × (Nat → Int32) × (Nat → Int32) × (Nat → Int32)
abbrev sho (S : ST) : Int32 := S.1
abbrev sup (S : ST) : Int32 := S.2.1
abbrev sfa (S : ST) : Int32 := S.2.2.1
abbrev sti (S : ST) : Nat → Int32 := S.2.2.2.1
abbrev sbo (S : ST) : Nat → Int32 := S.2.2.2.2.1
abbrev sun (S : ST) : Nat → Int32 := S.2.2.2.2.2
def tk (V : WT) : Nat → Int32 := fun k => if k = 0 then nI (vnb V) else if k = 1 then nI (vnf V) else if k = 2 then nI (vnc V) else if k = 3 then vca V else if k < 12 then vth V (k - 4) else if k < 20 then vpa V (k - 12) else if k < 26 then vki V (k - 20) else if k < 32 then vsg V (k - 26) else vkn V (k - 32)
def pk (S : ST) : Nat → Int32 := fun k => if k = 0 then sho S else if k = 1 then sup S else if k = 2 then sfa S else if k < 9 then sti S (k - 3) else if k < 15 then sbo S (k - 9) else sun S (k - 15)
theorem tk_0 (V : WT) : tk V 0 = nI (vnb V) := rfl
theorem tk_1 (V : WT) : tk V 1 = nI (vnf V) := rfl
theorem tk_2 (V : WT) : tk V 2 = nI (vnc V) := rfl
theorem tk_3 (V : WT) : tk V 3 = vca V := rfl
theorem tk_th (V : WT) {b : Nat} (h : b < 8) : tk V (4 + b) = vth V b := by
  unfold tk
  rw [if_neg (by omega), if_neg (by omega), if_neg (by omega), if_neg (by omega), if_pos (by omega), Nat.add_sub_cancel_left]
theorem tk_pa (V : WT) {b : Nat} (h : b < 8) : tk V (12 + b) = vpa V b := by
  unfold tk
  rw [if_neg (by omega), if_neg (by omega), if_neg (by omega), if_neg (by omega), if_neg (by omega), if_pos (by omega), Nat.add_sub_cancel_left]
theorem tk_ki (V : WT) {f : Nat} (h : f < 6) : tk V (20 + f) = vki V f := by
  unfold tk
  rw [if_neg (by omega), if_neg (by omega), if_neg (by omega), if_neg (by omega), if_neg (by omega), if_neg (by omega), if_pos (by omega), Nat.add_sub_cancel_left]
theorem tk_sg (V : WT) {f : Nat} (h : f < 6) : tk V (26 + f) = vsg V f := by
  unfold tk
  rw [if_neg (by omega), if_neg (by omega), if_neg (by omega), if_neg (by omega), if_neg (by omega), if_neg (by omega), if_neg (by omega), if_pos (by omega), Nat.add_sub_cancel_left]
theorem tk_kn (V : WT) {f : Nat} (h : f < 6) : tk V (32 + f) = vkn V f := by
  unfold tk
  rw [if_neg (by omega), if_neg (by omega), if_neg (by omega), if_neg (by omega), if_neg (by omega), if_neg (by omega), if_neg (by omega), if_neg (by omega), Nat.add_sub_cancel_left]
theorem sk_0 (S : ST) : pk S 0 = sho S := rfl
theorem sk_1 (S : ST) : pk S 1 = sup S := rfl
theorem sk_2 (S : ST) : pk S 2 = sfa S := rfl
theorem sk_ti (S : ST) {f : Nat} (h : f < 6) : pk S (3 + f) = sti S f := by
  unfold pk
  rw [if_neg (by omega), if_neg (by omega), if_neg (by omega), if_pos (by omega), Nat.add_sub_cancel_left]
theorem sk_bo (S : ST) {f : Nat} (h : f < 6) : pk S (9 + f) = sbo S f := by
  unfold pk
  rw [if_neg (by omega), if_neg (by omega), if_neg (by omega), if_neg (by omega), if_pos (by omega), Nat.add_sub_cancel_left]
theorem sk_un (S : ST) {b : Nat} (h : b < 8) : pk S (15 + b) = sun S b := by
  unfold pk
  rw [if_neg (by omega), if_neg (by omega), if_neg (by omega), if_neg (by omega), if_neg (by omega), Nat.add_sub_cancel_left]
theorem sk_up (h u f u2 : Int32) (ti bo un : Nat → Int32) : upd (pk (h, u, f, ti, bo, un)) 1 u2 = pk (h, u2, f, ti, bo, un) := by
  funext k; unfold upd pk; by_cases h1 : k = 1 <;> simp [h1]
theorem sk_fa (h u f f2 : Int32) (ti bo un : Nat → Int32) : upd (pk (h, u, f, ti, bo, un)) 2 f2 = pk (h, u, f2, ti, bo, un) := by
  funext k; unfold upd pk; by_cases h1 : k = 2 <;> simp [h1]
theorem sk_ho (h u f h2 : Int32) (ti bo un : Nat → Int32) : upd (pk (h, u, f, ti, bo, un)) 0 h2 = pk (h2, u, f, ti, bo, un) := by
  funext k; unfold upd pk; by_cases h1 : k = 0 <;> simp [h1]
theorem sk_uti (h u f x : Int32) (ti bo un : Nat → Int32) {j : Nat} (hj : j < 6) : upd (pk (h, u, f, ti, bo, un)) (3 + j) x = pk (h, u, f, upd ti j x, bo, un) := by
  funext k
  unfold upd pk
  by_cases h1 : k = 3 + j
  · subst h1
    rw [if_pos rfl, if_neg (by omega), if_neg (by omega), if_neg (by omega), if_pos (by omega)]
    show x = if 3 + j - 3 = j then x else _
    rw [if_pos (by omega)]
  · rw [if_neg h1]
    by_cases h2 : k < 9
    · simp only [h2, if_true]
      by_cases h3 : k < 3
      · rcases (show k = 0 ∨ k = 1 ∨ k = 2 by omega) with rfl | rfl | rfl <;> rfl
      · show _ = if k = 0 then _ else if k = 1 then _ else if k = 2 then _ else if k - 3 = j then x else ti (k - 3)
        rw [if_neg (show ¬ k - 3 = j by omega)]
    · simp only [h2, if_false]
theorem sk_ubo (h u f x : Int32) (ti bo un : Nat → Int32) {j : Nat} (hj : j < 6) : upd (pk (h, u, f, ti, bo, un)) (9 + j) x = pk (h, u, f, ti, upd bo j x, un) := by
  funext k
  unfold upd pk
  by_cases h1 : k = 9 + j
  · subst h1
    rw [if_pos rfl, if_neg (by omega), if_neg (by omega), if_neg (by omega), if_neg (by omega), if_pos (by omega)]
    show x = if 9 + j - 9 = j then x else _
    rw [if_pos (by omega)]
  · rw [if_neg h1]
    by_cases h2 : k < 9
    · simp only [h2, if_true]
    · simp only [h2, if_false]
      show _ = if k = 0 then _ else if k = 1 then _ else if k = 2 then _ else if k < 15 then (if k - 9 = j then x else bo (k - 9)) else _
      rw [if_neg (show ¬ k - 9 = j by omega)]
theorem sk_uun (h u f x : Int32) (ti bo un : Nat → Int32) {j : Nat} (hj : j < 8) : upd (pk (h, u, f, ti, bo, un)) (15 + j) x = pk (h, u, f, ti, bo, upd un j x) := by
  funext k
  unfold upd pk
  by_cases h1 : k = 15 + j
  · subst h1
    rw [if_pos rfl, if_neg (by omega), if_neg (by omega), if_neg (by omega), if_neg (by omega), if_neg (by omega)]
    show x = if 15 + j - 15 = j then x else _
    rw [if_pos (by omega)]
  · rw [if_neg h1]
    by_cases h2 : k < 15
    · by_cases h3 : k < 9
      · simp only [h3, if_true]
      · simp only [h2, h3, if_true, if_false]
    · simp only [h2, show ¬ k < 9 by omega, if_false]
      show _ = if k = 0 then _ else if k = 1 then _ else if k = 2 then _ else (if k - 15 = j then x else un (k - 15))
      rw [if_neg (show ¬ k - 15 = j by omega)]
/-- limits of a wall that is told -/
def okV (V : WT) : Prop := vnb V ≤ 8 ∧ vnf V ≤ 6 ∧ vnc V ≤ 12


/-! 11.mleaf: the reference: its world, its leaves -/
abbrev MR : Type := (Nat → Int32) × Int32 × (Nat → Int32) × (Nat → Int32) × Int32 × (Nat → Int32) × Int32 × (Nat → Int32) × Int32 × Int32 × (Nat → Int32)
/-- the reference's cells: e: text, typed, draft, begun, downs, past, known, images, kept, at, aside -/
abbrev mw (e : MR) (to s : Nat → Int32) : List va_E := [.inr (9, [.ref 1, .int e.2.1, .ref 2, .ref 3, .ref 4, .int e.2.2.2.2.1, .ref 5, .ref 6, .int e.2.2.2.2.2.2.1, .ref 7, .int e.2.2.2.2.2.2.2.2.1, .int e.2.2.2.2.2.2.2.2.2.1, .ref 8]), .inl (0, 200, .inl e.1), .inl (0, 38, .inl to), .inl (0, 38, .inl e.2.2.1), .inl (0, 6, .inl e.2.2.2.1), .inl (0, 23, .inl s), .inl (0, 184, .inl e.2.2.2.2.2.1), .inl (0, 46, .inl e.2.2.2.2.2.2.2.1), .inl (0, 23, .inl e.2.2.2.2.2.2.2.2.2.2)]
theorem okT {P : Bool} (h : P = true) : some (Value.int (nI 1)) = some (Value.int (bI P)) := by rw [h]; rfl
theorem okF {P : Bool} (h : P = false) : some (Value.int (nI 0)) = some (Value.int (bI P)) := by rw [h]; rfl
theorem loopN {P : Nat → Prop} (e : Nat) (hx : P e) (hs : ∀ i, i < e → P (i + 1) → P i) : ∀ i, i ≤ e → P i := by
  have h : ∀ k i, i + k = e → P i := by
    intro k
    induction k with
    | zero => intro i hi; have : i = e := by omega
              subst this; exact hx
    | succ k ih => intro i hi; exact hs i (by omega) (ih (i + 1) (by omega))
  exact fun i hi => h (e - i) i (by omega)

set_option maxRecDepth 20000 in
theorem t_X9_in (l : Launch) (v a b : Int32) : Fn l M_X9_in [.int v, .int a, .int b] [] (some (.int (bI (inB v a b)))) [] := by
  refine con_of rfl rfl (by decide) ?_
  refine g_lsN (ls' := [_, _, _]) rfl ?_
  refine g_iload_n (n := 1) dX9_in_0 rfl rfl ?_
  refine g_iload_n (n := 2) dX9_in_1 rfl rfl ?_
  refine g_icmp_lt (tgt := 14) (n := 5) dX9_in_2 (by decide) rfl (fun c2 => ?_) (fun c2 => ?_)
  ·
    have hF : inB v a b = false := by simp only [inB, decide_eq_false (Int32.not_le.mpr c2), Bool.false_and]
    refine g_iconst (v := nI 0) (n := 15) dX9_in_14 (by decide) rfl ?_
    exact g_iret (ty := .boolean) dX9_in_15 rfl (by first | exact bI_nar _ | decide) ⟨Nat.zero_le _, Nat.zero_le _⟩ ⟨by first | exact okT hT | exact okF hF, rfl⟩
  ·
    refine g_iload_n (n := 6) dX9_in_5 rfl rfl ?_
    refine g_iload_n (n := 7) dX9_in_6 rfl rfl ?_
    refine g_icmp_gt (tgt := 14) (n := 10) dX9_in_7 (by decide) rfl (fun c7 => ?_) (fun c7 => ?_)
    ·
      have hF : inB v a b = false := by simp only [inB, decide_eq_false (Int32.not_le.mpr c7), Bool.and_false]
      refine g_iconst (v := nI 0) (n := 15) dX9_in_14 (by decide) rfl ?_
      exact g_iret (ty := .boolean) dX9_in_15 rfl (by first | exact bI_nar _ | decide) ⟨Nat.zero_le _, Nat.zero_le _⟩ ⟨by first | exact okT hT | exact okF hF, rfl⟩
    ·
      have hT : inB v a b = true := by simp only [inB, decide_eq_true (Int32.not_lt.mp c2), decide_eq_true (Int32.not_lt.mp c7), Bool.and_true]
      refine g_iconst (v := nI 1) (n := 11) dX9_in_10 (by decide) rfl ?_
      refine g_goto (tgt := 15) dX9_in_11 (by decide) ?_
      exact g_iret (ty := .boolean) dX9_in_15 rfl (by first | exact bI_nar _ | decide) ⟨Nat.zero_le _, Nat.zero_le _⟩ ⟨by first | exact okT hT | exact okF hF, rfl⟩
set_option maxRecDepth 20000 in
theorem t_X9_has (l : Launch) (x k : Int32) : Fn l M_X9_has [.int x, .int k] [] (some (.int (bI (hb x k)))) [] := by
  refine con_of rfl rfl (by decide) ?_
  refine g_lsN (ls' := [_, _]) rfl ?_
  refine g_iload_n (n := 1) dX9_has_0 rfl rfl ?_
  refine g_iload_n (n := 2) dX9_has_1 rfl rfl ?_
  refine g_ishr (n := 3) dX9_has_2 rfl ?_
  refine g_iconst (v := nI 1) (n := 4) dX9_has_3 (by decide) rfl ?_
  refine g_iand (n := 5) dX9_has_4 rfl ?_
  refine g_iconst (v := nI 1) (n := 6) dX9_has_5 (by decide) rfl ?_
  refine g_icmp_ne (tgt := 13) (n := 9) dX9_has_6 (by decide) rfl (fun c6 => ?_) (fun c6 => ?_)
  ·
    have hF : hb x k = false := decide_eq_false c6
    refine g_iconst (v := nI 0) (n := 14) dX9_has_13 (by decide) rfl ?_
    exact g_iret (ty := .boolean) dX9_has_14 rfl (by first | exact bI_nar _ | decide) ⟨Nat.zero_le _, Nat.zero_le _⟩ ⟨by first | exact okT hT | exact okF hF, rfl⟩
  ·
    have hT : hb x k = true := decide_eq_true c6
    refine g_iconst (v := nI 1) (n := 10) dX9_has_9 (by decide) rfl ?_
    refine g_goto (tgt := 14) dX9_has_10 (by decide) ?_
    exact g_iret (ty := .boolean) dX9_has_14 rfl (by first | exact bI_nar _ | decide) ⟨Nat.zero_le _, Nat.zero_le _⟩ ⟨by first | exact okT hT | exact okF hF, rfl⟩
/-- how many of the lowest n bits are set -/
def on (x : Int32) : Nat → Int32
  | 0 => nI 0
  | k + 1 => on x k + (x >>> (nI k &&& 31) &&& nI 1)


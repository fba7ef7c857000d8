/-! 62.reads: a text tells the reference and the class the same wall -/
def reL (V1 : WT) (b1 : Nat → Int32) (V2 : WT) (b2 : Nat → Int32) : Prop := vnb V1 = vnb V2 ∧ vnf V1 = vnf V2 ∧ vnc V1 = vnc V2 ∧ vca V1 = vca V2 ∧ (∀ b, b < vnb V2 → vth V1 b = vth V2 b ∧ vpa V1 b = vpa V2 b) ∧ (∀ f, f < vnf V2 → vki V1 f = vki V2 f ∧ vsg V1 f = vsg V2 f ∧ vkn V1 f = vkn V2 f ∧ b1 f = b2 f)
theorem upd_both {g h : Nat → Int32} {k j : Nat} {x : Int32} (e : j < k → g j = h j) (hj : j < k + 1) : upd g k x j = upd h k x j := by
  by_cases q : j = k
  · subst q; rw [pk_us, pk_us]
  · rw [pk_un q, pk_un q]; exact e (by omega)
section RLs
variable {V1 V2 : WT} {b1 b2 : Nat → Int32} {ta : Nat → Nat} {n p : Nat}
theorem rl_vB (h : reL V1 b1 V2 b2) (t x : Int32) : reL (vB V1 t x) b1 (vB V2 t x) b2 := by
  obtain ⟨h1, h2, h3, h4, h5, h6⟩ := h
  refine ⟨congrArg (· + 1) h1, h2, h3, h4, fun b hb_ => ?_, h6⟩
  have hb_ : b < vnb V2 + 1 := hb_
  show upd (vth V1) (vnb V1) t b = upd (vth V2) (vnb V2) t b ∧ upd (vpa V1) (vnb V1) x b = upd (vpa V2) (vnb V2) x b
  rw [h1]
  exact ⟨upd_both (fun q => (h5 b q).1) hb_, upd_both (fun q => (h5 b q).2) hb_⟩
theorem rl_vF (h : reL V1 b1 V2 b2) (k s l x : Int32) : reL (vF V1 k s l) (upd b1 (vnf V1) x) (vF V2 k s l) (upd b2 (vnf V2) x) := by
  obtain ⟨h1, h2, h3, h4, h5, h6⟩ := h
  refine ⟨h1, congrArg (· + 1) h2, h3, h4, h5, fun f hf => ?_⟩
  have hf : f < vnf V2 + 1 := hf
  show upd (vki V1) (vnf V1) k f = upd (vki V2) (vnf V2) k f ∧ upd (vsg V1) (vnf V1) s f = upd (vsg V2) (vnf V2) s f ∧ upd (vkn V1) (vnf V1) l f = upd (vkn V2) (vnf V2) l f ∧ upd b1 (vnf V1) x f = upd b2 (vnf V2) x f
  rw [h2]
  exact ⟨upd_both (fun q => (h6 f q).1) hf, upd_both (fun q => (h6 f q).2.1) hf, upd_both (fun q => (h6 f q).2.2.1) hf, upd_both (fun q => (h6 f q).2.2.2) hf⟩
theorem rl_vC (h : reL V1 b1 V2 b2) (c : Int32) : reL (vC V1 c) b1 (vC V2 c) b2 := by
  obtain ⟨h1, h2, h3, h4, h5, h6⟩ := h
  refine ⟨h1, h2, congrArg (· + 1) h3, ?_, h5, h6⟩
  show vca V1 ||| c <<< (nI (vnc V1) &&& 31) = vca V2 ||| c <<< (nI (vnc V2) &&& 31)
  rw [h3, h4]
theorem rl_b (h : reL V1 b1 V2 b2) : (rbF ta n p V1).1 = (rbF ta n p V2).1 ∧ reL (rbF ta n p V1).2.1 b1 (rbF ta n p V2).2.1 b2 ∧ (rbF ta n p V1).2.2 = (rbF ta n p V2).2.2 := by
  unfold rbF
  rw [h.1]
  split
  · exact ⟨rfl, h, rfl⟩
  · split
    · exact ⟨rfl, h, rfl⟩
    · exact ⟨rfl, rl_vB h _ _, rfl⟩
theorem rl_f (h : reL V1 b1 V2 b2) : (rfF ta n p V1 b1).1 = (rfF ta n p V2 b2).1 ∧ reL (rfF ta n p V1 b1).2.1 (rfF ta n p V1 b1).2.2.1 (rfF ta n p V2 b2).2.1 (rfF ta n p V2 b2).2.2.1 ∧ (rfF ta n p V1 b1).2.2.2 = (rfF ta n p V2 b2).2.2.2 := by
  have e2 := h.2.1
  unfold rfF
  rw [h.1]
  by_cases c1 : (b1A ta n p).1 < 0
  · rw [if_pos c1, if_pos c1]; exact ⟨rfl, h, rfl⟩
  rw [if_neg c1, if_neg c1]
  by_cases c2 : (b2A ta n p).1 < 0
  · rw [if_pos c2, if_pos c2]; exact ⟨rfl, h, rfl⟩
  rw [if_neg c2, if_neg c2]
  by_cases c3 : (b3A ta n p (vnb V2)).1 < 0
  · rw [if_pos c3, if_pos c3]; exact ⟨rfl, h, rfl⟩
  rw [if_neg c3, if_neg c3]
  have e3 : decide (vnf V1 = 6) = decide (vnf V2 = 6) := by rw [e2]
  rw [e3]
  by_cases c4 : (decide ((b4A ta n p (vnb V2)).1 < 0) || decide (vnf V2 = 6)) = true
  · rw [if_pos c4, if_pos c4]; exact ⟨rfl, h, rfl⟩
  rw [if_neg c4, if_neg c4]
  exact ⟨rfl, rl_vF h _ _ _ _, rfl⟩
theorem rl_i (h : reL V1 b1 V2 b2) (a : Nat) (dn : Int32) : (riF ta n p a V1 b1 dn).1 = (riF ta n p a V2 b2 dn).1 ∧ reL (riF ta n p a V1 b1 dn).2.1 (riF ta n p a V1 b1 dn).2.2.1 (riF ta n p a V2 b2 dn).2.1 (riF ta n p a V2 b2 dn).2.2.1 ∧ (riF ta n p a V1 b1 dn).2.2.2 = (riF ta n p a V2 b2 dn).2.2.2 := by
  unfold riF
  by_cases c1 : a = 98
  · rw [if_pos c1, if_pos c1]
    have := rl_b (ta := ta) (n := n) (p := p) h
    exact ⟨this.1, this.2.1, by show (dn, _) = (dn, _); rw [this.2.2]⟩
  rw [if_neg c1, if_neg c1]
  by_cases c2 : a = 102
  · rw [if_pos c2, if_pos c2]
    have := rl_f (ta := ta) (n := n) (p := p) h
    exact ⟨this.1, this.2.1, by show (dn, _) = (dn, _); rw [this.2.2]⟩
  rw [if_neg c2, if_neg c2]
  by_cases c3 : a = 99
  · rw [if_pos c3, if_pos c3]
    unfold rcF
    rw [h.2.2.1]
    split
    · exact ⟨rfl, h, rfl⟩
    · exact ⟨rfl, rl_vC h _, rfl⟩
  rw [if_neg c3, if_neg c3]
  by_cases c4 : a = 100
  · rw [if_pos c4, if_pos c4]
    unfold rdF
    rw [h.2.1]
    split
    · exact ⟨rfl, h, rfl⟩
    · exact ⟨rfl, h, rfl⟩
  rw [if_neg c4, if_neg c4]
  exact ⟨rfl, h, rfl⟩
end RLs
theorem rl_all (ta : Nat → Nat) (n : Nat) : ∀ (k p : Nat) (V1 : WT) (b1 : Nat → Int32) (V2 : WT) (b2 : Nat → Int32) (dn : Int32), reL V1 b1 V2 b2 → (rdR ta n k p V1 b1 dn).1 = (rdR ta n k p V2 b2 dn).1 ∧ reL (rdR ta n k p V1 b1 dn).2.1 (rdR ta n k p V1 b1 dn).2.2.1 (rdR ta n k p V2 b2 dn).2.1 (rdR ta n k p V2 b2 dn).2.2.1 ∧ (rdR ta n k p V1 b1 dn).2.2.2 = (rdR ta n k p V2 b2 dn).2.2.2
  | 0, p, V1, b1, V2, b2, dn, h => ⟨rfl, h, rfl⟩
  | k + 1, p, V1, b1, V2, b2, dn, h => by
    have hi := rl_i (ta := ta) (n := n) (p := p + 1) h (ta p) dn
    rw [rdR, rdR]
    by_cases c : p < n
    · rw [if_pos c, if_pos c, hi.1]
      by_cases d : (riF ta n (p + 1) (ta p) V2 b2 dn).1 = true
      · rw [if_pos d, if_pos d]
        rw [hi.2.2]
        exact rl_all ta n k _ _ _ _ _ _ hi.2.1
      · rw [if_neg d, if_neg d]
        exact ⟨rfl, hi.2⟩
    · rw [if_neg c, if_neg c]
      exact ⟨rfl, h, rfl⟩
/-- what a wall keeps while it is read -/
def RI (V : WT) (b : Nat → Int32) : Prop := okV V ∧ okY V b ∧ okX V ∧ ∀ f, f < vnf V → ∃ k : Nat, k < vnb V ∧ b f = nI k
theorem nu_ok {ta : Nat → Nat} {n p : Nat} {lo hi : Int32} {e : Nat} (h : ¬ (nuA ta n p lo hi e).1 < 0) : ∃ v : Nat, v ≤ 99 ∧ (nuA ta n p lo hi e).1 = nI v ∧ inB (nI v) lo hi = true := by
  unfold nuA at h ⊢
  cases hn : nrF ta n p with
  | none => rw [hn] at h; exact absurd neg1_lt h
  | some r =>
    rw [hn] at h
    obtain ⟨v, q⟩ := r
    have h : ¬ (if decide (ltI ta n q = nI e) && inB (nI v) lo hi then nI v else (-1)) < 0 := h
    show ∃ w : Nat, w ≤ 99 ∧ (if decide (ltI ta n q = nI e) && inB (nI v) lo hi then nI v else (-1)) = nI w ∧ _
    by_cases c : (decide (ltI ta n q = nI e) && inB (nI v) lo hi) = true
    · rw [if_pos c]
      rw [Bool.and_eq_true] at c
      exact ⟨v, (nrF_ok hn).1, rfl, c.2⟩
    · rw [if_neg c] at h
      exact absurd neg1_lt h
theorem ri_vB {V : WT} {b : Nat → Int32} (h : RI V b) (h8 : ¬ vnb V = 8) {t x : Nat} (ht : t ≤ 99) (hx : x ≤ 99) : RI (vB V (nI t) (nI x)) b := by
  obtain ⟨h1, h2, h3, h4⟩ := h
  have h18 := h1.1
  refine ⟨⟨by show vnb V + 1 ≤ 8; omega, h1.2⟩, ⟨upd_z (by omega) h2.1, upd_z (by omega) h2.2.1, h2.2.2⟩, ⟨fun c hc => ?_, h3.2⟩, fun f hf => ?_⟩
  · have hc : c < vnb V + 1 := hc
    show ∃ t' h' : Nat, t' ≤ 99 ∧ h' ≤ 99 ∧ upd (vth V) (vnb V) (nI t) c = nI t' ∧ upd (vpa V) (vnb V) (nI x) c = nI h'
    by_cases q : c = vnb V
    · subst q; exact ⟨t, x, ht, hx, pk_us, pk_us⟩
    · rw [pk_un q, pk_un q]; exact h3.1 c (by omega)
  · obtain ⟨k, hk, e⟩ := h4 f hf
    exact ⟨k, Nat.lt_succ_of_lt hk, e⟩
theorem ri_vF {V : WT} {b : Nat → Int32} (h : RI V b) (h6 : ¬ vnf V = 6) {s x : Nat} (k l : Int32) (hs : s ≤ 99) (hx : x < vnb V) : RI (vF V k (nI s) l) (upd b (vnf V) (nI x)) := by
  obtain ⟨h1, h2, h3, h4⟩ := h
  have h16 := h1.2.1
  refine ⟨⟨h1.1, by show vnf V + 1 ≤ 6; omega, h1.2.2⟩, ⟨h2.1, h2.2.1, upd_z (by omega) h2.2.2.1, upd_z (by omega) h2.2.2.2.1, upd_z (by omega) h2.2.2.2.2.1, upd_z (by omega) h2.2.2.2.2.2⟩, ⟨h3.1, fun f hf => ?_⟩, fun f hf => ?_⟩
  · have hf : f < vnf V + 1 := hf
    show ∃ s' : Nat, s' ≤ 99 ∧ upd (vsg V) (vnf V) (nI s) f = nI s'
    by_cases q : f = vnf V
    · subst q; exact ⟨s, hs, pk_us⟩
    · rw [pk_un q]; exact h3.2 f (by omega)
  · have hf : f < vnf V + 1 := hf
    show ∃ k' : Nat, k' < vnb V ∧ upd b (vnf V) (nI x) f = nI k'
    by_cases q : f = vnf V
    · subst q; exact ⟨x, hx, pk_us⟩
    · rw [pk_un q]; exact h4 f (by omega)
theorem ri_i {V : WT} {b : Nat → Int32} {ta : Nat → Nat} {n p : Nat} (h : RI V b) (a : Nat) (dn : Int32) : RI (riF ta n p a V b dn).2.1 (riF ta n p a V b dn).2.2.1 := by
  unfold riF
  by_cases c1 : a = 98
  · rw [if_pos c1]
    show RI (rbF ta n p V).2.1 b
    unfold rbF
    by_cases d1 : nuB ta n p (nI 0) (nI 99) 44 = true
    · rw [if_pos d1]; exact h
    rw [if_neg d1]
    by_cases d2 : (nuB ta n (nuA ta n p (nI 0) (nI 99) 44).2 (nI 0) (nI 20) 59 || decide (vnb V = 8)) = true
    · rw [if_pos d2]; exact h
    rw [if_neg d2]
    rw [Bool.or_eq_true, not_or] at d2
    obtain ⟨t, ht, et, _⟩ := nu_ok (fun q => d1 (decide_eq_true q))
    obtain ⟨x, hx, ex, _⟩ := nu_ok (fun q => d2.1 (decide_eq_true q))
    show RI (vB V (nuA ta n p (nI 0) (nI 99) 44).1 (nuA ta n (nuA ta n p (nI 0) (nI 99) 44).2 (nI 0) (nI 20) 59).1) b
    rw [et, ex]
    exact ri_vB h (fun q => d2.2 (decide_eq_true q)) ht hx
  rw [if_neg c1]
  by_cases c2 : a = 102
  · rw [if_pos c2]
    show RI (rfF ta n p V b).2.1 (rfF ta n p V b).2.2.1
    unfold rfF
    by_cases d1 : (b1A ta n p).1 < 0
    · rw [if_pos d1]; exact h
    rw [if_neg d1]
    by_cases d2 : (b2A ta n p).1 < 0
    · rw [if_pos d2]; exact h
    rw [if_neg d2]
    by_cases d3 : (b3A ta n p (vnb V)).1 < 0
    · rw [if_pos d3]; exact h
    rw [if_neg d3]
    by_cases d4 : (decide ((b4A ta n p (vnb V)).1 < 0) || decide (vnf V = 6)) = true
    · rw [if_pos d4]; exact h
    rw [if_neg d4]
    rw [Bool.or_eq_true, not_or] at d4
    obtain ⟨s, hs, es, _⟩ := nu_ok d2
    obtain ⟨x, hx, ex, hx2⟩ := nu_ok d3
    have h8 := h.1.1
    obtain ⟨x2, hx3, e3⟩ := isB_t (nb := vnb V) (by omega) hx2
    show RI (vF V (b1A ta n p).1 (b2A ta n p).1 (b4A ta n p (vnb V)).1) (upd b (vnf V) (b3A ta n p (vnb V)).1)
    have es : (b2A ta n p).1 = nI s := es
    have ex : (b3A ta n p (vnb V)).1 = nI x := ex
    rw [es, ex, e3]
    exact ri_vF h (fun q => d4.2 (decide_eq_true q)) _ _ hs hx3
  rw [if_neg c2]
  by_cases c3 : a = 99
  · rw [if_pos c3]
    unfold rcF
    by_cases d : (decide ((nuA ta n p (nI 0) (nI 1) 59).1 < 0) || decide (vnc V = 12)) = true
    · rw [if_pos d]; exact h
    · rw [if_neg d]
      rw [Bool.or_eq_true, not_or] at d
      have h12 := h.1.2.2
      have : ¬ vnc V = 12 := fun q => d.2 (decide_eq_true q)
      exact ⟨⟨h.1.1, h.1.2.1, by show vnc V + 1 ≤ 12; omega⟩, h.2⟩
  rw [if_neg c3]
  by_cases c4 : a = 100
  · rw [if_pos c4]
    unfold rdF
    split
    · exact h
    · exact h
  rw [if_neg c4]
  exact h
theorem ri_all (ta : Nat → Nat) (n : Nat) : ∀ (k p : Nat) (V : WT) (b : Nat → Int32) (dn : Int32), RI V b → RI (rdR ta n k p V b dn).2.1 (rdR ta n k p V b dn).2.2.1
  | 0, p, V, b, dn, h => h
  | k + 1, p, V, b, dn, h => by
    have hi := ri_i (ta := ta) (n := n) (p := p + 1) h (ta p) dn
    rw [rdR]
    by_cases c : p < n
    · rw [if_pos c]
      by_cases d : (riF ta n (p + 1) (ta p) V b dn).1 = true
      · rw [if_pos d]
        exact ri_all ta n k _ _ _ _ hi
      · rw [if_neg d]
        exact hi
    · rw [if_neg c]
      exact h
theorem rl_cl (U : WT) (be ub : Nat → Int32) : reL V0 be (clV U) ub := ⟨rfl, rfl, rfl, rfl, fun b hb_ => absurd hb_ (Nat.not_lt_zero b), fun f hf => absurd hf (Nat.not_lt_zero f)⟩
theorem ri_cl {U : WT} {ub : Nat → Int32} (h : okY U ub) : RI (clV U) ub := ⟨okV_cl U, h, ⟨fun b hb_ => absurd hb_ (Nat.not_lt_zero b), fun f hf => absurd hf (Nat.not_lt_zero f)⟩, fun f hf => absurd hf (Nat.not_lt_zero f)⟩
theorem rl_w {V1 V2 : WT} {b1 b2 : Nat → Int32} (h : reL V1 b1 V2 b2) : V1 = wV V2 (vth V1) (vpa V1) (vki V1) (vsg V1) (vkn V1) ∧ eV V2 (vth V1) (vpa V1) (vki V1) (vsg V1) (vkn V1) := by
  obtain ⟨h1, h2, h3, h4, h5, h6⟩ := h
  refine ⟨?_, h5, fun f hf => ⟨(h6 f hf).1, (h6 f hf).2.1, (h6 f hf).2.2.1⟩⟩
  obtain ⟨x1, x2, x3, x4, x5⟩ := V1
  obtain ⟨y1, y2, y3, y4, y5⟩ := V2
  have h1 : x1 = y1 := h1
  have h2 : x2 = y2 := h2
  have h3 : x3 = y3 := h3
  have h4 : x4 = y4 := h4
  subst h1; subst h2; subst h3; subst h4
  rfl

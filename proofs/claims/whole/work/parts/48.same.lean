/-! 48.same: what stands behind the last bay or buttress of a wall doesn't matter -/
abbrev wV (V : WT) (th pa ki sg kn : Nat → Int32) : WT := (V.1, V.2.1, V.2.2.1, V.2.2.2.1, th, pa, ki, sg, kn)
def eV (V : WT) (th pa ki sg kn : Nat → Int32) : Prop := (∀ b, b < vnb V → th b = vth V b ∧ pa b = vpa V b) ∧ (∀ f, f < vnf V → ki f = vki V f ∧ sg f = vsg V f ∧ kn f = vkn V f)
def eB (nf : Nat) (S : ST) (bo : Nat → Int32) : Prop := ∀ f, f < nf → bo f = sbo S f
section CG
variable {V : WT} {th pa ki sg kn : Nat → Int32} {S : ST} {bo : Nat → Int32}
theorem c_ld (E : eV V th pa ki sg kn) {b : Nat} (hb_ : b < vnb V) : ldF (wV V th pa ki sg kn) (sBo S bo) b = ldF V S b := by
  unfold ldF
  show th b + (if decide (0 < b) && hb (sfa S) (nI (b - 1)) then th (b - 1) / nI 2 else nI 0) + (if decide (b + 1 < vnb V) && hb (sfa S) (nI (b + 1)) then th (b + 1) / nI 2 else nI 0) = _
  rw [(E.1 b hb_).1, (E.1 (b - 1) (by omega)).1]
  by_cases h : b + 1 < vnb V
  · rw [(E.1 (b + 1) h).1]
  · rw [decide_eq_false h, Bool.false_and]
    rfl
theorem c_srN (E : eV V th pa ki sg kn) (B : eB (vnf V) S bo) (b : Nat) : ∀ f, f ≤ vnf V → srN (wV V th pa ki sg kn) (sBo S bo) b f = srN V S b f
  | 0, _ => rfl
  | f + 1, h => by
    rw [srN, srN, c_srN E B b f (by omega)]
    show _ + (if hb (sup S) (nI f) && decide (bo f = nI b) then sg f else nI 0) = _
    rw [B f (by omega), (E.2 f (by omega)).2.1]
theorem c_sr (E : eV V th pa ki sg kn) (B : eB (vnf V) S bo) (b : Nat) : srF (wV V th pa ki sg kn) (sBo S bo) b = srF V S b := c_srN E B b _ (Nat.le_refl _)
theorem c_hpF (E : eV V th pa ki sg kn) (B : eB (vnf V) S bo) {b : Nat} (hb_ : b < vnb V) : hpF (wV V th pa ki sg kn) (sBo S bo) b = hpF V S b := by
  unfold hpF
  rw [c_sr E B b, c_ld E hb_]
theorem c_hpI (hV : okV V) (E : eV V th pa ki sg kn) (B : eB (vnf V) S bo) (x : Int32) : hpI (wV V th pa ki sg kn) (sBo S bo) x = hpI V S x := by
  have h8 := hV.1
  unfold hpI
  show (if isB (vnb V) x then hpF (wV V th pa ki sg kn) (sBo S bo) x.toNatClampNeg else nI 0) = (if isB (vnb V) x then hpF V S x.toNatClampNeg else nI 0)
  cases h : isB (vnb V) x with
  | false => rw [if_neg Bool.false_ne_true, if_neg Bool.false_ne_true]
  | true =>
    obtain ⟨b, hb_, e⟩ := isB_t (by omega) h
    have ec : x.toNatClampNeg = b := by rw [e]; exact nI_clamp (by omega)
    rw [if_pos rfl, if_pos rfl, ec, c_hpF E B hb_]
theorem c_pr (hV : okV V) (E : eV V th pa ki sg kn) (B : eB (vnf V) S bo) (b : Nat) : prF (wV V th pa ki sg kn) (sBo S bo) b = prF V S b := by
  unfold prF
  rw [c_sr E B, c_hpI hV E B, c_hpI hV E B]
theorem c_isH (hV : okV V) (E : eV V th pa ki sg kn) (B : eB (vnf V) S bo) {b : Nat} (hb_ : b < vnb V) : isH (wV V th pa ki sg kn) (sBo S bo) b = isH V S b := by
  unfold isH
  rw [c_pr hV E B, c_ld E hb_]
theorem c_hdN (hV : okV V) (E : eV V th pa ki sg kn) (B : eB (vnf V) S bo) : ∀ b, b ≤ vnb V → hdN (wV V th pa ki sg kn) (sBo S bo) b = hdN V S b
  | 0, _ => rfl
  | b + 1, h => by rw [hdN, hdN, c_hdN hV E B b (by omega), c_isH hV E B (by omega)]
theorem c_alN (B : eB (vnf V) S bo) {f : Nat} (hf : f < vnf V) : ∀ g, g ≤ vnf V → alN (wV V th pa ki sg kn) (sBo S bo) f g = alN V S f g
  | 0, _ => rfl
  | g + 1, h => by
    rw [alN, alN, c_alN B hf g (by omega)]
    show (_ && (decide (g = f) || !hb (sup S) (nI g) || !inB (bo g - bo f) (-1) (nI 1))) = _
    rw [B g (by omega), B f hf]
theorem c_hrd (E : eV V th pa ki sg kn) (B : eB (vnf V) S bo) {f : Nat} (hf : f < vnf V) : hrd (wV V th pa ki sg kn) (sBo S bo) f = hrd V S f := by
  unfold hrd alF
  show (decide (ki f = nI 2) || (decide (ki f = nI 1) && alN (wV V th pa ki sg kn) (sBo S bo) f (vnf V))) = _
  rw [(E.2 f hf).1, c_alN B hf _ (Nat.le_refl _)]
theorem c_twN (E : eV V th pa ki sg kn) (B : eB (vnf V) S bo) : ∀ f, f ≤ vnf V → twN (wV V th pa ki sg kn) (sBo S bo) f = twN V S f
  | 0, _ => rfl
  | f + 1, h => by rw [twN, twN, c_twN E B f (by omega), c_hrd E B (by omega)]
theorem c_ti (E : eV V th pa ki sg kn) (B : eB (vnf V) S bo) {f : Nat} (hf : f < vnf V) : tiF (wV V th pa ki sg kn) (sBo S bo) f = tiF V S f := by
  unfold tiF moF rsF
  show (if hb (sup S) (nI f) then (if sti S f + (if hb (twN (wV V th pa ki sg kn) (sBo S bo) (vnf V)) (nI f) then nI 2 else nI 1) ≤ nI 99 then sti S f + (if hb (twN (wV V th pa ki sg kn) (sBo S bo) (vnf V)) (nI f) then nI 2 else nI 1) else nI 99) else (if 0 ≤ sti S f - (if ki f = nI 2 then nI 1 else nI 2) then sti S f - (if ki f = nI 2 then nI 1 else nI 2) else nI 0)) = _
  rw [(E.2 f hf).1, c_twN E B _ (Nat.le_refl _)]
theorem c_ti2 (E : eV V th pa ki sg kn) (B : eB (vnf V) S bo) : ti2 (wV V th pa ki sg kn) (sBo S bo) = ti2 V S := by
  funext f
  unfold ti2 mix
  by_cases h : f < vnf V
  · show (if f < vnf V then tiF (wV V th pa ki sg kn) (sBo S bo) f else sti S f) = _
    rw [if_pos h, if_pos h, c_ti E B h]
  · show (if f < vnf V then tiF (wV V th pa ki sg kn) (sBo S bo) f else sti S f) = _
    rw [if_neg h, if_neg h]
theorem c_un (hV : okV V) (E : eV V th pa ki sg kn) (B : eB (vnf V) S bo) : unF (wV V th pa ki sg kn) (sBo S bo) = unF V S := by
  funext b
  unfold unF
  show (if hb (sfa S) (nI b) then sun S b else if hb (hdN (wV V th pa ki sg kn) (sBo S bo) (vnb V)) (nI b) then nI 0 else sun S b + nI 1) = _
  rw [c_hdN hV E B _ (Nat.le_refl _)]
theorem c_un2 (hV : okV V) (E : eV V th pa ki sg kn) (B : eB (vnf V) S bo) : un2 (wV V th pa ki sg kn) (sBo S bo) = un2 V S := by
  unfold un2
  rw [c_un hV E B]
theorem c_flN (hV : okV V) (E : eV V th pa ki sg kn) (B : eB (vnf V) S bo) : ∀ b, b ≤ vnb V → flN (wV V th pa ki sg kn) (sBo S bo) b = flN V S b
  | 0, _ => rfl
  | b + 1, h => by
    rw [flN, flN, c_flN hV E B b (by omega), c_un hV E B]
    show (if hb (sfa S) (nI b) then _ else _ ||| (if unF V S b ≤ pa b then nI 0 else _)) = _
    rw [(E.1 b (by omega)).2]
theorem c_fa2 (hV : okV V) (E : eV V th pa ki sg kn) (B : eB (vnf V) S bo) : fa2 (wV V th pa ki sg kn) (sBo S bo) = fa2 V S := by
  unfold fa2
  show sfa S ||| flN (wV V th pa ki sg kn) (sBo S bo) (vnb V) = _
  rw [c_flN hV E B _ (Nat.le_refl _)]
theorem c_trd (E : eV V th pa ki sg kn) (B : eB (vnf V) S bo) {f : Nat} (hf : f < vnf V) : trd (wV V th pa ki sg kn) (sBo S bo) f = trd V S f := by
  unfold trd
  show (!decide (tiF (wV V th pa ki sg kn) (sBo S bo) f ≤ kn f) && (!decide (ki f = nI 3) || !caF V (sho S))) = _
  rw [c_ti E B hf, (E.2 f hf).1, (E.2 f hf).2.2]
theorem c_upN (hV : okV V) (E : eV V th pa ki sg kn) (B : eB (vnf V) S bo) : ∀ f, f ≤ vnf V → upN (wV V th pa ki sg kn) (sBo S bo) f = upN V S f
  | 0, _ => rfl
  | f + 1, h => by
    rw [upN, upN, c_upN hV E B f (by omega), c_trd E B (by omega), c_fa2 hV E B]
    show _ &&& (if trd V S f || hb (fa2 V S) (bo f) then _ else _) = _
    rw [B f (by omega)]
/-- an hour -/
theorem c_ps (hV : okV V) (E : eV V th pa ki sg kn) (B : eB (vnf V) S bo) : psF (wV V th pa ki sg kn) (sBo S bo) = sBo (psF V S) bo := by
  unfold psF
  rw [c_upN hV E B _ (Nat.le_refl _), c_fa2 hV E B, c_ti2 E B, c_un2 hV E B]
end CG
theorem c_it {V : WT} {th pa ki sg kn : Nat → Int32} (hV : okV V) (E : eV V th pa ki sg kn) {bo : Nat → Int32} : ∀ (n : Nat) (S : ST), eB (vnf V) S bo → itP (wV V th pa ki sg kn) n (sBo S bo) = sBo (itP V n S) bo
  | 0, _, _ => rfl
  | n + 1, S, B => by
    rw [itP, itP, c_ps hV E B]
    exact c_it hV E n (psF V S) B
theorem c_flR {V : WT} {th pa ki sg kn : Nat → Int32} (hV : okV V) (E : eV V th pa ki sg kn) {bo : Nat → Int32} (fa : Int32) : ∀ (n : Nat) (S : ST), eB (vnf V) S bo → flR (wV V th pa ki sg kn) fa n (sBo S bo) = ((flR V fa n S).1, sBo (flR V fa n S).2 bo)
  | 0, _, _ => rfl
  | n + 1, S, B => by
    rw [flR, flR, c_ps hV E B, c_flR hV E fa n (psF V S) B]
    show (if sfa S = fa then _ else _) = _
    by_cases h : sfa S = fa
    · rw [if_pos h, if_pos h]
    · rw [if_neg h, if_neg h]
section CH
variable {V : WT} {th pa ki sg kn : Nat → Int32} {S : ST} {bo : Nat → Int32}
theorem c_fk (hV : okV V) (E : eV V th pa ki sg kn) (B : eB (vnf V) S bo) (lim : Nat) : fk (wV V th pa ki sg kn) (sBo S bo) lim = fk V S lim := by
  unfold fk
  show (flR (wV V th pa ki sg kn) (sfa S) (lim + 1) (sBo S bo)).1 = _
  rw [c_flR hV E _ _ S B]
theorem c_fS (hV : okV V) (E : eV V th pa ki sg kn) (B : eB (vnf V) S bo) (lim : Nat) : fS (wV V th pa ki sg kn) (sBo S bo) lim = sBo (fS V S lim) bo := by
  unfold fS
  show (flR (wV V th pa ki sg kn) (sfa S) (lim + 1) (sBo S bo)).2 = _
  rw [c_flR hV E _ _ S B]
theorem c_usN (B : eB (vnf V) S bo) : ∀ f, f ≤ vnf V → usN (wV V th pa ki sg kn) (sBo S bo) f = usN V S f
  | 0, _ => rfl
  | f + 1, h => by
    rw [usN, usN, c_usN B f (by omega)]
    show _ ||| (if hb (sfa S) (bo f) then _ else _) = _
    rw [B f (by omega)]
theorem c_ndN (hV : okV V) (E : eV V th pa ki sg kn) (B : eB (vnf V) S bo) : ∀ t, ndN (wV V th pa ki sg kn) (sBo S bo) t = ndN V S t
  | 0 => rfl
  | t + 1 => by
    rw [ndN, ndN, c_ndN hV E B t]
    show ndS (wV V th pa ki sg kn) (sBo S bo) (usN (wV V th pa ki sg kn) (sBo S bo) (vnf V)) t _ = _
    rw [c_usN B _ (Nat.le_refl _)]
    unfold ndS
    rw [show fk (wV V th pa ki sg kn) (sUp (sBo S bo) (nI t)) 12 = fk V (sUp S (nI t)) 12 from c_fk hV E (S := sUp S (nI t)) B 12]
theorem c_cuN (hV : okV V) (E : eV V th pa ki sg kn) (B : eB (vnf V) S bo) : ∀ t, cuN (wV V th pa ki sg kn) (sBo S bo) t = cuN V S t
  | 0 => rfl
  | t + 1 => by
    rw [cuN, cuN, c_cuN hV E B t]
    unfold cuS
    rw [show fk (wV V th pa ki sg kn) (sUp (sBo S bo) (sup (sBo S bo) &&& (nI t ^^^ (-1)))) 24 = fk V (sUp S (sup S &&& (nI t ^^^ (-1)))) 24 from c_fk hV E (S := sUp S (sup S &&& (nI t ^^^ (-1)))) B 24]
theorem eB_upd (B : eB (vnf V) S bo) (f : Nat) (x : Int32) : eB (vnf V) (sBo S (upd (sbo S) f x)) (upd bo f x) := fun g hg => by
  show upd bo f x g = upd (sbo S) f x g
  unfold upd
  split
  · rfl
  · exact B g hg
theorem c_plN (hV : okV V) (E : eV V th pa ki sg kn) (B : eB (vnf V) S bo) (f : Nat) : ∀ b, plN (wV V th pa ki sg kn) (sBo S bo) f b = plN V S f b
  | 0 => rfl
  | b + 1 => by
    rw [plN, plN, c_plN hV E B f b]
    unfold plS
    rw [show fk (wV V th pa ki sg kn) (plT (sBo S bo) f b) 60 = fk V (plT S f b) 60 from c_fk hV E (S := plT S f b) (bo := upd bo f (nI b)) (eB_upd B f (nI b)) 60]
theorem eV_sg (E : eV V th pa ki sg kn) (f : Nat) (x : Int32) : eV (vSg V f x) th pa ki (upd sg f x) kn := ⟨E.1, fun g hg => ⟨(E.2 g hg).1, by
  show upd sg f x g = upd (vsg V) f x g
  unfold upd
  split
  · rfl
  · exact (E.2 g hg).2.1, (E.2 g hg).2.2⟩⟩
theorem eV_kn (E : eV V th pa ki sg kn) (f : Nat) (x : Int32) : eV (vKn V f x) th pa ki sg (upd kn f x) := ⟨E.1, fun g hg => ⟨(E.2 g hg).1, (E.2 g hg).2.1, by
  show upd kn f x g = upd (vkn V) f x g
  unfold upd
  split
  · rfl
  · exact (E.2 g hg).2.2⟩⟩
theorem c_sgK (hV : okV V) (E : eV V th pa ki sg kn) (B : eB (vnf V) S bo) (f v : Nat) : sgK (wV V th pa ki sg kn) (sBo S bo) f v = sgK V S f v := c_fk (V := vSg V f (nI v)) hV (eV_sg E f (nI v)) B 60
theorem c_whC (hV : okV V) (E : eV V th pa ki sg kn) (B : eB (vnf V) S bo) (bays : Int32) (t : Nat) : whC (wV V th pa ki sg kn) (sBo S bo) bays t = whC V S bays t := by
  unfold whC
  show (decide (nI t &&& (usN (wV V th pa ki sg kn) (sBo S bo) (vnf V) ^^^ (-1)) = 0) && decide (hdN (wV V th pa ki sg kn) (sBo (sUp S (nI t)) bo) (vnb V) = bays)) = _
  rw [c_usN B _ (Nat.le_refl _), c_hdN hV E (S := sUp S (nI t)) B _ (Nat.le_refl _)]
theorem c_whN (hV : okV V) (E : eV V th pa ki sg kn) (B : eB (vnf V) S bo) (bays : Int32) : ∀ t, whN (wV V th pa ki sg kn) (sBo S bo) bays t = whN V S bays t
  | 0 => rfl
  | t + 1 => by rw [whN, whN, c_whN hV E B bays t, c_whC hV E B]
end CH
theorem c_knR {V : WT} {th pa ki sg kn : Nat → Int32} (hV : okV V) (E : eV V th pa ki sg kn) {bo : Nat → Int32} (f : Nat) : ∀ (n : Nat) (S : ST), eB (vnf V) S bo → knR (wV V th pa ki sg kn) f n (sBo S bo) = ((knR V f n S).1, sBo (knR V f n S).2 bo)
  | 0, _, _ => rfl
  | n + 1, S, B => by
    rw [knR, knR, c_ps hV E B, c_knR hV E f n (psF V S) B]
    show (if hb (sup S) (nI f) then _ else _) = _
    by_cases h : hb (sup S) (nI f) = true
    · rw [if_pos h, if_pos h]
    · rw [if_neg h, if_neg h]
theorem knR_bo (V : WT) (f : Nat) : ∀ (n : Nat) (S : ST), sbo (knR V f n S).2 = sbo S
  | 0, _ => rfl
  | n + 1, S => by
    rw [knR]
    split
    · exact knR_bo V f n (psF V S)
    · rfl
section CI
variable {V : WT} {th pa ki sg kn : Nat → Int32} {S : ST} {bo : Nat → Int32}
theorem c_knC (hV : okV V) (E : eV V th pa ki sg kn) (B : eB (vnf V) S bo) {f : Nat} (hf : f < vnf V) (n v : Nat) : knC (wV V th pa ki sg kn) (sBo S bo) f n v = knC V S f n v := by
  have e := c_knR (V := vKn V f (nI v)) hV (eV_kn E f (nI v)) (bo := bo) f n S B
  unfold knC
  show (decide ((knR (wV (vKn V f (nI v)) th pa ki sg (upd kn f (nI v))) f n (sBo S bo)).1 = n) && !hb (sup (knR (wV (vKn V f (nI v)) th pa ki sg (upd kn f (nI v))) f n (sBo S bo)).2) (nI f) && !hb (sfa (knR (wV (vKn V f (nI v)) th pa ki sg (upd kn f (nI v))) f n (sBo S bo)).2) (sbo (knR (wV (vKn V f (nI v)) th pa ki sg (upd kn f (nI v))) f n (sBo S bo)).2 f)) = _
  rw [e]
  show (_ && _ && !hb (sfa (knR (vKn V f (nI v)) f n S).2) (bo f)) = _
  rw [B f hf, knR_bo]
theorem c_knN (hV : okV V) (E : eV V th pa ki sg kn) (B : eB (vnf V) S bo) {f : Nat} (hf : f < vnf V) (n : Nat) : ∀ v, knN (wV V th pa ki sg kn) (sBo S bo) f n v = knN V S f n v
  | 0 => rfl
  | v + 1 => by rw [knN, knN, c_knN hV E B hf n v, c_knC hV E B hf]
theorem c_ba (E : eV V th pa ki sg kn) {f : Nat} (hf : f < vnf V) : baF (wV V th pa ki sg kn) (sBo S bo) f = baF V S f := by
  unfold baF
  show (decide (ki f = nI 3) && caF V (sho S)) = _
  rw [(E.2 f hf).1]
theorem c_md (E : eV V th pa ki sg kn) {f : Nat} (hf : f < vnf V) : mdF (wV V th pa ki sg kn) (sBo S bo) f = mdF V S f := by
  unfold mdF
  rw [c_ba E hf]
theorem c_mu (E : eV V th pa ki sg kn) (B : eB (vnf V) S bo) {f : Nat} (hf : f < vnf V) : muF (wV V th pa ki sg kn) (sBo S bo) f = muF V S f := by
  unfold muF
  show (!hb (sup S) (nI f) && !baF (wV V th pa ki sg kn) (sBo S bo) f && !decide (kn f ≤ sti S f) && !hb (sfa S) (bo f)) = _
  rw [c_ba E hf, (E.2 f hf).2.2, B f hf]
/-- a turn of a night -/
theorem c_tu (E : eV V th pa ki sg kn) (B : eB (vnf V) S bo) (h0 : 0 < vnf V) (d : Nat) : ∃ b2, tuF (wV V th pa ki sg kn) (sBo S bo) d = sBo (tuF V S d) b2 ∧ eB (vnf V) (tuF V S d) b2 := by
  have hf : d / 8 % vnf V < vnf V := Nat.mod_lt _ h0
  unfold tuF
  show ∃ b2, (if decide (d % 8 = 0) && mdF (wV V th pa ki sg kn) (sBo S bo) (d / 8 % vnf V) then _ else if inB (nI (d % 8)) (nI 1) (nI 2) && muF (wV V th pa ki sg kn) (sBo S bo) (d / 8 % vnf V) then _ else if decide (d % 8 = 3) && !hb (sup S) (nI (d / 8 % vnf V)) then sBo S (upd bo (d / 8 % vnf V) (nI (d / 64 % vnb V))) else sBo S bo) = _ ∧ _
  rw [c_md E hf, c_mu E B hf]
  split
  · exact ⟨bo, rfl, B⟩
  · split
    · exact ⟨bo, rfl, B⟩
    · split
      · exact ⟨_, rfl, eB_upd B _ _⟩
      · exact ⟨bo, rfl, B⟩
theorem c_ni (hV : okV V) (E : eV V th pa ki sg kn) (B : eB (vnf V) S bo) (z : Nat) : ∀ k, ∃ b2, niN (wV V th pa ki sg kn) (sBo S bo) z k = sBo (niN V S z k) b2 ∧ eB (vnf V) (niN V S z k) b2
  | 0 => ⟨bo, rfl, B⟩
  | k + 1 => by
    obtain ⟨b2, e2, B2⟩ := c_ni hV E B z k
    rw [niN, niN, e2]
    show ∃ b2_1, psF (wV V th pa ki sg kn) (if 0 < vnf V then _ else _) = _ ∧ _
    by_cases h0 : 0 < vnf V
    · obtain ⟨b3, e3, B3⟩ := c_tu E B2 h0 (dr z k)
      rw [if_pos h0, if_pos h0, e3, c_ps hV E B3]
      exact ⟨b3, rfl, B3⟩
    · rw [if_neg h0, if_neg h0, c_ps hV E B2]
      exact ⟨b2, rfl, B2⟩
theorem c_ri (B : eB (vnf V) S bo) {f : Nat} (hf : f < vnf V) : riS (sBo S bo) f = sBo (riS S f) bo := by
  unfold riS
  show sUp (sBo S bo) (sup S ||| (if hb (sfa S) (bo f) then _ else _)) = _
  rw [B f hf]
theorem eB_ri (B : eB (vnf V) S bo) (f : Nat) : eB (vnf V) (riS S f) bo := B
theorem c_riN (B : eB (vnf V) S bo) (t : Nat) : ∀ f, f ≤ vnf V → riN (sBo S bo) t f = sBo (riN S t f) bo ∧ eB (vnf V) (riN S t f) bo
  | 0, _ => ⟨rfl, B⟩
  | f + 1, h => by
    obtain ⟨e, B2⟩ := c_riN B t f (by omega)
    rw [riN, riN, e]
    by_cases q : hb (nI t) (nI f) = true
    · rw [if_pos q, if_pos q, c_ri B2 (by omega)]
      exact ⟨rfl, B2⟩
    · rw [if_neg q, if_neg q]
      exact ⟨rfl, B2⟩
theorem c_skC (hV : okV V) (E : eV V th pa ki sg kn) (B : eB (vnf V) S bo) (t : Nat) : skC (wV V th pa ki sg kn) (sBo S bo) t = skC V S t := by
  have e : skT (wV V th pa ki sg kn) (sBo S bo) t = sBo (skT V S t) bo ∧ eB (vnf V) (skT V S t) bo := by
    unfold skT
    show riN (psF (wV V th pa ki sg kn) (sBo (sUp S (sup S &&& (nI t ^^^ (-1)))) bo)) t (vnf V) = _ ∧ _
    rw [c_ps hV E (S := sUp S (sup S &&& (nI t ^^^ (-1)))) B]
    exact c_riN (S := psF V (sUp S (sup S &&& (nI t ^^^ (-1))))) B t _ (Nat.le_refl _)
  unfold skC
  rw [e.1, c_fk hV E e.2]
theorem c_abM (hV : okV V) (E : eV V th pa ki sg kn) (B : eB (vnf V) S bo) (x : Nat) : ∀ t, abM (wV V th pa ki sg kn) (sBo S bo) x t = abM V S x t
  | 0 => rfl
  | t + 1 => by rw [abM, abM, c_abM hV E B x t, c_skC hV E B]
theorem c_uaN (B : eB (vnf V) S bo) {f : Nat} (hf : f < vnf V) : ∀ g, g ≤ vnf V → uaN (wV V th pa ki sg kn) (sBo S bo) f g = uaN V S f g
  | 0, _ => rfl
  | g + 1, h => by
    rw [uaN, uaN, c_uaN B hf g (by omega)]
    show _ + (if hb (sup S) (nI g) && decide (bo g = bo f) then nI 1 else nI 0) = _
    rw [B g (by omega), B f hf]
theorem c_byA (hV : okV V) (E : eV V th pa ki sg kn) (B : eB (vnf V) S bo) {b : Nat} (hb_ : b < vnb V) (y : Int32) : byA (wV V th pa ki sg kn) (sBo S bo) b y = byA V S b y := by
  unfold byA
  rw [c_ld E hb_, c_pr hV E B, c_isH hV E B hb_]
  show (if hb (sfa S) (nI b) && inB y (nI 2) (nI 5) then nI 0 else if y = nI 0 then th b else if y = nI 1 then pa b else _) = _
  rw [(E.1 b hb_).1, (E.1 b hb_).2]
theorem c_buA (E : eV V th pa ki sg kn) (B : eB (vnf V) S bo) {f : Nat} (hf : f < vnf V) (y : Int32) : buA (wV V th pa ki sg kn) (sBo S bo) f y = buA V S f y := by
  unfold buA
  show (if y = nI 0 then ki f else if y = nI 1 then sg f else if y = nI 2 then bo f else if y = nI 3 then kn f else _) = _
  rw [(E.2 f hf).1, (E.2 f hf).2.1, (E.2 f hf).2.2, B f hf]
theorem c_ctA (hV : okV V) (E : eV V th pa ki sg kn) (B : eB (vnf V) S bo) (k1 k2 t y : Int32) : ctA (wV V th pa ki sg kn) (sBo S bo) k1 k2 t y = ctA V S k1 k2 t y := by
  unfold ctA
  show (if y = nI 0 then _ else if y = nI 1 then _ else if y = nI 2 then _ else if y = nI 3 then _ else if y = nI 4 then on (hdN (wV V th pa ki sg kn) (sBo S bo) (vnb V)) 8 else _) = _
  rw [c_hdN hV E B _ (Nat.le_refl _)]
end CI
/-! rosters: S is the start, T how things are -/
theorem c_roS {V : WT} {S T : ST} {bs bo : Nat → Int32} (c n h : Nat) {f : Nat} (hf : f < vnf V) (B : eB (vnf V) T bo) : roS (sBo S bs) c n h f (sBo T bo) = sBo (roS S c n h f T) bo ∧ eB (vnf V) (roS S c n h f T) bo := by
  unfold roS
  show (if hb (sup S) (nI f) then (if _ then _ else if _ then _ else _) else _) = _ ∧ _
  split
  · split
    · exact ⟨c_ri B hf, B⟩
    · split
      · exact ⟨rfl, B⟩
      · exact ⟨rfl, B⟩
  · exact ⟨rfl, B⟩
theorem c_roN {V : WT} {S T : ST} {bs bo : Nat → Int32} (c n h : Nat) (B : eB (vnf V) T bo) : ∀ f, f ≤ vnf V → roN (sBo S bs) c n h (sBo T bo) f = sBo (roN S c n h T f) bo ∧ eB (vnf V) (roN S c n h T f) bo
  | 0, _ => ⟨rfl, B⟩
  | f + 1, hf => by
    obtain ⟨e, B2⟩ := c_roN (S := S) (bs := bs) c n h B f (by omega)
    rw [roN, roN, e]
    exact c_roS c n h (by omega) B2
theorem c_rsO {V : WT} {th pa ki sg kn : Nat → Int32} (hV : okV V) (E : eV V th pa ki sg kn) {S : ST} {bs bo : Nat → Int32} (c n : Nat) : ∀ (i h : Nat) (T : ST), eB (vnf V) T bo → (rsO (wV V th pa ki sg kn) (sBo S bs) c n i h (sBo T bo)).1 = (rsO V S c n i h T).1
  | 0, _, _, _ => rfl
  | i + 1, h, T, B => by
    obtain ⟨e, B2⟩ := c_roN (S := S) (bs := bs) c n h B (vnf V) (Nat.le_refl _)
    rw [rsO, rsO]
    show (if sfa (psF (wV V th pa ki sg kn) (roN (sBo S bs) c n h (sBo T bo) (vnf V))) = sfa S then rsO (wV V th pa ki sg kn) (sBo S bs) c n i (h + 1) (psF (wV V th pa ki sg kn) (roN (sBo S bs) c n h (sBo T bo) (vnf V))) else _).1 = _
    rw [e, c_ps hV E B2]
    by_cases q : sfa (psF V (roN S c n h T (vnf V))) = sfa S
    · rw [if_pos q, if_pos q]
      exact c_rsO hV E c n i (h + 1) _ B2
    · rw [if_neg q, if_neg q]
theorem c_isR {V : WT} {th pa ki sg kn : Nat → Int32} (hV : okV V) (E : eV V th pa ki sg kn) {S : ST} {bo : Nat → Int32} (B : eB (vnf V) S bo) (c n : Nat) : isR (wV V th pa ki sg kn) (sBo S bo) c n = isR V S c n := c_rsO hV E c n n 0 S B

/-! 72.begin: from the law's entry to its loop -/
theorem I8_ext {w u : List va_E} (h : ∀ k, k < 109 → u[k]? = w[k]?) (hlen : 109 ≤ u.length) {kc : Int32} {la sp n : Nat} {tf : Nat → Int32} {S : ST} {tn sz : Nat} {P K : Nat → ST} {V : WT} {dn : Int32} {fb : Nat → Int32} (I : I8 w kc la sp n tf S tn sz P K V dn fb) : I8 u kc la sp n tf S tn sz P K V dn fb := by
  have hst : ∀ {k : Nat} {S : ST}, k + 3 < 109 → stF w k S → stF u k S := fun hk hs => ⟨(h _ (by omega)).trans hs.1, (h _ (by omega)).trans hs.2.1, (h _ (by omega)).trans hs.2.2.1, (h _ (by omega)).trans hs.2.2.2⟩
  have hco : ∀ {k : Nat} {a b c : Nat → Int32}, k + 3 < 109 → coF w k a b c → coF u k a b c := fun hk hs => ⟨(h _ (by omega)).trans hs.1, (h _ (by omega)).trans hs.2.1, (h _ (by omega)).trans hs.2.2.1, (h _ (by omega)).trans hs.2.2.2⟩
  have hwl : ∀ {k : Nat} {V : WT} {dn : Int32} {fb : Nat → Int32}, k + 6 < 109 → wlF w k V dn fb → wlF u k V dn fb := fun hk hs => ⟨(h _ (by omega)).trans hs.1, (h _ (by omega)).trans hs.2.1, (h _ (by omega)).trans hs.2.2.1, (h _ (by omega)).trans hs.2.2.2.1, (h _ (by omega)).trans hs.2.2.2.2.1, (h _ (by omega)).trans hs.2.2.2.2.2.1, (h _ (by omega)).trans hs.2.2.2.2.2.2⟩
  obtain ⟨fl, hl, ho, ht, ⟨nm, nx, r1, r2⟩, ⟨rb, lb, pb, hc⟩, ⟨fell, T, ra, lo, pr, hT, i1, i2, i3⟩, ⟨m, fk, A, ra2, lo2, pr2, hm, hfk, hA, g1, g2, g3, g4⟩, hno, ⟨t1, t2, t3⟩, ⟨k1, k2⟩, hw, ⟨U, un, ub, hY, hs⟩⟩ := I
  exact ⟨fl, hlen, (h _ (by omega)).trans ho, ⟨(h _ (by omega)).trans ht.1, (h _ (by omega)).trans ht.2⟩, ⟨nm, nx, (h _ (by omega)).trans r1, (h _ (by omega)).trans r2⟩, ⟨rb, lb, pb, hco (by omega) hc⟩, ⟨fell, T, ra, lo, pr, hT, (h _ (by omega)).trans i1, hst (by omega) i2, hco (by omega) i3⟩, ⟨m, fk, A, ra2, lo2, pr2, hm, hfk, hA, (h _ (by omega)).trans g1, hco (by omega) g2, (h _ (by omega)).trans g3, fun i hi => hst (by omega) (g4 i hi)⟩, hst (by omega) hno, ⟨(h _ (by omega)).trans t1, (h _ (by omega)).trans t2, fun i hi => hst (by omega) (t3 i hi)⟩, ⟨(h _ (by omega)).trans k1, fun i hi => hst (by omega) (k2 i hi)⟩, hwl (by omega) hw, ⟨U, un, ub, hY, hwl (by omega) hs⟩⟩
theorem wa_same {n : Nat} {ct ad ad2 : Nat → Nat} {w : List va_E} (hl : w.length = n) (hc : clW n w) (e : ∀ i, i < n → ad2 i = ad i) : wa ct ad2 w = wa ct ad w := by
  apply List.ext_getElem?
  intro i
  rw [wa_get, wa_get]
  cases hx : w[i]? with
  | none => rfl
  | some x =>
    have hi : i < n := by rw [← hl]; exact (List.getElem?_eq_some_iff.mp hx).1
    show some (ad2 i, rcl ct ad2 x) = some (ad i, rcl ct ad x)
    rw [e i hi, rcl_cl e (clW_mem hc x (List.mem_of_getElem? hx))]
theorem mw_cl : clW 9 (mw eM (tk VM) (pk SM0)) := ⟨rfl, trivial, trivial, trivial, trivial, trivial, trivial, trivial, trivial, trivial⟩
theorem ConE_blind {E : State → (Nat → Prop) → Prop} (hE : ∀ (a : Array Value) (U : State) (g : JFrame) (mk : MethodId) (A : Nat → Prop), E U A → E (U.calling g mk a) A) {D : va_G} {ct ad : Nat → Nat} {sz : Nat} {av : List Value} {w : List va_E} {A : Nat → Prop} : FrameBlind (fun a U => Pm D ct ad sz av w a U ∧ E U A) := fun a U g mk q => ⟨Pm_blind a U g mk q.1, hE a U g mk A q.2⟩
theorem EZ_calling (a : Array Value) (U : State) (g : JFrame) (mk : MethodId) (A : Nat → Prop) (h : EZ U A) : EZ (U.calling g mk a) A := by
  obtain ⟨aS, aV, h1, h2⟩ := h
  exact ⟨aS, aV, vk_R.same (u := U) (U := U.calling g mk a) rfl h1, h2.moved (u := U) (U := U.calling g mk a) (Vm.Alike.refl U.vm)⟩
set_option maxRecDepth 20000 in
set_option maxHeartbeats 4000000 in
/-- YOUR PART: from the entry, for every script of at most 2048 ints, the law comes to its end with true -/
theorem whole_start {p : Program} {e : Env} {s : State} {m : MethodId} {below : List Frame} {meth : Method} {c : Code} (l : Launch) {b L : Nat} {xs : Nat → Int32} (hL : L ≤ 2048) (C0 : lw_At p s m meth c b L xs) : W p l e room_1 s m #[Value.ref b] below meth c s.heap [] 0 0 (lw_Z below #[Value.ref b] s) (entryFrame m ([Value.ref b] : List Value).toArray 4) := by
  obtain ⟨hx, hb, hr, hml, hown, hts, hX, hbl, hlk, hgv⟩ := C0
  have htb : ∀ w ∈ big, w.before #[Value.ref b] s = true := fun w hw => hts w (List.mem_filter.mp hw).1
  obtain ⟨D, ct, hKB⟩ := kb_of hts
  obtain ⟨aS, aV, hR, hSF⟩ := ez_of hts hgv
  have hown : s.vm.findClass RL = some m.cls := hown
  have hb : c.code = cL_law := hb
  rw [lg_entry_eq]
  have hl := lv_entry [Value.ref b] (n := 4) (Nat.le_of_ble_eq_true rfl)
  generalize (lg_sl [Value.ref b] ++ List.replicate (4 - (lg_sl [Value.ref b]).length) Slot.unset).toArray = la0 at hl ⊢
  -- the class's object
  refine va_new (own := RL) (Ts := big) (ws := []) (A := Ah s) (cl := vwCl) (tys := tys3 ct) (D := D) (ci := 8) (N := 11) (fs := dfX8) hx hb htb us_X8 tyX8 tyX8_ok hown (htb _ kl_L_7) (htb _ ki_X8) (htb _ kj_X8) hKB.1 (fun k q h => by cases h) ⟨(fun i j p q h => by cases h), (fun k q h => by cases h)⟩ va_S.rf (fun q h => h) rfl dfok_X8 (by decide) (by decide) dL_law_0 (fun q8 H1 hP1 hD1 hS1 => ?_)
  refine lv_dup hx hb dL_law_3 rfl ?_
  have eW : ([(q8, .inr (8, dfX8))] : va_W) = wa ct (fun _ => q8) [.inr (8, dfX8)] := rfl
  rw [List.nil_append, eW] at hP1 hD1
  have hF1 : ∀ q, va_A (wa ct (fun _ => q8) [.inr (8, dfX8)]) H1.size q → Ah s q := fun q h => by
    rcases h with ⟨k, e1, h⟩ | h
    · exact hD1.2 k _ h
    · exact Nat.le_trans hS1.1 h
  obtain ⟨⟨hini, hcode, hy⟩, hlk9, him, hnm, hrt⟩ := ci_L_9
  have hM := t_X8_init l D ct (fun _ => q8) H1.size
  refine run_backK (cw := [.inr (8, dfX8)]) (ad := fun _ => q8) (A := Ah s) (rest := [.ref q8]) (va_runI (b := q8) (As := []) ⟨hx, hb, hml, hown, htb⟩ hM
    ⟨callB_of 0 htb (good_big hcode) rfl rfl rfl (htb _ hini) (htb _ hlk9) hy ⟨by decide, by decide⟩, hnm, htb _ him⟩
    ⟨ConE_blind EZ_calling, fun U hU hW => ⟨⟨rfl, by rw [hU], by rw [hU]; exact hP1, KB.moved hW hKB, hD1.weaken (fun _ _ _ _ => trivial)⟩, aS, aV, vk_R.warm hW hR, by rw [hU]; exact ((hSF.kept hS1.2.1).narrow hF1).moved hW.alike⟩⟩
    rfl rfl hl.1 rfl (Nat.le_of_ble_eq_true rfl) dL_law_4 ⟨by decide, by decide⟩) hS1 hF1 (fun r u ad1 H2 locs2 hq had hP2 hD2 hk2 hS2 => ?_)
  obtain ⟨rfl, hul, huc, tf, hI⟩ := hq
  have hD2 : va_D (Ah s) (wa ct ad1 u) := hD2.weaken (fun _ _ _ h => hF1 _ h)
  refine lv_astore_n hx hb dL_law_7 rfl hl (by decide) rfl (fun la1 h1 => ?_)
  -- the reference's object
  refine va_new (own := RL) (Ts := big) (A := Ah s) (cl := vwCl) (tys := tys3 ct) (D := D) (ci := 9) (N := 13) (fs := dfX9) hx hb htb us_X9 tyX9 tyX9_ok hown (htb _ kl_L_10) (htb _ ki_X9) (htb _ kj_X9) hKB.1 hP2 hD2 hS2 (fun q h => h) rfl dfok_X9 (by decide) (by decide) dL_law_8 (fun q9 H3 hP3 hD3 hS3 => ?_)
  refine lv_dup hx hb dL_law_11 rfl ?_
  have eW3 : wa ct ad1 u ++ [(q9, .inr (9, dfX9))] = wa ct (fun i => if i < 109 then ad1 i else q9) (u ++ [.inr (9, dfX9)]) := by
    apply List.ext_getElem?
    intro i
    rw [wa_get]
    rcases Nat.lt_or_ge i 109 with h | h
    · rw [List.getElem?_append_left (by rw [wa_len]; omega), List.getElem?_append_left (by omega), wa_get]
      cases hx : u[i]? with
      | none => rfl
      | some x =>
        show some (ad1 i, rcl ct ad1 x) = some ((if i < 109 then ad1 i else q9), rcl ct _ x)
        rw [if_pos h, rcl_cl (n := 109) (ad := ad1) (ad2 := fun i => if i < 109 then ad1 i else q9) (fun i hi => if_pos hi) (clW_mem huc x (List.mem_of_getElem? hx))]
    · rw [List.getElem?_append_right (by rw [wa_len]; omega), List.getElem?_append_right (by omega), wa_len, hul]
      rcases Nat.lt_or_ge (i - 109) 1 with r | r
      · have e1 : i = 109 := by omega
        subst e1
        rfl
      · rw [List.getElem?_eq_none (by exact r), List.getElem?_eq_none (by exact r)]
        rfl
  rw [eW3] at hP3 hD3
  generalize had3 : (fun i => if i < 109 then ad1 i else q9) = ad3 at hP3 hD3
  have e109 : ad3 109 = q9 := by rw [← had3]; rfl
  have e0 : ad3 0 = q8 := by rw [← had3]; exact had 0 (by decide)
  have hwl : (u ++ [.inr (9, dfX9)] : List va_E).length = 110 := by rw [List.length_append, hul]; rfl
  have hwc : clW 110 (u ++ [.inr (9, dfX9)]) := clW_app (clW_le (by decide) huc) ⟨rfl, trivial⟩
  have hwa : (u ++ [.inr (9, dfX9)] : List va_E)[109]? = some (.inr (9, dfX9)) := by rw [List.getElem?_append_right (by omega), hul]; rfl
  obtain ⟨⟨hini9, hcode9, hy9⟩, hlk12, him9, hnm9, hrt9⟩ := ci_L_12
  have hM9 := t_X9_init l D ct (fun _ => ad3 109) H3.size
  have hcut : [109].map (fun i => (wa ct ad3 (u ++ [.inr (9, dfX9)]))[i]?) = (wa ct (fun _ => ad3 109) [.inr (9, dfX9)]).map some := by
    show [(wa ct ad3 (u ++ [.inr (9, dfX9)]))[109]?] = [some (ad3 109, rcl ct (fun _ => ad3 109) (.inr (9, dfX9)))]
    rw [wa_at hwa]
    rfl
  have hPc := hP3.sub (ws' := wa ct (fun _ => ad3 109) [.inr (9, dfX9)]) [109] (fm_of _ _ _ hcut)
  have hDc := hD3.sub [109] rfl hcut
  have hF3 := va_free (wc := wa ct (fun _ => ad3 109) [.inr (9, dfX9)]) hD3 hS3 (fun q h => h) [109] hcut
  rw [← e109]
  refine run_backK (cw := [.inr (9, dfX9)]) (ad := fun _ => ad3 109) (A := Ah s) (rest := [.ref (ad3 109)]) (va_runI (b := ad3 109) (As := []) ⟨hx, hb, hml, hown, htb⟩ hM9
    ⟨callB_of 0 htb (good_big hcode9) rfl rfl rfl (htb _ hini9) (htb _ hlk12) hy9 ⟨by decide, by decide⟩, hnm9, htb _ him9⟩
    ⟨Pm_blind, fun U hU hW => ⟨rfl, by rw [hU], by rw [hU]; exact hPc, KB.moved hW hKB, hDc.weaken (fun _ _ _ _ => trivial)⟩⟩
    rfl rfl h1.1 rfl (Nat.le_of_ble_eq_true rfl) dL_law_12 ⟨by decide, by decide⟩) hS3 hF3 (fun r cw2 ad2 H4 locs4 hq had2 hP4 hD4 hk4 hS4 => ?_)
  obtain ⟨rfl, rfl⟩ := hq
  have h2 : ad2 0 = ad3 109 := had2 0 (by decide)
  have hvA : ∀ q, va_A (wa ct (fun _ => ad3 109) [.inr (9, dfX9)]) H3.size q ↔ (q = ad3 109 ∨ H3.size ≤ q) := fun q => by
    constructor
    · rintro (⟨k, e1, h⟩ | h)
      · rw [wa_get] at h
        obtain ⟨x, hx, h⟩ := Option.map_eq_some_iff.mp h
        exact Or.inl (congrArg Prod.fst h).symm
      · exact Or.inr h
    · rintro (rfl | h)
      · exact Or.inl ⟨0, _, rfl⟩
      · exact Or.inr h
  obtain ⟨y0, news, hyn, hnl⟩ : ∃ (y0 : va_E) (news : List va_E), mw eM (tk VM) (pk SM0) = y0 :: news ∧ news.length = 8 := ⟨_, _, rfl, rfl⟩
  have hcn := mw_cl
  rw [hyn] at hP4 hD4 hcn
  have hcn2 : clW (1 + news.length) (y0 :: news) := by rw [hnl]; exact hcn
  obtain ⟨hP5, hD5⟩ := wa_grow (ps := rg 109 9) (a := 109) hwa (by rw [hwl]; exact hwc) hcn2 (fun j hj => by
    rw [hnl] at hj
    rw [sg_rg (show j < 9 by omega), hwl]
    by_cases q : j = 0
    · rw [if_pos q, q]
    · rw [if_neg q]; omega) hP3 hD3 h2 hP4 (hD4.weaken (fun _ q _ h => (hvA _).mp h)) (fun q g1 g2 => hk4 q g1 (fun x => by
    rcases (hvA q).mp x with y | y
    · exact g2 y
    · omega)) (fun q hq => hF3 q ((hvA q).mpr (Or.inr hq)))
  have eWd : (u ++ [.inr (9, dfX9)] : List va_E).set 109 (ren (rg 109 9) y0) ++ news.map (ren (rg 109 9)) = u ++ (y0 :: news).map (ren (rg 109 9)) := by
    rw [List.set_append_right _ _ (by omega), hul, List.append_assoc]
    rfl
  rw [eWd, ← hyn, hwl] at hP5 hD5
  have hwl2 : (u ++ (mw eM (tk VM) (pk SM0)).map (ren (rg 109 9)) : List va_E).length = 118 := by rw [List.length_append, hul]; rfl
  have hwc2 : clW 118 (u ++ (mw eM (tk VM) (pk SM0)).map (ren (rg 109 9))) := clW_app (clW_le (by decide) huc) (clW_ren (n := 9) (fun j hj => by rw [sg_rg hj]; omega) mw_cl)
  generalize had5 : (fun i => if i < 110 then ad3 i else ad2 (i - 110 + 1)) = ad5 at hP5 hD5
  have hfin : ∀ i, i < 118 → (fun i => if i = 1000 then b else ad5 i) i = ad5 i := fun i hi => if_neg (by omega)
  have eF := wa_same (ct := ct) (ad := ad5) (ad2 := fun i => if i = 1000 then b else ad5 i) hwl2 hwc2 hfin
  have a0 : ad5 0 = q8 := by rw [← had5]; exact e0
  have a9 : ad5 109 = ad3 109 := by rw [← had5]; rfl
  rw [← eF] at hP5 hD5
  have hoM : ∀ j, j < 9 → (u ++ (mw eM (tk VM) (pk SM0)).map (ren (rg 109 9)) : List va_E)[109 + j]? = ((mw eM (tk VM) (pk SM0)).map (ren (rg 109 9)))[j]? := fun j hj => by rw [List.getElem?_append_right (by omega), hul, Nat.add_sub_cancel_left]
  have hCo : CoI 0 (u ++ (mw eM (tk VM) (pk SM0)).map (ren (rg 109 9))) := co_init (I8_ext (fun k hk => List.getElem?_append_left (by omega)) (by rw [hwl2]; decide) hI) ⟨(hoM 0 (by decide)).trans rfl, (hoM 1 (by decide)).trans rfl, (hoM 2 (by decide)).trans rfl, (hoM 3 (by decide)).trans rfl, (hoM 4 (by decide)).trans rfl, (hoM 5 (by decide)).trans rfl, (hoM 6 (by decide)).trans rfl, (hoM 7 (by decide)).trans rfl, (hoM 8 (by decide)).trans rfl⟩
  refine lv_astore_n hx hb dL_law_15 rfl h1 (by decide) rfl (fun la2 h2 => ?_)
  have hG : GL l b L xs 16 [some (.ref 1000), some (.ref 0), some (.ref 109), none] [] (u ++ (mw eM (tk VM) (pk SM0)).map (ren (rg 109 9))) := by
    refine gl_iconst (v := nI 0) (n := 17) dL_law_16 (by decide) rfl ?_
    refine gl_istore_n (n := 18) dL_law_17 (by decide) rfl rfl ?_
    refine gl_lsN (ls' := lsL (4 * 0)) rfl ?_
    exact lw_loop l hL 600 0 _ (by decide) hCo (by decide)
  refine hG p e s m below meth c D ct (fun i => if i = 1000 then b else ad5 i) H4 locs4 la2 ⟨hx, hb, hr, hml, hown, htb, hlk, hKB, hX, hbl⟩ rfl hP5 hD5 hS4 ⟨h2.1, h2.2.1, fun i v hi => ?_⟩
  have hmem := h2.2.2
  rcases Nat.lt_or_ge i 4 with r | r
  · rcases (show i = 0 ∨ i = 1 ∨ i = 2 ∨ i = 3 by omega) with rfl | rfl | rfl | rfl
    · cases hi
      exact hmem (0, .ref b) (List.mem_of_getElem? (i := 2) rfl)
    · cases hi
      show la2[1]? = some (.val (.ref (ad5 0)))
      rw [a0]
      exact hmem (1, .ref q8) (List.mem_of_getElem? (i := 1) rfl)
    · cases hi
      show la2[2]? = some (.val (.ref (ad5 109)))
      rw [a9]
      exact hmem (2, .ref (ad3 109)) (List.mem_of_getElem? (i := 0) rfl)
    · cases hi
  · rw [List.getElem?_eq_none (by exact r)] at hi
    cases hi

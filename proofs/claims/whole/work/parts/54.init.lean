/-! 54.init: constructors -/
abbrev M_X8_init : MC := (yX8_init, cX8_init, 2, none, 9, 108, 885)
theorem cb_X8_init : CB M_X8_init 0 := ⟨(big_of 50 (by decide +kernel) (by decide +kernel)), (big_of 71 (by decide +kernel) (by decide +kernel)), by decide +kernel⟩
abbrev M_X9_init : MC := (yX9_init, cX9_init, 1, none, 3, 8, 558)
theorem cb_X9_init : CB M_X9_init 0 := ⟨(big_of 63 (by decide +kernel) (by decide +kernel)), (big_of 802 (by decide +kernel) (by decide +kernel)), by decide +kernel⟩
abbrev M_X0_init : MC := (yX0_init, cX0_init, 1, none, 2, 3, 24)
theorem cb_X0_init : CB M_X0_init 0 := ⟨(big_of 53 (by decide +kernel) (by decide +kernel)), (big_of 109 (by decide +kernel) (by decide +kernel)), by decide +kernel⟩
abbrev M_X1_init : MC := (yX1_init, cX1_init, 1, none, 2, 1, 4)
theorem cb_X1_init : CB M_X1_init 0 := ⟨(big_of 52 (by decide +kernel) (by decide +kernel)), (big_of 95 (by decide +kernel) (by decide +kernel)), by decide +kernel⟩
abbrev M_X2_init : MC := (yX2_init, cX2_init, 2, none, 3, 29, 189)
theorem cb_X2_init : CB M_X2_init 0 := ⟨(big_of 56 (by decide +kernel) (by decide +kernel)), (big_of 184 (by decide +kernel) (by decide +kernel)), by decide +kernel⟩
abbrev M_X3_init : MC := (yX3_init, cX3_init, 1, none, 2, 3, 20)
theorem cb_X3_init : CB M_X3_init 0 := ⟨(big_of 55 (by decide +kernel) (by decide +kernel)), (big_of 133 (by decide +kernel) (by decide +kernel)), by decide +kernel⟩
abbrev M_X4_init : MC := (yX4_init, cX4_init, 1, none, 2, 1, 200)
theorem cb_X4_init : CB M_X4_init 0 := ⟨(big_of 51 (by decide +kernel) (by decide +kernel)), (big_of 79 (by decide +kernel) (by decide +kernel)), by decide +kernel⟩
abbrev M_X5_init : MC := (yX5_init, cX5_init, 2, none, 3, 33, 216)
theorem cb_X5_init : CB M_X5_init 0 := ⟨(big_of 57 (by decide +kernel) (by decide +kernel)), (big_of 210 (by decide +kernel) (by decide +kernel)), by decide +kernel⟩
abbrev M_X6_init : MC := (yX6_init, cX6_init, 1, none, 3, 8, 53)
theorem cb_X6_init : CB M_X6_init 0 := ⟨(big_of 54 (by decide +kernel) (by decide +kernel)), (big_of 127 (by decide +kernel) (by decide +kernel)), by decide +kernel⟩
abbrev M_X7_init : MC := (yX7_init, cX7_init, 1, none, 2, 6, 40)
theorem cb_X7_init : CB M_X7_init 0 := ⟨(big_of 58 (by decide +kernel) (by decide +kernel)), (big_of 229 (by decide +kernel) (by decide +kernel)), by decide +kernel⟩
theorem ci_X8_9 : CIN RX8 9 M_X4_init 0 := ⟨cb_X4_init, by decide +kernel, (big_of 78 (by decide +kernel) (by decide +kernel)), rfl, rfl⟩
theorem ci_X8_18 : CIN RX8 18 M_X1_init 0 := ⟨cb_X1_init, by decide +kernel, (big_of 94 (by decide +kernel) (by decide +kernel)), rfl, rfl⟩
theorem ci_X8_25 : CIN RX8 25 M_X0_init 0 := ⟨cb_X0_init, by decide +kernel, (big_of 108 (by decide +kernel) (by decide +kernel)), rfl, rfl⟩
theorem ci_X8_32 : CIN RX8 32 M_X6_init 0 := ⟨cb_X6_init, by decide +kernel, (big_of 126 (by decide +kernel) (by decide +kernel)), rfl, rfl⟩
theorem ci_X8_39 : CI RX8 39 M_X2_init 0 := ⟨cb_X2_init, (big_of 182 (by decide +kernel) (by decide +kernel)), (big_of 183 (by decide +kernel) (by decide +kernel)), rfl, rfl⟩
theorem ci_X8_46 : CIN RX8 46 M_X3_init 0 := ⟨cb_X3_init, by decide +kernel, (big_of 132 (by decide +kernel) (by decide +kernel)), rfl, rfl⟩
theorem ci_X8_53 : CI RX8 53 M_X5_init 0 := ⟨cb_X5_init, (big_of 208 (by decide +kernel) (by decide +kernel)), (big_of 209 (by decide +kernel) (by decide +kernel)), rfl, rfl⟩
theorem ci_X8_64 : CIN RX8 64 M_X7_init 0 := ⟨cb_X7_init, by decide +kernel, (big_of 228 (by decide +kernel) (by decide +kernel)), rfl, rfl⟩
theorem ci_X2_13 : CIN RX2 13 M_X0_init 0 := ⟨cb_X0_init, by decide +kernel, (big_of 108 (by decide +kernel) (by decide +kernel)), rfl, rfl⟩
theorem ci_X2_24 : CIN RX2 24 M_X3_init 0 := ⟨cb_X3_init, by decide +kernel, (big_of 132 (by decide +kernel) (by decide +kernel)), rfl, rfl⟩
theorem ci_X5_17 : CIN RX5 17 M_X3_init 0 := ⟨cb_X3_init, by decide +kernel, (big_of 132 (by decide +kernel) (by decide +kernel)), rfl, rfl⟩
theorem ci_X6_11 : CIN RX6 11 M_X3_init 0 := ⟨cb_X3_init, by decide +kernel, (big_of 132 (by decide +kernel) (by decide +kernel)), rfl, rfl⟩
theorem ci_X6_20 : CIN RX6 20 M_X0_init 0 := ⟨cb_X0_init, by decide +kernel, (big_of 108 (by decide +kernel) (by decide +kernel)), rfl, rfl⟩
theorem kl_X8_7 : Cond.classLink RX8 7 RX4 ∈ big := (big_of 75 (by decide +kernel) (by decide +kernel))
theorem kl_X8_16 : Cond.classLink RX8 16 RX1 ∈ big := (big_of 91 (by decide +kernel) (by decide +kernel))
theorem kl_X8_23 : Cond.classLink RX8 23 RX0 ∈ big := (big_of 105 (by decide +kernel) (by decide +kernel))
theorem kl_X8_30 : Cond.classLink RX8 30 RX6 ∈ big := (big_of 123 (by decide +kernel) (by decide +kernel))
theorem kl_X8_37 : Cond.classLink RX8 37 RX2 ∈ big := (big_of 180 (by decide +kernel) (by decide +kernel))
theorem kl_X8_44 : Cond.classLink RX8 44 RX3 ∈ big := (big_of 204 (by decide +kernel) (by decide +kernel))
theorem kl_X8_51 : Cond.classLink RX8 51 RX5 ∈ big := (big_of 206 (by decide +kernel) (by decide +kernel))
theorem kl_X8_62 : Cond.classLink RX8 62 RX7 ∈ big := (big_of 225 (by decide +kernel) (by decide +kernel))
theorem kl_X2_11 : Cond.classLink RX2 11 RX0 ∈ big := (big_of 186 (by decide +kernel) (by decide +kernel))
theorem kl_X2_18 : Cond.classLink RX2 18 RX3 ∈ big := (big_of 188 (by decide +kernel) (by decide +kernel))
theorem kl_X5_9 : Cond.classLink RX5 9 RX3 ∈ big := (big_of 212 (by decide +kernel) (by decide +kernel))
theorem kl_X6_9 : Cond.classLink RX6 9 RX3 ∈ big := (big_of 129 (by decide +kernel) (by decide +kernel))
theorem kl_X6_18 : Cond.classLink RX6 18 RX0 ∈ big := (big_of 167 (by decide +kernel) (by decide +kernel))
theorem ki_X0 : Cond.instantiable RX0 3 ∈ big := (big_of 106 (by decide +kernel) (by decide +kernel))
theorem kj_X0 : Cond.initialized RX0 ∈ big := (big_of 53 (by decide +kernel) (by decide +kernel))
abbrev dfX0 : List Value := [.null, .null, .null]
theorem dfok_X0 : ∀ j, j < 3 → defaultValue (tyX0 j) = vp_V dfX0 j := fun j hj => by
  rcases (show j = 0 ∨ j = 1 ∨ j = 2 by omega) with rfl | rfl | rfl
  · rfl
  · rfl
  · rfl
theorem ki_X1 : Cond.instantiable RX1 2 ∈ big := (big_of 92 (by decide +kernel) (by decide +kernel))
theorem kj_X1 : Cond.initialized RX1 ∈ big := (big_of 52 (by decide +kernel) (by decide +kernel))
abbrev dfX1 : List Value := [.null, .int (nI 0)]
theorem dfok_X1 : ∀ j, j < 2 → defaultValue (tyX1 j) = vp_V dfX1 j := fun j hj => by
  rcases (show j = 0 ∨ j = 1 by omega) with rfl | rfl
  · rfl
  · rfl
theorem ki_X2 : Cond.instantiable RX2 4 ∈ big := (big_of 181 (by decide +kernel) (by decide +kernel))
theorem kj_X2 : Cond.initialized RX2 ∈ big := (big_of 56 (by decide +kernel) (by decide +kernel))
abbrev dfX2 : List Value := [.null, .null, .int (nI 0), .int (nI 0)]
theorem dfok_X2 : ∀ j, j < 4 → defaultValue (tyX2 j) = vp_V dfX2 j := fun j hj => by
  rcases (show j = 0 ∨ j = 1 ∨ j = 2 ∨ j = 3 by omega) with rfl | rfl | rfl | rfl
  · rfl
  · rfl
  · rfl
  · rfl
theorem ki_X3 : Cond.instantiable RX3 6 ∈ big := (big_of 130 (by decide +kernel) (by decide +kernel))
theorem kj_X3 : Cond.initialized RX3 ∈ big := (big_of 55 (by decide +kernel) (by decide +kernel))
abbrev dfX3 : List Value := [.int (nI 0), .int (nI 0), .int (nI 0), .null, .null, .null]
theorem dfok_X3 : ∀ j, j < 6 → defaultValue (tyX3 j) = vp_V dfX3 j := fun j hj => by
  rcases (show j = 0 ∨ j = 1 ∨ j = 2 ∨ j = 3 ∨ j = 4 ∨ j = 5 by omega) with rfl | rfl | rfl | rfl | rfl | rfl
  · rfl
  · rfl
  · rfl
  · rfl
  · rfl
  · rfl
theorem ki_X4 : Cond.instantiable RX4 2 ∈ big := (big_of 76 (by decide +kernel) (by decide +kernel))
theorem kj_X4 : Cond.initialized RX4 ∈ big := (big_of 51 (by decide +kernel) (by decide +kernel))
abbrev dfX4 : List Value := [.null, .int (nI 0)]
theorem dfok_X4 : ∀ j, j < 2 → defaultValue (tyX4 j) = vp_V dfX4 j := fun j hj => by
  rcases (show j = 0 ∨ j = 1 by omega) with rfl | rfl
  · rfl
  · rfl
theorem ki_X5 : Cond.instantiable RX5 3 ∈ big := (big_of 207 (by decide +kernel) (by decide +kernel))
theorem kj_X5 : Cond.initialized RX5 ∈ big := (big_of 57 (by decide +kernel) (by decide +kernel))
abbrev dfX5 : List Value := [.null, .int (nI 0), .int (nI 0)]
theorem dfok_X5 : ∀ j, j < 3 → defaultValue (tyX5 j) = vp_V dfX5 j := fun j hj => by
  rcases (show j = 0 ∨ j = 1 ∨ j = 2 by omega) with rfl | rfl | rfl
  · rfl
  · rfl
  · rfl
theorem ki_X6 : Cond.instantiable RX6 3 ∈ big := (big_of 124 (by decide +kernel) (by decide +kernel))
theorem kj_X6 : Cond.initialized RX6 ∈ big := (big_of 54 (by decide +kernel) (by decide +kernel))
abbrev dfX6 : List Value := [.null, .null, .int (nI 0)]
theorem dfok_X6 : ∀ j, j < 3 → defaultValue (tyX6 j) = vp_V dfX6 j := fun j hj => by
  rcases (show j = 0 ∨ j = 1 ∨ j = 2 by omega) with rfl | rfl | rfl
  · rfl
  · rfl
  · rfl
theorem ki_X7 : Cond.instantiable RX7 11 ∈ big := (big_of 226 (by decide +kernel) (by decide +kernel))
theorem kj_X7 : Cond.initialized RX7 ∈ big := (big_of 58 (by decide +kernel) (by decide +kernel))
abbrev dfX7 : List Value := [.int (nI 0), .int (nI 0), .int (nI 0), .int (nI 0), .int (nI 0), .null, .null, .null, .null, .null, .null]
theorem dfok_X7 : ∀ j, j < 11 → defaultValue (tyX7 j) = vp_V dfX7 j := fun j hj => by
  rcases (show j = 0 ∨ j = 1 ∨ j = 2 ∨ j = 3 ∨ j = 4 ∨ j = 5 ∨ j = 6 ∨ j = 7 ∨ j = 8 ∨ j = 9 ∨ j = 10 by omega) with rfl | rfl | rfl | rfl | rfl | rfl | rfl | rfl | rfl | rfl | rfl
  · rfl
  · rfl
  · rfl
  · rfl
  · rfl
  · rfl
  · rfl
  · rfl
  · rfl
  · rfl
  · rfl
theorem ki_X8 : Cond.instantiable RX8 11 ∈ big := (big_of 68 (by decide +kernel) (by decide +kernel))
theorem kj_X8 : Cond.initialized RX8 ∈ big := (big_of 50 (by decide +kernel) (by decide +kernel))
abbrev dfX8 : List Value := [.null, .null, .null, .null, .null, .null, .null, .null, .int (nI 0), .null, .null]
theorem dfok_X8 : ∀ j, j < 11 → defaultValue (tyX8 j) = vp_V dfX8 j := fun j hj => by
  rcases (show j = 0 ∨ j = 1 ∨ j = 2 ∨ j = 3 ∨ j = 4 ∨ j = 5 ∨ j = 6 ∨ j = 7 ∨ j = 8 ∨ j = 9 ∨ j = 10 by omega) with rfl | rfl | rfl | rfl | rfl | rfl | rfl | rfl | rfl | rfl | rfl
  · rfl
  · rfl
  · rfl
  · rfl
  · rfl
  · rfl
  · rfl
  · rfl
  · rfl
  · rfl
  · rfl
theorem ki_X9 : Cond.instantiable RX9 13 ∈ big := (big_of 799 (by decide +kernel) (by decide +kernel))
theorem kj_X9 : Cond.initialized RX9 ∈ big := (big_of 63 (by decide +kernel) (by decide +kernel))
abbrev dfX9 : List Value := [.null, .int (nI 0), .null, .null, .null, .int (nI 0), .null, .null, .int (nI 0), .null, .int (nI 0), .int (nI 0), .null]
theorem dfok_X9 : ∀ j, j < 13 → defaultValue (tyX9 j) = vp_V dfX9 j := fun j hj => by
  rcases (show j = 0 ∨ j = 1 ∨ j = 2 ∨ j = 3 ∨ j = 4 ∨ j = 5 ∨ j = 6 ∨ j = 7 ∨ j = 8 ∨ j = 9 ∨ j = 10 ∨ j = 11 ∨ j = 12 by omega) with rfl | rfl | rfl | rfl | rfl | rfl | rfl | rfl | rfl | rfl | rfl | rfl | rfl
  · rfl
  · rfl
  · rfl
  · rfl
  · rfl
  · rfl
  · rfl
  · rfl
  · rfl
  · rfl
  · rfl
  · rfl
  · rfl
theorem ka_int : Cond.arrayClass .int ∈ big := (big_of 104 (by decide +kernel) (by decide +kernel))
theorem ka_char : Cond.arrayClass .char ∈ big := (big_of 90 (by decide +kernel) (by decide +kernel))
section RP
variable {l : Launch} {M M1 : MC} {z : Nat × Nat × Nat} {Q : Option Value → List va_E → Prop} {pc n ix a k : Nat} {ls : List (Option Value)} {rest : List Value} {w news : List va_E} {x0 y0 : va_E} {ps : List Nat}
theorem g_callI {nn : Nat} (hk : w.length = k) (hnn : news.length = nn) (hcall : CI (mnm M).cls ix M1 0) (hcon : Con l M1 [.ref 0] [x0] (fun r u => r = none ∧ u = y0 :: news)) (hd : decode (mby M) pc = .ok (.invokespecial ix, 3)) (hwa : w[a]? = some x0) (hx0 : clE 0 x0) (hcn : clW (1 + nn) (y0 :: news)) (hps : ∀ j, j < 1 + nn → sg ps j = if j = 0 then a else k + (j - 1))
    (hcw : clW k w) (hcs : rest.all (clR k) = true) (hcls : clL k ls = true) (hdp : mdp M1 + 1 ≤ mdp M ∧ mlo M1 ≤ 29 ∧ 0 < mkc M1 ∧ z.2.1 + mkc M1 ≤ mkc M ∧ z.2.2 + mks M1 ≤ mks M) (hrs : (rest.map fun v => v.category).sum ≤ 8) (hn : pc + 3 = n)
    (kk : G l M (z.1, z.2.1 + mkc M1, z.2.2 + mks M1) Q n ls rest (w.set a (ren ps y0) ++ news.map (ren ps))) : G l M z Q pc ls (.ref a :: rest) w := by
  subst hn
  subst hk
  subst hnn
  obtain ⟨⟨hini, hcode, hy⟩, hlk, him, hnm, hrt⟩ := hcall
  obtain ⟨d1, d2, d3, d4, d5⟩ := hdp
  intro p e s m args below meth c D ct A ad0 ad H locs la C hA h0 h1 hz hP hD hS hL
  have hts := C.2.2.2.2.2.1
  have hcut : [a].map (fun i => (wa ct ad w)[i]?) = (wa ct (fun _ => ad a) [x0]).map some := by
    show [(wa ct ad w)[a]?] = [some (ad a, rcl ct (fun _ => ad a) x0)]
    rw [wa_at hwa, rcl_cl (n := 0) (ad := ad) (ad2 := fun _ => ad a) (fun i hi => absurd hi (Nat.not_lt_zero _)) hx0]
  have hPc := hP.sub (ws' := wa ct (fun _ => ad a) [x0]) [a] (fm_of _ _ _ hcut)
  have hDc := hD.sub [a] rfl hcut
  have hF := va_free (wc := wa ct (fun _ => ad a) [x0]) hD hS hA [a] hcut
  have hM := hcon D ct (fun _ => ad a) H.size
  rw [hrt] at hM hcode
  refine run_backK (cw := [x0]) (ad := fun _ => ad a) (rest := rest.map (rv ad)) (va_runI (b := ad a) (As := []) ⟨C.1, C.2.1, C.2.2.2.1, C.2.2.2.2.1, hts⟩ hM
    ⟨callB_of 0 hts (good_big hcode) rfl rfl rfl (hts _ hini) (hts _ hlk) hy ⟨d1, by show 8 + (mlo M1 + 11) + 48 * mdp M1 ≤ 48 * mdp M; omega⟩, hnm, hts _ him⟩
    ⟨Pm_blind, fun U hU hW => ⟨rfl, by rw [hU], by rw [hU]; exact hPc, KB.moved hW C.2.2.2.2.2.2.2.2, hDc.weaken (fun _ _ _ _ => trivial)⟩⟩
    rfl rfl hL.1 rfl (by show 2 * 0 + _ ≤ 8; rw [cat_map]; omega) hd ⟨d4, d5⟩) hS hF (fun r cw2 ad2 H1 locs1 hq had hP1 hD1 hk1 hS1 => ?_)
  obtain ⟨rfl, rfl⟩ := hq
  have h2 : ad2 0 = ad a := had 0 (Nat.zero_lt_succ _)
  have hvA : ∀ q, va_A (wa ct (fun _ => ad a) [x0]) H.size q ↔ (q = ad a ∨ H.size ≤ q) := fun q => by
    constructor
    · rintro (⟨k, e1, h⟩ | h)
      · rw [wa_get] at h
        obtain ⟨x, hx, h⟩ := Option.map_eq_some_iff.mp h
        exact Or.inl (congrArg Prod.fst h).symm
      · exact Or.inr h
    · rintro (rfl | h)
      · exact Or.inl ⟨0, _, rfl⟩
      · exact Or.inr h
  obtain ⟨hP2, hD2⟩ := wa_grow (ps := ps) hwa hcw hcn hps hP hD h2 hP1 (hD1.weaken (fun _ q _ h => (hvA _).mp h)) (fun q g1 g2 => hk1 q g1 (fun x => by
    rcases (hvA q).mp x with y | y
    · exact g2 y
    · omega)) (fun q hq => hF q ((hvA q).mpr (Or.inr hq)))
  have en : ∀ i, i < w.length → (fun i => if i < w.length then ad i else ad2 (i - w.length + 1)) i = ad i := fun i hi => if_pos hi
  have key := kk p e s m args below meth c D ct A ad0 _ H1 locs1 la C hA (fun i hi => (en i (by omega)).trans (h0 i hi)) (fun h => absurd h (by show ¬ z.2.1 + mkc M1 = 0; omega)) (by rw [List.length_append, List.length_set]; show z.1 ≤ _; omega) hP2 hD2 hS1 (hL.ext en hcls)
  rw [st_ext en hcs] at key
  exact key
end RP
abbrev fz : Nat → Int32 := fun _ => nI 0
abbrev Z0 : ST := (nI 0, nI 0, nI 0, fz, fz, fz)
set_option maxRecDepth 20000 in
set_option maxHeartbeats 4000000 in
theorem t_X3_init (l : Launch) : Con l M_X3_init [.ref 0] [.inr (3, dfX3)] (fun r u => r = none ∧ u = [so Z0 0, a6 fz, a6 fz, a8 fz]) := by
  refine con_of rfl rfl (Nat.le_of_ble_eq_true rfl) ?_
  refine g_lsN (ls' := [_]) rfl ?_
  refine g_aload_n (n := 1) dX3_init_0 rfl rfl ?_
  refine g_objInit (n := 4) dX3_init_1 lk_X3_3 lw_oi lc_oi (by decide) (Nat.le_of_ble_eq_true rfl) rfl ?_
  refine g_aload_n (n := 5) dX3_init_4 rfl rfl ?_
  refine g_bipush (v := nI 6) (n := 7) dX3_init_5 (by decide) rfl ?_
  refine g_newi (k := 1) (n := 9) rfl dX3_init_7 ka_int (by decide) ⟨rfl, trivial⟩ rfl rfl ⟨by decide, by decide⟩ rfl ?_
  refine g_wN (w' := [_, _]) rfl ?_
  refine g_putF (n := 12) pf_X3_9 rfl rfl dX3_init_9 rfl (Nat.le_of_ble_eq_true rfl) (fun _ => rfl) (fun _ => rfl) rfl ?_
  refine g_wN (w' := [_, _]) rfl ?_
  refine g_aload_n (n := 13) dX3_init_12 rfl rfl ?_
  refine g_bipush (v := nI 6) (n := 15) dX3_init_13 (by decide) rfl ?_
  refine g_newi (k := 2) (n := 17) rfl dX3_init_15 ka_int (by decide) ⟨rfl, trivial, trivial⟩ rfl rfl ⟨by decide, by decide⟩ rfl ?_
  refine g_wN (w' := [_, _, _]) rfl ?_
  refine g_putF (n := 20) pf_X3_15 rfl rfl dX3_init_17 rfl (Nat.le_of_ble_eq_true rfl) (fun _ => rfl) (fun _ => rfl) rfl ?_
  refine g_wN (w' := [_, _, _]) rfl ?_
  refine g_aload_n (n := 21) dX3_init_20 rfl rfl ?_
  refine g_bipush (v := nI 8) (n := 23) dX3_init_21 (by decide) rfl ?_
  refine g_newi (k := 3) (n := 25) rfl dX3_init_23 ka_int (by decide) ⟨rfl, trivial, trivial, trivial⟩ rfl rfl ⟨by decide, by decide⟩ rfl ?_
  refine g_wN (w' := [_, _, _, _]) rfl ?_
  refine g_putF (n := 28) pf_X3_18 rfl rfl dX3_init_25 rfl (Nat.le_of_ble_eq_true rfl) (fun _ => rfl) (fun _ => rfl) rfl ?_
  refine g_wN (w' := [_, _, _, _]) rfl ?_
  exact g_vret dX3_init_28 rfl ⟨by decide, by decide⟩ ⟨rfl, rfl⟩
set_option maxRecDepth 20000 in
set_option maxHeartbeats 4000000 in
theorem t_X0_init (l : Launch) : Con l M_X0_init [.ref 0] [.inr (0, dfX0)] (fun r u => r = none ∧ u = [co 0, a8 fz, a8 fz, a8 fz]) := by
  refine con_of rfl rfl (Nat.le_of_ble_eq_true rfl) ?_
  refine g_lsN (ls' := [_]) rfl ?_
  refine g_aload_n (n := 1) dX0_init_0 rfl rfl ?_
  refine g_objInit (n := 4) dX0_init_1 lk_X0_3 lw_oi lc_oi (by decide) (Nat.le_of_ble_eq_true rfl) rfl ?_
  refine g_aload_n (n := 5) dX0_init_4 rfl rfl ?_
  refine g_bipush (v := nI 8) (n := 7) dX0_init_5 (by decide) rfl ?_
  refine g_newi (k := 1) (n := 9) rfl dX0_init_7 ka_int (by decide) ⟨rfl, trivial⟩ rfl rfl ⟨by decide, by decide⟩ rfl ?_
  refine g_wN (w' := [_, _]) rfl ?_
  refine g_putF (n := 12) pf_X0_9 rfl rfl dX0_init_9 rfl (Nat.le_of_ble_eq_true rfl) (fun _ => rfl) (fun _ => rfl) rfl ?_
  refine g_wN (w' := [_, _]) rfl ?_
  refine g_aload_n (n := 13) dX0_init_12 rfl rfl ?_
  refine g_bipush (v := nI 8) (n := 15) dX0_init_13 (by decide) rfl ?_
  refine g_newi (k := 2) (n := 17) rfl dX0_init_15 ka_int (by decide) ⟨rfl, trivial, trivial⟩ rfl rfl ⟨by decide, by decide⟩ rfl ?_
  refine g_wN (w' := [_, _, _]) rfl ?_
  refine g_putF (n := 20) pf_X0_15 rfl rfl dX0_init_17 rfl (Nat.le_of_ble_eq_true rfl) (fun _ => rfl) (fun _ => rfl) rfl ?_
  refine g_wN (w' := [_, _, _]) rfl ?_
  refine g_aload_n (n := 21) dX0_init_20 rfl rfl ?_
  refine g_bipush (v := nI 8) (n := 23) dX0_init_21 (by decide) rfl ?_
  refine g_newi (k := 3) (n := 25) rfl dX0_init_23 ka_int (by decide) ⟨rfl, trivial, trivial, trivial⟩ rfl rfl ⟨by decide, by decide⟩ rfl ?_
  refine g_wN (w' := [_, _, _, _]) rfl ?_
  refine g_putF (n := 28) pf_X0_18 rfl rfl dX0_init_25 rfl (Nat.le_of_ble_eq_true rfl) (fun _ => rfl) (fun _ => rfl) rfl ?_
  refine g_wN (w' := [_, _, _, _]) rfl ?_
  exact g_vret dX0_init_28 rfl ⟨by decide, by decide⟩ ⟨rfl, rfl⟩
set_option maxRecDepth 20000 in
set_option maxHeartbeats 4000000 in
theorem t_X1_init (l : Launch) : Con l M_X1_init [.ref 0] [.inr (1, dfX1)] (fun r u => r = none ∧ u = [.inr (1, [.ref 1, .int (nI 0)]), .inl (0, 4, .inl fz)]) := by
  refine con_of rfl rfl (Nat.le_of_ble_eq_true rfl) ?_
  refine g_lsN (ls' := [_]) rfl ?_
  refine g_aload_n (n := 1) dX1_init_0 rfl rfl ?_
  refine g_objInit (n := 4) dX1_init_1 lk_X1_3 lw_oi lc_oi (by decide) (Nat.le_of_ble_eq_true rfl) rfl ?_
  refine g_aload_n (n := 5) dX1_init_4 rfl rfl ?_
  refine g_iconst (v := nI 4) (n := 6) dX1_init_5 (by decide) rfl ?_
  refine g_newi (k := 1) (n := 8) rfl dX1_init_6 ka_int (by decide) ⟨rfl, trivial⟩ rfl rfl ⟨by decide, by decide⟩ rfl ?_
  refine g_wN (w' := [_, _]) rfl ?_
  refine g_putF (n := 11) pf_X1_9 rfl rfl dX1_init_8 rfl (Nat.le_of_ble_eq_true rfl) (fun _ => rfl) (fun _ => rfl) rfl ?_
  refine g_wN (w' := [_, _]) rfl ?_
  exact g_vret dX1_init_11 rfl ⟨by decide, by decide⟩ ⟨rfl, rfl⟩
set_option maxRecDepth 20000 in
set_option maxHeartbeats 4000000 in
theorem t_X4_init (l : Launch) : Con l M_X4_init [.ref 0] [.inr (4, dfX4)] (fun r u => r = none ∧ u = [.inr (4, [.ref 1, .int (nI 0)]), .inl (1, 200, .inl fz)]) := by
  refine con_of rfl rfl (Nat.le_of_ble_eq_true rfl) ?_
  refine g_lsN (ls' := [_]) rfl ?_
  refine g_aload_n (n := 1) dX4_init_0 rfl rfl ?_
  refine g_objInit (n := 4) dX4_init_1 lk_X4_3 lw_oi lc_oi (by decide) (Nat.le_of_ble_eq_true rfl) rfl ?_
  refine g_aload_n (n := 5) dX4_init_4 rfl rfl ?_
  refine g_sipush (v := nI 200) (n := 8) dX4_init_5 (by decide) rfl ?_
  refine g_newc (k := 1) (n := 10) rfl dX4_init_8 ka_char (by decide) ⟨rfl, trivial⟩ rfl rfl ⟨by decide, by decide⟩ rfl ?_
  refine g_wN (w' := [_, _]) rfl ?_
  refine g_putF (n := 13) pf_X4_9 rfl rfl dX4_init_10 rfl (Nat.le_of_ble_eq_true rfl) (fun _ => rfl) (fun _ => rfl) rfl ?_
  refine g_wN (w' := [_, _]) rfl ?_
  exact g_vret dX4_init_13 rfl ⟨by decide, by decide⟩ ⟨rfl, rfl⟩
set_option maxRecDepth 20000 in
set_option maxHeartbeats 4000000 in
theorem t_X7_init (l : Launch) : Con l M_X7_init [.ref 0] [.inr (7, dfX7)] (fun r u => r = none ∧ u = [wo V0 (nI 0) 0, a8 fz, a8 fz, a6 fz, a6 fz, a6 fz, a6 fz]) := by
  refine con_of rfl rfl (Nat.le_of_ble_eq_true rfl) ?_
  refine g_lsN (ls' := [_]) rfl ?_
  refine g_aload_n (n := 1) dX7_init_0 rfl rfl ?_
  refine g_objInit (n := 4) dX7_init_1 lk_X7_3 lw_oi lc_oi (by decide) (Nat.le_of_ble_eq_true rfl) rfl ?_
  refine g_aload_n (n := 5) dX7_init_4 rfl rfl ?_
  refine g_bipush (v := nI 8) (n := 7) dX7_init_5 (by decide) rfl ?_
  refine g_newi (k := 1) (n := 9) rfl dX7_init_7 ka_int (by decide) ⟨rfl, trivial⟩ rfl rfl ⟨by decide, by decide⟩ rfl ?_
  refine g_wN (w' := [_, _]) rfl ?_
  refine g_putF (n := 12) pf_X7_9 rfl rfl dX7_init_9 rfl (Nat.le_of_ble_eq_true rfl) (fun _ => rfl) (fun _ => rfl) rfl ?_
  refine g_wN (w' := [_, _]) rfl ?_
  refine g_aload_n (n := 13) dX7_init_12 rfl rfl ?_
  refine g_bipush (v := nI 8) (n := 15) dX7_init_13 (by decide) rfl ?_
  refine g_newi (k := 2) (n := 17) rfl dX7_init_15 ka_int (by decide) ⟨rfl, trivial, trivial⟩ rfl rfl ⟨by decide, by decide⟩ rfl ?_
  refine g_wN (w' := [_, _, _]) rfl ?_
  refine g_putF (n := 20) pf_X7_15 rfl rfl dX7_init_17 rfl (Nat.le_of_ble_eq_true rfl) (fun _ => rfl) (fun _ => rfl) rfl ?_
  refine g_wN (w' := [_, _, _]) rfl ?_
  refine g_aload_n (n := 21) dX7_init_20 rfl rfl ?_
  refine g_bipush (v := nI 6) (n := 23) dX7_init_21 (by decide) rfl ?_
  refine g_newi (k := 3) (n := 25) rfl dX7_init_23 ka_int (by decide) ⟨rfl, trivial, trivial, trivial⟩ rfl rfl ⟨by decide, by decide⟩ rfl ?_
  refine g_wN (w' := [_, _, _, _]) rfl ?_
  refine g_putF (n := 28) pf_X7_18 rfl rfl dX7_init_25 rfl (Nat.le_of_ble_eq_true rfl) (fun _ => rfl) (fun _ => rfl) rfl ?_
  refine g_wN (w' := [_, _, _, _]) rfl ?_
  refine g_aload_n (n := 29) dX7_init_28 rfl rfl ?_
  refine g_bipush (v := nI 6) (n := 31) dX7_init_29 (by decide) rfl ?_
  refine g_newi (k := 4) (n := 33) rfl dX7_init_31 ka_int (by decide) ⟨rfl, trivial, trivial, trivial, trivial⟩ rfl rfl ⟨by decide, by decide⟩ rfl ?_
  refine g_wN (w' := [_, _, _, _, _]) rfl ?_
  refine g_putF (n := 36) pf_X7_21 rfl rfl dX7_init_33 rfl (Nat.le_of_ble_eq_true rfl) (fun _ => rfl) (fun _ => rfl) rfl ?_
  refine g_wN (w' := [_, _, _, _, _]) rfl ?_
  refine g_aload_n (n := 37) dX7_init_36 rfl rfl ?_
  refine g_bipush (v := nI 6) (n := 39) dX7_init_37 (by decide) rfl ?_
  refine g_newi (k := 5) (n := 41) rfl dX7_init_39 ka_int (by decide) ⟨rfl, trivial, trivial, trivial, trivial, trivial⟩ rfl rfl ⟨by decide, by decide⟩ rfl ?_
  refine g_wN (w' := [_, _, _, _, _, _]) rfl ?_
  refine g_putF (n := 44) pf_X7_24 rfl rfl dX7_init_41 rfl (Nat.le_of_ble_eq_true rfl) (fun _ => rfl) (fun _ => rfl) rfl ?_
  refine g_wN (w' := [_, _, _, _, _, _]) rfl ?_
  refine g_aload_n (n := 45) dX7_init_44 rfl rfl ?_
  refine g_bipush (v := nI 6) (n := 47) dX7_init_45 (by decide) rfl ?_
  refine g_newi (k := 6) (n := 49) rfl dX7_init_47 ka_int (by decide) ⟨rfl, trivial, trivial, trivial, trivial, trivial, trivial⟩ rfl rfl ⟨by decide, by decide⟩ rfl ?_
  refine g_wN (w' := [_, _, _, _, _, _, _]) rfl ?_
  refine g_putF (n := 52) pf_X7_27 rfl rfl dX7_init_49 rfl (Nat.le_of_ble_eq_true rfl) (fun _ => rfl) (fun _ => rfl) rfl ?_
  refine g_wN (w' := [_, _, _, _, _, _, _]) rfl ?_
  exact g_vret dX7_init_52 rfl ⟨by decide, by decide⟩ ⟨rfl, rfl⟩
set_option maxRecDepth 20000 in
set_option maxHeartbeats 4000000 in
theorem t_X6_init (l : Launch) : Con l M_X6_init [.ref 0] [.inr (6, dfX6)] (fun r u => r = none ∧ u = [.inr (6, [.ref 1, .ref 5, .int (nI 0)]), so Z0 1, a6 fz, a6 fz, a8 fz, co 5, a8 fz, a8 fz, a8 fz]) := by
  refine con_of rfl rfl (Nat.le_of_ble_eq_true rfl) ?_
  refine g_lsN (ls' := [_]) rfl ?_
  refine g_aload_n (n := 1) dX6_init_0 rfl rfl ?_
  refine g_objInit (n := 4) dX6_init_1 lk_X6_3 lw_oi lc_oi (by decide) (Nat.le_of_ble_eq_true rfl) rfl ?_
  refine g_aload_n (n := 5) dX6_init_4 rfl rfl ?_
  refine g_new (ci := 3) (k := 1) (ty := tyX3) (fs := dfX3) (n := 8) rfl dX6_init_5 us_X3 tyX3_ok kl_X6_9 ki_X3 kj_X3 rfl dfok_X3 rfl ⟨rfl, trivial⟩ rfl rfl ⟨by decide, by decide⟩ rfl ?_
  refine g_wN (w' := [_, _]) rfl ?_
  refine g_dup (n := 9) dX6_init_8 rfl rfl ?_
  refine g_callIN (a := 1) (k := 2) (nn := 3) (ps := [1, 2, 3, 4]) (n := 12) rfl rfl ci_X6_11 (t_X3_init l) dX6_init_9 rfl rfl ⟨rfl, trivial, trivial, trivial, trivial⟩ (by decide) ⟨rfl, rfl, trivial⟩ rfl rfl ⟨by decide, by decide, by decide, by decide, by decide⟩ (Nat.le_of_ble_eq_true rfl) rfl ?_
  refine g_wN (w' := [_, _, _, _, _]) rfl ?_
  refine g_putF (n := 15) pf_X6_12 rfl rfl dX6_init_12 rfl (Nat.le_of_ble_eq_true rfl) (fun _ => rfl) (fun _ => rfl) rfl ?_
  refine g_wN (w' := [_, _, _, _, _]) rfl ?_
  refine g_aload_n (n := 16) dX6_init_15 rfl rfl ?_
  refine g_new (ci := 0) (k := 5) (ty := tyX0) (fs := dfX0) (n := 19) rfl dX6_init_16 us_X0 tyX0_ok kl_X6_18 ki_X0 kj_X0 rfl dfok_X0 rfl ⟨rfl, rfl, trivial, trivial, trivial, trivial⟩ rfl rfl ⟨by decide, by decide⟩ rfl ?_
  refine g_wN (w' := [_, _, _, _, _, _]) rfl ?_
  refine g_dup (n := 20) dX6_init_19 rfl rfl ?_
  refine g_callIN (a := 5) (k := 6) (nn := 3) (ps := [5, 6, 7, 8]) (n := 23) rfl rfl ci_X6_20 (t_X0_init l) dX6_init_20 rfl rfl ⟨rfl, trivial, trivial, trivial, trivial⟩ (by decide) ⟨rfl, rfl, trivial, trivial, trivial, rfl, trivial⟩ rfl rfl ⟨by decide, by decide, by decide, by decide, by decide⟩ (Nat.le_of_ble_eq_true rfl) rfl ?_
  refine g_wN (w' := [_, _, _, _, _, _, _, _, _]) rfl ?_
  refine g_putF (n := 26) pf_X6_21 rfl rfl dX6_init_23 rfl (Nat.le_of_ble_eq_true rfl) (fun _ => rfl) (fun _ => rfl) rfl ?_
  refine g_wN (w' := [_, _, _, _, _, _, _, _, _]) rfl ?_
  exact g_vret dX6_init_26 rfl ⟨by decide, by decide⟩ ⟨rfl, rfl⟩
set_option maxRecDepth 20000 in
set_option maxHeartbeats 4000000 in
theorem t_X2_init (l : Launch) : Con l M_X2_init [.ref 0] [.inr (2, dfX2)] (fun r u => r = none ∧ u = [.inr (2, [.ref 1, .ref 5, .int (nI 0), .int (nI 0)]), co 1, a8 fz, a8 fz, a8 fz, sarr 6 6, so Z0 6, a6 fz, a6 fz, a8 fz, so Z0 10, a6 fz, a6 fz, a8 fz, so Z0 14, a6 fz, a6 fz, a8 fz, so Z0 18, a6 fz, a6 fz, a8 fz, so Z0 22, a6 fz, a6 fz, a8 fz, so Z0 26, a6 fz, a6 fz, a8 fz]) := by
  refine con_of rfl rfl (Nat.le_of_ble_eq_true rfl) ?_
  refine g_lsN (ls' := [_, _]) rfl ?_
  refine g_aload_n (n := 1) dX2_init_0 rfl rfl ?_
  refine g_objInit (n := 4) dX2_init_1 lk_X2_5 lw_oi lc_oi (by decide) (Nat.le_of_ble_eq_true rfl) rfl ?_
  refine g_aload_n (n := 5) dX2_init_4 rfl rfl ?_
  refine g_new (ci := 0) (k := 1) (ty := tyX0) (fs := dfX0) (n := 8) rfl dX2_init_5 us_X0 tyX0_ok kl_X2_11 ki_X0 kj_X0 rfl dfok_X0 rfl ⟨rfl, trivial⟩ rfl rfl ⟨by decide, by decide⟩ rfl ?_
  refine g_wN (w' := [_, _]) rfl ?_
  refine g_dup (n := 9) dX2_init_8 rfl rfl ?_
  refine g_callIN (a := 1) (k := 2) (nn := 3) (ps := [1, 2, 3, 4]) (n := 12) rfl rfl ci_X2_13 (t_X0_init l) dX2_init_9 rfl rfl ⟨rfl, trivial, trivial, trivial, trivial⟩ (by decide) ⟨rfl, rfl, trivial⟩ rfl rfl ⟨by decide, by decide, by decide, by decide, by decide⟩ (Nat.le_of_ble_eq_true rfl) rfl ?_
  refine g_wN (w' := [_, _, _, _, _]) rfl ?_
  refine g_putF (n := 15) pf_X2_14 rfl rfl dX2_init_12 rfl (Nat.le_of_ble_eq_true rfl) (fun _ => rfl) (fun _ => rfl) rfl ?_
  refine g_wN (w' := [_, _, _, _, _]) rfl ?_
  refine g_aload_n (n := 16) dX2_init_15 rfl rfl ?_
  refine g_bipush (v := nI 6) (n := 18) dX2_init_16 (by decide) rfl ?_
  refine g_newq (k := 5) (n := 21) rfl dX2_init_18 kl_X2_18 (by decide) ⟨rfl, rfl, trivial, trivial, trivial, trivial⟩ rfl rfl ⟨by decide, by decide⟩ rfl ?_
  refine g_wN (w' := [_, _, _, _, _, _]) rfl ?_
  refine g_wN (w' := [_, _, _, _, _, .inl (2, 6, .inr (.inr (.inr (.inr (sref 6 0)))))]) (lcons rfl (lcons rfl (lcons rfl (lcons rfl (lcons rfl ((lcons (congrArg (fun h : Nat → Option Nat => (Sum.inl (2, 6, .inr (.inr (.inr (.inr h)))) : va_E)) (sref_0 6)) rfl))))))) ?_
  refine g_putF (n := 24) pf_X2_20 rfl rfl dX2_init_21 rfl (Nat.le_of_ble_eq_true rfl) (fun _ => rfl) (fun _ => rfl) rfl ?_
  refine g_wN (w' := [_, _, _, _, _, _]) rfl ?_
  refine g_iconst (v := nI 0) (n := 25) dX2_init_24 (by decide) rfl ?_
  refine g_istore_n (n := 26) dX2_init_25 (by decide) rfl rfl ?_
  refine g_lsN (ls' := [_, _]) rfl ?_
  refine g_iload_n (n := 27) dX2_init_26 rfl rfl ?_
  refine g_iconst (v := nI 5) (n := 28) dX2_init_27 (by decide) rfl ?_
  refine g_icmp_gt (tgt := 50) (n := 31) dX2_init_28 (by decide) rfl (fun c28 => absurd c28 (by decide)) (fun c28 => ?_)
  refine g_aload_n (n := 32) dX2_init_31 rfl rfl ?_
  refine g_get (n := 35) fl_X2_20 dX2_init_32 rfl rfl rfl ?_
  refine g_iload_n (n := 36) dX2_init_35 rfl rfl ?_
  refine g_new (ci := 3) (k := 6) (ty := tyX3) (fs := dfX3) (n := 39) rfl dX2_init_36 us_X3 tyX3_ok kl_X2_18 ki_X3 kj_X3 rfl dfok_X3 rfl ⟨rfl, rfl, trivial, trivial, trivial, none_cl, trivial⟩ rfl rfl ⟨by decide, by decide⟩ rfl ?_
  refine g_wN (w' := [_, _, _, _, _, _, _]) rfl ?_
  refine g_dup (n := 40) dX2_init_39 rfl rfl ?_
  refine g_callIN (a := 6) (k := 7) (nn := 3) (ps := [6, 7, 8, 9]) (n := 43) rfl rfl ci_X2_24 (t_X3_init l) dX2_init_40 rfl rfl ⟨rfl, trivial, trivial, trivial, trivial⟩ (by decide) ⟨rfl, rfl, trivial, trivial, trivial, none_cl, rfl, trivial⟩ rfl rfl ⟨by decide, by decide, by decide, by decide, by decide⟩ (Nat.le_of_ble_eq_true rfl) rfl ?_
  refine g_wN (w' := [_, _, _, _, _, _, _, _, _, _]) rfl ?_
  refine g_aastN (n := 44) dX2_init_43 rfl rfl rfl (by decide) (by decide) ?_
  refine g_wN (w' := [_, _, _, _, _, .inl (2, 6, .inr (.inr (.inr (.inr (sref 6 1))))), _, _, _, _]) (lcons rfl (lcons rfl (lcons rfl (lcons rfl (lcons rfl ((lcons (congrArg (fun h : Nat → Option Nat => (Sum.inl (2, 6, .inr (.inr (.inr (.inr h)))) : va_E)) (sref_up 6 0)) rfl))))))) ?_
  refine g_iincN (k := 1) (n := 47) dX2_init_44 rfl (by decide) rfl rfl ?_
  refine g_lsN (ls' := [_, _]) rfl ?_
  refine g_goto (tgt := 26) dX2_init_47 (by decide) ?_
  refine g_iload_n (n := 27) dX2_init_26 rfl rfl ?_
  refine g_iconst (v := nI 5) (n := 28) dX2_init_27 (by decide) rfl ?_
  refine g_icmp_gt (tgt := 50) (n := 31) dX2_init_28 (by decide) rfl (fun c28 => absurd c28 (by decide)) (fun c28 => ?_)
  refine g_aload_n (n := 32) dX2_init_31 rfl rfl ?_
  refine g_get (n := 35) fl_X2_20 dX2_init_32 rfl rfl rfl ?_
  refine g_iload_n (n := 36) dX2_init_35 rfl rfl ?_
  refine g_new (ci := 3) (k := 10) (ty := tyX3) (fs := dfX3) (n := 39) rfl dX2_init_36 us_X3 tyX3_ok kl_X2_18 ki_X3 kj_X3 rfl dfok_X3 rfl ⟨rfl, rfl, trivial, trivial, trivial, (sref_cl (by decide)), rfl, trivial, trivial, trivial, trivial⟩ rfl rfl ⟨by decide, by decide⟩ rfl ?_
  refine g_wN (w' := [_, _, _, _, _, _, _, _, _, _, _]) rfl ?_
  refine g_dup (n := 40) dX2_init_39 rfl rfl ?_
  refine g_callIN (a := 10) (k := 11) (nn := 3) (ps := [10, 11, 12, 13]) (n := 43) rfl rfl ci_X2_24 (t_X3_init l) dX2_init_40 rfl rfl ⟨rfl, trivial, trivial, trivial, trivial⟩ (by decide) ⟨rfl, rfl, trivial, trivial, trivial, (sref_cl (by decide)), rfl, trivial, trivial, trivial, rfl, trivial⟩ rfl rfl ⟨by decide, by decide, by decide, by decide, by decide⟩ (Nat.le_of_ble_eq_true rfl) rfl ?_
  refine g_wN (w' := [_, _, _, _, _, _, _, _, _, _, _, _, _, _]) rfl ?_
  refine g_aastN (n := 44) dX2_init_43 rfl rfl rfl (by decide) (by decide) ?_
  refine g_wN (w' := [_, _, _, _, _, .inl (2, 6, .inr (.inr (.inr (.inr (sref 6 2))))), _, _, _, _, _, _, _, _]) (lcons rfl (lcons rfl (lcons rfl (lcons rfl (lcons rfl ((lcons (congrArg (fun h : Nat → Option Nat => (Sum.inl (2, 6, .inr (.inr (.inr (.inr h)))) : va_E)) (sref_up 6 1)) rfl))))))) ?_
  refine g_iincN (k := 1) (n := 47) dX2_init_44 rfl (by decide) rfl rfl ?_
  refine g_lsN (ls' := [_, _]) rfl ?_
  refine g_goto (tgt := 26) dX2_init_47 (by decide) ?_
  refine g_iload_n (n := 27) dX2_init_26 rfl rfl ?_
  refine g_iconst (v := nI 5) (n := 28) dX2_init_27 (by decide) rfl ?_
  refine g_icmp_gt (tgt := 50) (n := 31) dX2_init_28 (by decide) rfl (fun c28 => absurd c28 (by decide)) (fun c28 => ?_)
  refine g_aload_n (n := 32) dX2_init_31 rfl rfl ?_
  refine g_get (n := 35) fl_X2_20 dX2_init_32 rfl rfl rfl ?_
  refine g_iload_n (n := 36) dX2_init_35 rfl rfl ?_
  refine g_new (ci := 3) (k := 14) (ty := tyX3) (fs := dfX3) (n := 39) rfl dX2_init_36 us_X3 tyX3_ok kl_X2_18 ki_X3 kj_X3 rfl dfok_X3 rfl ⟨rfl, rfl, trivial, trivial, trivial, (sref_cl (by decide)), rfl, trivial, trivial, trivial, rfl, trivial, trivial, trivial, trivial⟩ rfl rfl ⟨by decide, by decide⟩ rfl ?_
  refine g_wN (w' := [_, _, _, _, _, _, _, _, _, _, _, _, _, _, _]) rfl ?_
  refine g_dup (n := 40) dX2_init_39 rfl rfl ?_
  refine g_callIN (a := 14) (k := 15) (nn := 3) (ps := [14, 15, 16, 17]) (n := 43) rfl rfl ci_X2_24 (t_X3_init l) dX2_init_40 rfl rfl ⟨rfl, trivial, trivial, trivial, trivial⟩ (by decide) ⟨rfl, rfl, trivial, trivial, trivial, (sref_cl (by decide)), rfl, trivial, trivial, trivial, rfl, trivial, trivial, trivial, rfl, trivial⟩ rfl rfl ⟨by decide, by decide, by decide, by decide, by decide⟩ (Nat.le_of_ble_eq_true rfl) rfl ?_
  refine g_wN (w' := [_, _, _, _, _, _, _, _, _, _, _, _, _, _, _, _, _, _]) rfl ?_
  refine g_aastN (n := 44) dX2_init_43 rfl rfl rfl (by decide) (by decide) ?_
  refine g_wN (w' := [_, _, _, _, _, .inl (2, 6, .inr (.inr (.inr (.inr (sref 6 3))))), _, _, _, _, _, _, _, _, _, _, _, _]) (lcons rfl (lcons rfl (lcons rfl (lcons rfl (lcons rfl ((lcons (congrArg (fun h : Nat → Option Nat => (Sum.inl (2, 6, .inr (.inr (.inr (.inr h)))) : va_E)) (sref_up 6 2)) rfl))))))) ?_
  refine g_iincN (k := 1) (n := 47) dX2_init_44 rfl (by decide) rfl rfl ?_
  refine g_lsN (ls' := [_, _]) rfl ?_
  refine g_goto (tgt := 26) dX2_init_47 (by decide) ?_
  refine g_iload_n (n := 27) dX2_init_26 rfl rfl ?_
  refine g_iconst (v := nI 5) (n := 28) dX2_init_27 (by decide) rfl ?_
  refine g_icmp_gt (tgt := 50) (n := 31) dX2_init_28 (by decide) rfl (fun c28 => absurd c28 (by decide)) (fun c28 => ?_)
  refine g_aload_n (n := 32) dX2_init_31 rfl rfl ?_
  refine g_get (n := 35) fl_X2_20 dX2_init_32 rfl rfl rfl ?_
  refine g_iload_n (n := 36) dX2_init_35 rfl rfl ?_
  refine g_new (ci := 3) (k := 18) (ty := tyX3) (fs := dfX3) (n := 39) rfl dX2_init_36 us_X3 tyX3_ok kl_X2_18 ki_X3 kj_X3 rfl dfok_X3 rfl ⟨rfl, rfl, trivial, trivial, trivial, (sref_cl (by decide)), rfl, trivial, trivial, trivial, rfl, trivial, trivial, trivial, rfl, trivial, trivial, trivial, trivial⟩ rfl rfl ⟨by decide, by decide⟩ rfl ?_
  refine g_wN (w' := [_, _, _, _, _, _, _, _, _, _, _, _, _, _, _, _, _, _, _]) rfl ?_
  refine g_dup (n := 40) dX2_init_39 rfl rfl ?_
  refine g_callIN (a := 18) (k := 19) (nn := 3) (ps := [18, 19, 20, 21]) (n := 43) rfl rfl ci_X2_24 (t_X3_init l) dX2_init_40 rfl rfl ⟨rfl, trivial, trivial, trivial, trivial⟩ (by decide) ⟨rfl, rfl, trivial, trivial, trivial, (sref_cl (by decide)), rfl, trivial, trivial, trivial, rfl, trivial, trivial, trivial, rfl, trivial, trivial, trivial, rfl, trivial⟩ rfl rfl ⟨by decide, by decide, by decide, by decide, by decide⟩ (Nat.le_of_ble_eq_true rfl) rfl ?_
  refine g_wN (w' := [_, _, _, _, _, _, _, _, _, _, _, _, _, _, _, _, _, _, _, _, _, _]) rfl ?_
  refine g_aastN (n := 44) dX2_init_43 rfl rfl rfl (by decide) (by decide) ?_
  refine g_wN (w' := [_, _, _, _, _, .inl (2, 6, .inr (.inr (.inr (.inr (sref 6 4))))), _, _, _, _, _, _, _, _, _, _, _, _, _, _, _, _]) (lcons rfl (lcons rfl (lcons rfl (lcons rfl (lcons rfl ((lcons (congrArg (fun h : Nat → Option Nat => (Sum.inl (2, 6, .inr (.inr (.inr (.inr h)))) : va_E)) (sref_up 6 3)) rfl))))))) ?_
  refine g_iincN (k := 1) (n := 47) dX2_init_44 rfl (by decide) rfl rfl ?_
  refine g_lsN (ls' := [_, _]) rfl ?_
  refine g_goto (tgt := 26) dX2_init_47 (by decide) ?_
  refine g_iload_n (n := 27) dX2_init_26 rfl rfl ?_
  refine g_iconst (v := nI 5) (n := 28) dX2_init_27 (by decide) rfl ?_
  refine g_icmp_gt (tgt := 50) (n := 31) dX2_init_28 (by decide) rfl (fun c28 => absurd c28 (by decide)) (fun c28 => ?_)
  refine g_aload_n (n := 32) dX2_init_31 rfl rfl ?_
  refine g_get (n := 35) fl_X2_20 dX2_init_32 rfl rfl rfl ?_
  refine g_iload_n (n := 36) dX2_init_35 rfl rfl ?_
  refine g_new (ci := 3) (k := 22) (ty := tyX3) (fs := dfX3) (n := 39) rfl dX2_init_36 us_X3 tyX3_ok kl_X2_18 ki_X3 kj_X3 rfl dfok_X3 rfl ⟨rfl, rfl, trivial, trivial, trivial, (sref_cl (by decide)), rfl, trivial, trivial, trivial, rfl, trivial, trivial, trivial, rfl, trivial, trivial, trivial, rfl, trivial, trivial, trivial, trivial⟩ rfl rfl ⟨by decide, by decide⟩ rfl ?_
  refine g_wN (w' := [_, _, _, _, _, _, _, _, _, _, _, _, _, _, _, _, _, _, _, _, _, _, _]) rfl ?_
  refine g_dup (n := 40) dX2_init_39 rfl rfl ?_
  refine g_callIN (a := 22) (k := 23) (nn := 3) (ps := [22, 23, 24, 25]) (n := 43) rfl rfl ci_X2_24 (t_X3_init l) dX2_init_40 rfl rfl ⟨rfl, trivial, trivial, trivial, trivial⟩ (by decide) ⟨rfl, rfl, trivial, trivial, trivial, (sref_cl (by decide)), rfl, trivial, trivial, trivial, rfl, trivial, trivial, trivial, rfl, trivial, trivial, trivial, rfl, trivial, trivial, trivial, rfl, trivial⟩ rfl rfl ⟨by decide, by decide, by decide, by decide, by decide⟩ (Nat.le_of_ble_eq_true rfl) rfl ?_
  refine g_wN (w' := [_, _, _, _, _, _, _, _, _, _, _, _, _, _, _, _, _, _, _, _, _, _, _, _, _, _]) rfl ?_
  refine g_aastN (n := 44) dX2_init_43 rfl rfl rfl (by decide) (by decide) ?_
  refine g_wN (w' := [_, _, _, _, _, .inl (2, 6, .inr (.inr (.inr (.inr (sref 6 5))))), _, _, _, _, _, _, _, _, _, _, _, _, _, _, _, _, _, _, _, _]) (lcons rfl (lcons rfl (lcons rfl (lcons rfl (lcons rfl ((lcons (congrArg (fun h : Nat → Option Nat => (Sum.inl (2, 6, .inr (.inr (.inr (.inr h)))) : va_E)) (sref_up 6 4)) rfl))))))) ?_
  refine g_iincN (k := 1) (n := 47) dX2_init_44 rfl (by decide) rfl rfl ?_
  refine g_lsN (ls' := [_, _]) rfl ?_
  refine g_goto (tgt := 26) dX2_init_47 (by decide) ?_
  refine g_iload_n (n := 27) dX2_init_26 rfl rfl ?_
  refine g_iconst (v := nI 5) (n := 28) dX2_init_27 (by decide) rfl ?_
  refine g_icmp_gt (tgt := 50) (n := 31) dX2_init_28 (by decide) rfl (fun c28 => absurd c28 (by decide)) (fun c28 => ?_)
  refine g_aload_n (n := 32) dX2_init_31 rfl rfl ?_
  refine g_get (n := 35) fl_X2_20 dX2_init_32 rfl rfl rfl ?_
  refine g_iload_n (n := 36) dX2_init_35 rfl rfl ?_
  refine g_new (ci := 3) (k := 26) (ty := tyX3) (fs := dfX3) (n := 39) rfl dX2_init_36 us_X3 tyX3_ok kl_X2_18 ki_X3 kj_X3 rfl dfok_X3 rfl ⟨rfl, rfl, trivial, trivial, trivial, (sref_cl (by decide)), rfl, trivial, trivial, trivial, rfl, trivial, trivial, trivial, rfl, trivial, trivial, trivial, rfl, trivial, trivial, trivial, rfl, trivial, trivial, trivial, trivial⟩ rfl rfl ⟨by decide, by decide⟩ rfl ?_
  refine g_wN (w' := [_, _, _, _, _, _, _, _, _, _, _, _, _, _, _, _, _, _, _, _, _, _, _, _, _, _, _]) rfl ?_
  refine g_dup (n := 40) dX2_init_39 rfl rfl ?_
  refine g_callIN (a := 26) (k := 27) (nn := 3) (ps := [26, 27, 28, 29]) (n := 43) rfl rfl ci_X2_24 (t_X3_init l) dX2_init_40 rfl rfl ⟨rfl, trivial, trivial, trivial, trivial⟩ (by decide) ⟨rfl, rfl, trivial, trivial, trivial, (sref_cl (by decide)), rfl, trivial, trivial, trivial, rfl, trivial, trivial, trivial, rfl, trivial, trivial, trivial, rfl, trivial, trivial, trivial, rfl, trivial, trivial, trivial, rfl, trivial⟩ rfl rfl ⟨by decide, by decide, by decide, by decide, by decide⟩ (Nat.le_of_ble_eq_true rfl) rfl ?_
  refine g_wN (w' := [_, _, _, _, _, _, _, _, _, _, _, _, _, _, _, _, _, _, _, _, _, _, _, _, _, _, _, _, _, _]) rfl ?_
  refine g_aastN (n := 44) dX2_init_43 rfl rfl rfl (by decide) (by decide) ?_
  refine g_wN (w' := [_, _, _, _, _, .inl (2, 6, .inr (.inr (.inr (.inr (sref 6 6))))), _, _, _, _, _, _, _, _, _, _, _, _, _, _, _, _, _, _, _, _, _, _, _, _]) (lcons rfl (lcons rfl (lcons rfl (lcons rfl (lcons rfl ((lcons (congrArg (fun h : Nat → Option Nat => (Sum.inl (2, 6, .inr (.inr (.inr (.inr h)))) : va_E)) (sref_up 6 5)) rfl))))))) ?_
  refine g_iincN (k := 1) (n := 47) dX2_init_44 rfl (by decide) rfl rfl ?_
  refine g_lsN (ls' := [_, _]) rfl ?_
  refine g_goto (tgt := 26) dX2_init_47 (by decide) ?_
  refine g_iload_n (n := 27) dX2_init_26 rfl rfl ?_
  refine g_iconst (v := nI 5) (n := 28) dX2_init_27 (by decide) rfl ?_
  refine g_icmp_gt (tgt := 50) (n := 31) dX2_init_28 (by decide) rfl (fun c28 => ?_) (fun c28 => absurd (by decide) c28)
  exact g_vret dX2_init_50 rfl ⟨by decide, by decide⟩ ⟨rfl, rfl⟩
set_option maxRecDepth 20000 in
set_option maxHeartbeats 4000000 in
theorem t_X5_init (l : Launch) : Con l M_X5_init [.ref 0] [.inr (5, dfX5)] (fun r u => r = none ∧ u = [.inr (5, [.ref 1, .int (nI 0), .int (nI 0)]), sarr 2 8, so Z0 2, a6 fz, a6 fz, a8 fz, so Z0 6, a6 fz, a6 fz, a8 fz, so Z0 10, a6 fz, a6 fz, a8 fz, so Z0 14, a6 fz, a6 fz, a8 fz, so Z0 18, a6 fz, a6 fz, a8 fz, so Z0 22, a6 fz, a6 fz, a8 fz, so Z0 26, a6 fz, a6 fz, a8 fz, so Z0 30, a6 fz, a6 fz, a8 fz]) := by
  refine con_of rfl rfl (Nat.le_of_ble_eq_true rfl) ?_
  refine g_lsN (ls' := [_, _]) rfl ?_
  refine g_aload_n (n := 1) dX5_init_0 rfl rfl ?_
  refine g_objInit (n := 4) dX5_init_1 lk_X5_3 lw_oi lc_oi (by decide) (Nat.le_of_ble_eq_true rfl) rfl ?_
  refine g_aload_n (n := 5) dX5_init_4 rfl rfl ?_
  refine g_bipush (v := nI 8) (n := 7) dX5_init_5 (by decide) rfl ?_
  refine g_newq (k := 1) (n := 10) rfl dX5_init_7 kl_X5_9 (by decide) ⟨rfl, trivial⟩ rfl rfl ⟨by decide, by decide⟩ rfl ?_
  refine g_wN (w' := [_, _]) rfl ?_
  refine g_wN (w' := [_, .inl (2, 8, .inr (.inr (.inr (.inr (sref 2 0)))))]) (lcons rfl ((lcons (congrArg (fun h : Nat → Option Nat => (Sum.inl (2, 8, .inr (.inr (.inr (.inr h)))) : va_E)) (sref_0 2)) rfl))) ?_
  refine g_putF (n := 13) pf_X5_11 rfl rfl dX5_init_10 rfl (Nat.le_of_ble_eq_true rfl) (fun _ => rfl) (fun _ => rfl) rfl ?_
  refine g_wN (w' := [_, _]) rfl ?_
  refine g_iconst (v := nI 0) (n := 14) dX5_init_13 (by decide) rfl ?_
  refine g_istore_n (n := 15) dX5_init_14 (by decide) rfl rfl ?_
  refine g_lsN (ls' := [_, _]) rfl ?_
  refine g_iload_n (n := 16) dX5_init_15 rfl rfl ?_
  refine g_bipush (v := nI 8) (n := 18) dX5_init_16 (by decide) rfl ?_
  refine g_icmp_ge (tgt := 40) (n := 21) dX5_init_18 (by decide) rfl (fun c18 => absurd c18 (by decide)) (fun c18 => ?_)
  refine g_aload_n (n := 22) dX5_init_21 rfl rfl ?_
  refine g_get (n := 25) fl_X5_11 dX5_init_22 rfl rfl rfl ?_
  refine g_iload_n (n := 26) dX5_init_25 rfl rfl ?_
  refine g_new (ci := 3) (k := 2) (ty := tyX3) (fs := dfX3) (n := 29) rfl dX5_init_26 us_X3 tyX3_ok kl_X5_9 ki_X3 kj_X3 rfl dfok_X3 rfl ⟨rfl, none_cl, trivial⟩ rfl rfl ⟨by decide, by decide⟩ rfl ?_
  refine g_wN (w' := [_, _, _]) rfl ?_
  refine g_dup (n := 30) dX5_init_29 rfl rfl ?_
  refine g_callIN (a := 2) (k := 3) (nn := 3) (ps := [2, 3, 4, 5]) (n := 33) rfl rfl ci_X5_17 (t_X3_init l) dX5_init_30 rfl rfl ⟨rfl, trivial, trivial, trivial, trivial⟩ (by decide) ⟨rfl, none_cl, rfl, trivial⟩ rfl rfl ⟨by decide, by decide, by decide, by decide, by decide⟩ (Nat.le_of_ble_eq_true rfl) rfl ?_
  refine g_wN (w' := [_, _, _, _, _, _]) rfl ?_
  refine g_aastN (n := 34) dX5_init_33 rfl rfl rfl (by decide) (by decide) ?_
  refine g_wN (w' := [_, .inl (2, 8, .inr (.inr (.inr (.inr (sref 2 1))))), _, _, _, _]) (lcons rfl ((lcons (congrArg (fun h : Nat → Option Nat => (Sum.inl (2, 8, .inr (.inr (.inr (.inr h)))) : va_E)) (sref_up 2 0)) rfl))) ?_
  refine g_iincN (k := 1) (n := 37) dX5_init_34 rfl (by decide) rfl rfl ?_
  refine g_lsN (ls' := [_, _]) rfl ?_
  refine g_goto (tgt := 15) dX5_init_37 (by decide) ?_
  refine g_iload_n (n := 16) dX5_init_15 rfl rfl ?_
  refine g_bipush (v := nI 8) (n := 18) dX5_init_16 (by decide) rfl ?_
  refine g_icmp_ge (tgt := 40) (n := 21) dX5_init_18 (by decide) rfl (fun c18 => absurd c18 (by decide)) (fun c18 => ?_)
  refine g_aload_n (n := 22) dX5_init_21 rfl rfl ?_
  refine g_get (n := 25) fl_X5_11 dX5_init_22 rfl rfl rfl ?_
  refine g_iload_n (n := 26) dX5_init_25 rfl rfl ?_
  refine g_new (ci := 3) (k := 6) (ty := tyX3) (fs := dfX3) (n := 29) rfl dX5_init_26 us_X3 tyX3_ok kl_X5_9 ki_X3 kj_X3 rfl dfok_X3 rfl ⟨rfl, (sref_cl (by decide)), rfl, trivial, trivial, trivial, trivial⟩ rfl rfl ⟨by decide, by decide⟩ rfl ?_
  refine g_wN (w' := [_, _, _, _, _, _, _]) rfl ?_
  refine g_dup (n := 30) dX5_init_29 rfl rfl ?_
  refine g_callIN (a := 6) (k := 7) (nn := 3) (ps := [6, 7, 8, 9]) (n := 33) rfl rfl ci_X5_17 (t_X3_init l) dX5_init_30 rfl rfl ⟨rfl, trivial, trivial, trivial, trivial⟩ (by decide) ⟨rfl, (sref_cl (by decide)), rfl, trivial, trivial, trivial, rfl, trivial⟩ rfl rfl ⟨by decide, by decide, by decide, by decide, by decide⟩ (Nat.le_of_ble_eq_true rfl) rfl ?_
  refine g_wN (w' := [_, _, _, _, _, _, _, _, _, _]) rfl ?_
  refine g_aastN (n := 34) dX5_init_33 rfl rfl rfl (by decide) (by decide) ?_
  refine g_wN (w' := [_, .inl (2, 8, .inr (.inr (.inr (.inr (sref 2 2))))), _, _, _, _, _, _, _, _]) (lcons rfl ((lcons (congrArg (fun h : Nat → Option Nat => (Sum.inl (2, 8, .inr (.inr (.inr (.inr h)))) : va_E)) (sref_up 2 1)) rfl))) ?_
  refine g_iincN (k := 1) (n := 37) dX5_init_34 rfl (by decide) rfl rfl ?_
  refine g_lsN (ls' := [_, _]) rfl ?_
  refine g_goto (tgt := 15) dX5_init_37 (by decide) ?_
  refine g_iload_n (n := 16) dX5_init_15 rfl rfl ?_
  refine g_bipush (v := nI 8) (n := 18) dX5_init_16 (by decide) rfl ?_
  refine g_icmp_ge (tgt := 40) (n := 21) dX5_init_18 (by decide) rfl (fun c18 => absurd c18 (by decide)) (fun c18 => ?_)
  refine g_aload_n (n := 22) dX5_init_21 rfl rfl ?_
  refine g_get (n := 25) fl_X5_11 dX5_init_22 rfl rfl rfl ?_
  refine g_iload_n (n := 26) dX5_init_25 rfl rfl ?_
  refine g_new (ci := 3) (k := 10) (ty := tyX3) (fs := dfX3) (n := 29) rfl dX5_init_26 us_X3 tyX3_ok kl_X5_9 ki_X3 kj_X3 rfl dfok_X3 rfl ⟨rfl, (sref_cl (by decide)), rfl, trivial, trivial, trivial, rfl, trivial, trivial, trivial, trivial⟩ rfl rfl ⟨by decide, by decide⟩ rfl ?_
  refine g_wN (w' := [_, _, _, _, _, _, _, _, _, _, _]) rfl ?_
  refine g_dup (n := 30) dX5_init_29 rfl rfl ?_
  refine g_callIN (a := 10) (k := 11) (nn := 3) (ps := [10, 11, 12, 13]) (n := 33) rfl rfl ci_X5_17 (t_X3_init l) dX5_init_30 rfl rfl ⟨rfl, trivial, trivial, trivial, trivial⟩ (by decide) ⟨rfl, (sref_cl (by decide)), rfl, trivial, trivial, trivial, rfl, trivial, trivial, trivial, rfl, trivial⟩ rfl rfl ⟨by decide, by decide, by decide, by decide, by decide⟩ (Nat.le_of_ble_eq_true rfl) rfl ?_
  refine g_wN (w' := [_, _, _, _, _, _, _, _, _, _, _, _, _, _]) rfl ?_
  refine g_aastN (n := 34) dX5_init_33 rfl rfl rfl (by decide) (by decide) ?_
  refine g_wN (w' := [_, .inl (2, 8, .inr (.inr (.inr (.inr (sref 2 3))))), _, _, _, _, _, _, _, _, _, _, _, _]) (lcons rfl ((lcons (congrArg (fun h : Nat → Option Nat => (Sum.inl (2, 8, .inr (.inr (.inr (.inr h)))) : va_E)) (sref_up 2 2)) rfl))) ?_
  refine g_iincN (k := 1) (n := 37) dX5_init_34 rfl (by decide) rfl rfl ?_
  refine g_lsN (ls' := [_, _]) rfl ?_
  refine g_goto (tgt := 15) dX5_init_37 (by decide) ?_
  refine g_iload_n (n := 16) dX5_init_15 rfl rfl ?_
  refine g_bipush (v := nI 8) (n := 18) dX5_init_16 (by decide) rfl ?_
  refine g_icmp_ge (tgt := 40) (n := 21) dX5_init_18 (by decide) rfl (fun c18 => absurd c18 (by decide)) (fun c18 => ?_)
  refine g_aload_n (n := 22) dX5_init_21 rfl rfl ?_
  refine g_get (n := 25) fl_X5_11 dX5_init_22 rfl rfl rfl ?_
  refine g_iload_n (n := 26) dX5_init_25 rfl rfl ?_
  refine g_new (ci := 3) (k := 14) (ty := tyX3) (fs := dfX3) (n := 29) rfl dX5_init_26 us_X3 tyX3_ok kl_X5_9 ki_X3 kj_X3 rfl dfok_X3 rfl ⟨rfl, (sref_cl (by decide)), rfl, trivial, trivial, trivial, rfl, trivial, trivial, trivial, rfl, trivial, trivial, trivial, trivial⟩ rfl rfl ⟨by decide, by decide⟩ rfl ?_
  refine g_wN (w' := [_, _, _, _, _, _, _, _, _, _, _, _, _, _, _]) rfl ?_
  refine g_dup (n := 30) dX5_init_29 rfl rfl ?_
  refine g_callIN (a := 14) (k := 15) (nn := 3) (ps := [14, 15, 16, 17]) (n := 33) rfl rfl ci_X5_17 (t_X3_init l) dX5_init_30 rfl rfl ⟨rfl, trivial, trivial, trivial, trivial⟩ (by decide) ⟨rfl, (sref_cl (by decide)), rfl, trivial, trivial, trivial, rfl, trivial, trivial, trivial, rfl, trivial, trivial, trivial, rfl, trivial⟩ rfl rfl ⟨by decide, by decide, by decide, by decide, by decide⟩ (Nat.le_of_ble_eq_true rfl) rfl ?_
  refine g_wN (w' := [_, _, _, _, _, _, _, _, _, _, _, _, _, _, _, _, _, _]) rfl ?_
  refine g_aastN (n := 34) dX5_init_33 rfl rfl rfl (by decide) (by decide) ?_
  refine g_wN (w' := [_, .inl (2, 8, .inr (.inr (.inr (.inr (sref 2 4))))), _, _, _, _, _, _, _, _, _, _, _, _, _, _, _, _]) (lcons rfl ((lcons (congrArg (fun h : Nat → Option Nat => (Sum.inl (2, 8, .inr (.inr (.inr (.inr h)))) : va_E)) (sref_up 2 3)) rfl))) ?_
  refine g_iincN (k := 1) (n := 37) dX5_init_34 rfl (by decide) rfl rfl ?_
  refine g_lsN (ls' := [_, _]) rfl ?_
  refine g_goto (tgt := 15) dX5_init_37 (by decide) ?_
  refine g_iload_n (n := 16) dX5_init_15 rfl rfl ?_
  refine g_bipush (v := nI 8) (n := 18) dX5_init_16 (by decide) rfl ?_
  refine g_icmp_ge (tgt := 40) (n := 21) dX5_init_18 (by decide) rfl (fun c18 => absurd c18 (by decide)) (fun c18 => ?_)
  refine g_aload_n (n := 22) dX5_init_21 rfl rfl ?_
  refine g_get (n := 25) fl_X5_11 dX5_init_22 rfl rfl rfl ?_
  refine g_iload_n (n := 26) dX5_init_25 rfl rfl ?_
  refine g_new (ci := 3) (k := 18) (ty := tyX3) (fs := dfX3) (n := 29) rfl dX5_init_26 us_X3 tyX3_ok kl_X5_9 ki_X3 kj_X3 rfl dfok_X3 rfl ⟨rfl, (sref_cl (by decide)), rfl, trivial, trivial, trivial, rfl, trivial, trivial, trivial, rfl, trivial, trivial, trivial, rfl, trivial, trivial, trivial, trivial⟩ rfl rfl ⟨by decide, by decide⟩ rfl ?_
  refine g_wN (w' := [_, _, _, _, _, _, _, _, _, _, _, _, _, _, _, _, _, _, _]) rfl ?_
  refine g_dup (n := 30) dX5_init_29 rfl rfl ?_
  refine g_callIN (a := 18) (k := 19) (nn := 3) (ps := [18, 19, 20, 21]) (n := 33) rfl rfl ci_X5_17 (t_X3_init l) dX5_init_30 rfl rfl ⟨rfl, trivial, trivial, trivial, trivial⟩ (by decide) ⟨rfl, (sref_cl (by decide)), rfl, trivial, trivial, trivial, rfl, trivial, trivial, trivial, rfl, trivial, trivial, trivial, rfl, trivial, trivial, trivial, rfl, trivial⟩ rfl rfl ⟨by decide, by decide, by decide, by decide, by decide⟩ (Nat.le_of_ble_eq_true rfl) rfl ?_
  refine g_wN (w' := [_, _, _, _, _, _, _, _, _, _, _, _, _, _, _, _, _, _, _, _, _, _]) rfl ?_
  refine g_aastN (n := 34) dX5_init_33 rfl rfl rfl (by decide) (by decide) ?_
  refine g_wN (w' := [_, .inl (2, 8, .inr (.inr (.inr (.inr (sref 2 5))))), _, _, _, _, _, _, _, _, _, _, _, _, _, _, _, _, _, _, _, _]) (lcons rfl ((lcons (congrArg (fun h : Nat → Option Nat => (Sum.inl (2, 8, .inr (.inr (.inr (.inr h)))) : va_E)) (sref_up 2 4)) rfl))) ?_
  refine g_iincN (k := 1) (n := 37) dX5_init_34 rfl (by decide) rfl rfl ?_
  refine g_lsN (ls' := [_, _]) rfl ?_
  refine g_goto (tgt := 15) dX5_init_37 (by decide) ?_
  refine g_iload_n (n := 16) dX5_init_15 rfl rfl ?_
  refine g_bipush (v := nI 8) (n := 18) dX5_init_16 (by decide) rfl ?_
  refine g_icmp_ge (tgt := 40) (n := 21) dX5_init_18 (by decide) rfl (fun c18 => absurd c18 (by decide)) (fun c18 => ?_)
  refine g_aload_n (n := 22) dX5_init_21 rfl rfl ?_
  refine g_get (n := 25) fl_X5_11 dX5_init_22 rfl rfl rfl ?_
  refine g_iload_n (n := 26) dX5_init_25 rfl rfl ?_
  refine g_new (ci := 3) (k := 22) (ty := tyX3) (fs := dfX3) (n := 29) rfl dX5_init_26 us_X3 tyX3_ok kl_X5_9 ki_X3 kj_X3 rfl dfok_X3 rfl ⟨rfl, (sref_cl (by decide)), rfl, trivial, trivial, trivial, rfl, trivial, trivial, trivial, rfl, trivial, trivial, trivial, rfl, trivial, trivial, trivial, rfl, trivial, trivial, trivial, trivial⟩ rfl rfl ⟨by decide, by decide⟩ rfl ?_
  refine g_wN (w' := [_, _, _, _, _, _, _, _, _, _, _, _, _, _, _, _, _, _, _, _, _, _, _]) rfl ?_
  refine g_dup (n := 30) dX5_init_29 rfl rfl ?_
  refine g_callIN (a := 22) (k := 23) (nn := 3) (ps := [22, 23, 24, 25]) (n := 33) rfl rfl ci_X5_17 (t_X3_init l) dX5_init_30 rfl rfl ⟨rfl, trivial, trivial, trivial, trivial⟩ (by decide) ⟨rfl, (sref_cl (by decide)), rfl, trivial, trivial, trivial, rfl, trivial, trivial, trivial, rfl, trivial, trivial, trivial, rfl, trivial, trivial, trivial, rfl, trivial, trivial, trivial, rfl, trivial⟩ rfl rfl ⟨by decide, by decide, by decide, by decide, by decide⟩ (Nat.le_of_ble_eq_true rfl) rfl ?_
  refine g_wN (w' := [_, _, _, _, _, _, _, _, _, _, _, _, _, _, _, _, _, _, _, _, _, _, _, _, _, _]) rfl ?_
  refine g_aastN (n := 34) dX5_init_33 rfl rfl rfl (by decide) (by decide) ?_
  refine g_wN (w' := [_, .inl (2, 8, .inr (.inr (.inr (.inr (sref 2 6))))), _, _, _, _, _, _, _, _, _, _, _, _, _, _, _, _, _, _, _, _, _, _, _, _]) (lcons rfl ((lcons (congrArg (fun h : Nat → Option Nat => (Sum.inl (2, 8, .inr (.inr (.inr (.inr h)))) : va_E)) (sref_up 2 5)) rfl))) ?_
  refine g_iincN (k := 1) (n := 37) dX5_init_34 rfl (by decide) rfl rfl ?_
  refine g_lsN (ls' := [_, _]) rfl ?_
  refine g_goto (tgt := 15) dX5_init_37 (by decide) ?_
  refine g_iload_n (n := 16) dX5_init_15 rfl rfl ?_
  refine g_bipush (v := nI 8) (n := 18) dX5_init_16 (by decide) rfl ?_
  refine g_icmp_ge (tgt := 40) (n := 21) dX5_init_18 (by decide) rfl (fun c18 => absurd c18 (by decide)) (fun c18 => ?_)
  refine g_aload_n (n := 22) dX5_init_21 rfl rfl ?_
  refine g_get (n := 25) fl_X5_11 dX5_init_22 rfl rfl rfl ?_
  refine g_iload_n (n := 26) dX5_init_25 rfl rfl ?_
  refine g_new (ci := 3) (k := 26) (ty := tyX3) (fs := dfX3) (n := 29) rfl dX5_init_26 us_X3 tyX3_ok kl_X5_9 ki_X3 kj_X3 rfl dfok_X3 rfl ⟨rfl, (sref_cl (by decide)), rfl, trivial, trivial, trivial, rfl, trivial, trivial, trivial, rfl, trivial, trivial, trivial, rfl, trivial, trivial, trivial, rfl, trivial, trivial, trivial, rfl, trivial, trivial, trivial, trivial⟩ rfl rfl ⟨by decide, by decide⟩ rfl ?_
  refine g_wN (w' := [_, _, _, _, _, _, _, _, _, _, _, _, _, _, _, _, _, _, _, _, _, _, _, _, _, _, _]) rfl ?_
  refine g_dup (n := 30) dX5_init_29 rfl rfl ?_
  refine g_callIN (a := 26) (k := 27) (nn := 3) (ps := [26, 27, 28, 29]) (n := 33) rfl rfl ci_X5_17 (t_X3_init l) dX5_init_30 rfl rfl ⟨rfl, trivial, trivial, trivial, trivial⟩ (by decide) ⟨rfl, (sref_cl (by decide)), rfl, trivial, trivial, trivial, rfl, trivial, trivial, trivial, rfl, trivial, trivial, trivial, rfl, trivial, trivial, trivial, rfl, trivial, trivial, trivial, rfl, trivial, trivial, trivial, rfl, trivial⟩ rfl rfl ⟨by decide, by decide, by decide, by decide, by decide⟩ (Nat.le_of_ble_eq_true rfl) rfl ?_
  refine g_wN (w' := [_, _, _, _, _, _, _, _, _, _, _, _, _, _, _, _, _, _, _, _, _, _, _, _, _, _, _, _, _, _]) rfl ?_
  refine g_aastN (n := 34) dX5_init_33 rfl rfl rfl (by decide) (by decide) ?_
  refine g_wN (w' := [_, .inl (2, 8, .inr (.inr (.inr (.inr (sref 2 7))))), _, _, _, _, _, _, _, _, _, _, _, _, _, _, _, _, _, _, _, _, _, _, _, _, _, _, _, _]) (lcons rfl ((lcons (congrArg (fun h : Nat → Option Nat => (Sum.inl (2, 8, .inr (.inr (.inr (.inr h)))) : va_E)) (sref_up 2 6)) rfl))) ?_
  refine g_iincN (k := 1) (n := 37) dX5_init_34 rfl (by decide) rfl rfl ?_
  refine g_lsN (ls' := [_, _]) rfl ?_
  refine g_goto (tgt := 15) dX5_init_37 (by decide) ?_
  refine g_iload_n (n := 16) dX5_init_15 rfl rfl ?_
  refine g_bipush (v := nI 8) (n := 18) dX5_init_16 (by decide) rfl ?_
  refine g_icmp_ge (tgt := 40) (n := 21) dX5_init_18 (by decide) rfl (fun c18 => absurd c18 (by decide)) (fun c18 => ?_)
  refine g_aload_n (n := 22) dX5_init_21 rfl rfl ?_
  refine g_get (n := 25) fl_X5_11 dX5_init_22 rfl rfl rfl ?_
  refine g_iload_n (n := 26) dX5_init_25 rfl rfl ?_
  refine g_new (ci := 3) (k := 30) (ty := tyX3) (fs := dfX3) (n := 29) rfl dX5_init_26 us_X3 tyX3_ok kl_X5_9 ki_X3 kj_X3 rfl dfok_X3 rfl ⟨rfl, (sref_cl (by decide)), rfl, trivial, trivial, trivial, rfl, trivial, trivial, trivial, rfl, trivial, trivial, trivial, rfl, trivial, trivial, trivial, rfl, trivial, trivial, trivial, rfl, trivial, trivial, trivial, rfl, trivial, trivial, trivial, trivial⟩ rfl rfl ⟨by decide, by decide⟩ rfl ?_
  refine g_wN (w' := [_, _, _, _, _, _, _, _, _, _, _, _, _, _, _, _, _, _, _, _, _, _, _, _, _, _, _, _, _, _, _]) rfl ?_
  refine g_dup (n := 30) dX5_init_29 rfl rfl ?_
  refine g_callIN (a := 30) (k := 31) (nn := 3) (ps := [30, 31, 32, 33]) (n := 33) rfl rfl ci_X5_17 (t_X3_init l) dX5_init_30 rfl rfl ⟨rfl, trivial, trivial, trivial, trivial⟩ (by decide) ⟨rfl, (sref_cl (by decide)), rfl, trivial, trivial, trivial, rfl, trivial, trivial, trivial, rfl, trivial, trivial, trivial, rfl, trivial, trivial, trivial, rfl, trivial, trivial, trivial, rfl, trivial, trivial, trivial, rfl, trivial, trivial, trivial, rfl, trivial⟩ rfl rfl ⟨by decide, by decide, by decide, by decide, by decide⟩ (Nat.le_of_ble_eq_true rfl) rfl ?_
  refine g_wN (w' := (_ :: _ :: _ :: _ :: _ :: _ :: _ :: _ :: _ :: _ :: _ :: _ :: _ :: _ :: _ :: _ :: _ :: _ :: _ :: _ :: _ :: _ :: _ :: _ :: _ :: _ :: _ :: _ :: _ :: _ :: _ :: _ :: _ :: _ :: [])) rfl ?_
  refine g_aastN (n := 34) dX5_init_33 rfl rfl rfl (by decide) (by decide) ?_
  refine g_wN (w' := (_ :: .inl (2, 8, .inr (.inr (.inr (.inr (sref 2 8))))) :: _ :: _ :: _ :: _ :: _ :: _ :: _ :: _ :: _ :: _ :: _ :: _ :: _ :: _ :: _ :: _ :: _ :: _ :: _ :: _ :: _ :: _ :: _ :: _ :: _ :: _ :: _ :: _ :: _ :: _ :: _ :: _ :: [])) (lcons rfl ((lcons (congrArg (fun h : Nat → Option Nat => (Sum.inl (2, 8, .inr (.inr (.inr (.inr h)))) : va_E)) (sref_up 2 7)) rfl))) ?_
  refine g_iincN (k := 1) (n := 37) dX5_init_34 rfl (by decide) rfl rfl ?_
  refine g_lsN (ls' := [_, _]) rfl ?_
  refine g_goto (tgt := 15) dX5_init_37 (by decide) ?_
  refine g_iload_n (n := 16) dX5_init_15 rfl rfl ?_
  refine g_bipush (v := nI 8) (n := 18) dX5_init_16 (by decide) rfl ?_
  refine g_icmp_ge (tgt := 40) (n := 21) dX5_init_18 (by decide) rfl (fun c18 => ?_) (fun c18 => absurd (by decide) c18)
  exact g_vret dX5_init_40 rfl ⟨by decide, by decide⟩ ⟨rfl, rfl⟩

/-! 56.minit: the reference's constructor -/
abbrev e0 : MR := (fz, nI 0, fz, fz, nI 0, fz, nI 0, fz, nI 0, nI 0, fz)
abbrev VA1 : WT := vB V0 (nI 20) (nI 3)
abbrev VA2 : WT := vB VA1 (nI 35) (nI 2)
abbrev VA3 : WT := vB VA2 (nI 40) (nI 2)
abbrev VA4 : WT := vB VA3 (nI 30) (nI 4)
abbrev VA5 : WT := vB VA4 (nI 15) (nI 6)
abbrev VA6 : WT := vF VA5 (nI 0) (nI 25) (nI 10)
abbrev be1 : Nat → Int32 := upd fz 0 (nI 1)
abbrev VA7 : WT := vF VA6 (nI 1) (nI 15) (nI 6)
abbrev be2 : Nat → Int32 := upd be1 1 (nI 0)
abbrev VA8 : WT := vF VA7 (nI 2) (nI 30) (nI 8)
abbrev be3 : Nat → Int32 := upd be2 2 (nI 2)
abbrev VA9 : WT := vF VA8 (nI 3) (nI 20) (nI 12)
abbrev be4 : Nat → Int32 := upd be3 3 (nI 3)
abbrev VA10 : WT := vF VA9 (nI 0) (nI 18) (nI 9)
abbrev be5 : Nat → Int32 := upd be4 4 (nI 4)
abbrev VA11 : WT := vF VA10 (nI 2) (nI 22) (nI 7)
abbrev be6 : Nat → Int32 := upd be5 5 (nI 1)
abbrev VM : WT := (5, 6, 4, nI 4, vth VA11, vpa VA11, vki VA11, vsg VA11, vkn VA11)
theorem okV_VM : okV VM := ⟨by decide, by decide, by decide⟩
theorem okW_VM : okW VM := fun j hj => by
  show upd (upd (upd (upd (upd (upd (fun _ => nI 0) 0 (nI 10)) 1 (nI 6)) 2 (nI 8)) 3 (nI 12)) 4 (nI 9)) 5 (nI 7) j = 0
  rw [pk_un (by omega), pk_un (by omega), pk_un (by omega), pk_un (by omega), pk_un (by omega), pk_un (by omega)]
  rfl
abbrev eM : MR := sPK (sIK (sRd e0 (tk VM) be6 (nI 16) (nI 0)) (eIm e0) (nI 0)) (ePa e0) (nI 0)
abbrev SM0 : ST := lyS VM be6 (nI 16)
set_option maxRecDepth 20000 in
set_option maxHeartbeats 4000000 in
theorem t_X9_init (l : Launch) : Con l M_X9_init [.ref 0] [.inr (9, dfX9)] (fun r u => r = none ∧ u = mw eM (tk VM) (pk SM0)) := by
  refine con_of rfl rfl (Nat.le_of_ble_eq_true rfl) ?_
  refine g_lsN (ls' := [_]) rfl ?_
  refine g_aload_n (n := 1) dX9_init_0 rfl rfl ?_
  refine g_objInit (n := 4) dX9_init_1 lk_X9_1 lw_oi lc_oi (by decide) (Nat.le_of_ble_eq_true rfl) rfl ?_
  refine g_aload_n (n := 5) dX9_init_4 rfl rfl ?_
  refine g_sipush (v := nI 200) (n := 8) dX9_init_5 (by decide) rfl ?_
  refine g_newi (k := 1) (n := 10) rfl dX9_init_8 ka_int (by decide) ⟨rfl, trivial⟩ rfl rfl ⟨by decide, by decide⟩ rfl ?_
  refine g_wN (w' := [_, _]) rfl ?_
  refine g_putF (n := 13) pf_X9_7 rfl rfl dX9_init_10 rfl (Nat.le_of_ble_eq_true rfl) (fun _ => rfl) (fun _ => rfl) rfl ?_
  refine g_wN (w' := [_, _]) rfl ?_
  refine g_aload_n (n := 14) dX9_init_13 rfl rfl ?_
  refine g_bipush (v := nI 38) (n := 16) dX9_init_14 (by decide) rfl ?_
  refine g_newi (k := 2) (n := 18) rfl dX9_init_16 ka_int (by decide) ⟨rfl, trivial, trivial⟩ rfl rfl ⟨by decide, by decide⟩ rfl ?_
  refine g_wN (w' := [_, _, _]) rfl ?_
  refine g_putF (n := 21) pf_X9_13 rfl rfl dX9_init_18 rfl (Nat.le_of_ble_eq_true rfl) (fun _ => rfl) (fun _ => rfl) rfl ?_
  refine g_wN (w' := [_, _, _]) rfl ?_
  refine g_aload_n (n := 22) dX9_init_21 rfl rfl ?_
  refine g_bipush (v := nI 38) (n := 24) dX9_init_22 (by decide) rfl ?_
  refine g_newi (k := 3) (n := 26) rfl dX9_init_24 ka_int (by decide) ⟨rfl, trivial, trivial, trivial⟩ rfl rfl ⟨by decide, by decide⟩ rfl ?_
  refine g_wN (w' := [_, _, _, _]) rfl ?_
  refine g_putF (n := 29) pf_X9_16 rfl rfl dX9_init_26 rfl (Nat.le_of_ble_eq_true rfl) (fun _ => rfl) (fun _ => rfl) rfl ?_
  refine g_wN (w' := [_, _, _, _]) rfl ?_
  refine g_aload_n (n := 30) dX9_init_29 rfl rfl ?_
  refine g_bipush (v := nI 6) (n := 32) dX9_init_30 (by decide) rfl ?_
  refine g_newi (k := 4) (n := 34) rfl dX9_init_32 ka_int (by decide) ⟨rfl, trivial, trivial, trivial, trivial⟩ rfl rfl ⟨by decide, by decide⟩ rfl ?_
  refine g_wN (w' := [_, _, _, _, _]) rfl ?_
  refine g_putF (n := 37) pf_X9_19 rfl rfl dX9_init_34 rfl (Nat.le_of_ble_eq_true rfl) (fun _ => rfl) (fun _ => rfl) rfl ?_
  refine g_wN (w' := [_, _, _, _, _]) rfl ?_
  refine g_aload_n (n := 38) dX9_init_37 rfl rfl ?_
  refine g_bipush (v := nI 23) (n := 40) dX9_init_38 (by decide) rfl ?_
  refine g_newi (k := 5) (n := 42) rfl dX9_init_40 ka_int (by decide) ⟨rfl, trivial, trivial, trivial, trivial, trivial⟩ rfl rfl ⟨by decide, by decide⟩ rfl ?_
  refine g_wN (w' := [_, _, _, _, _, _]) rfl ?_
  refine g_putF (n := 45) pf_X9_22 rfl rfl dX9_init_42 rfl (Nat.le_of_ble_eq_true rfl) (fun _ => rfl) (fun _ => rfl) rfl ?_
  refine g_wN (w' := [_, _, _, _, _, _]) rfl ?_
  refine g_aload_n (n := 46) dX9_init_45 rfl rfl ?_
  refine g_sipush (v := nI 184) (n := 49) dX9_init_46 (by decide) rfl ?_
  refine g_newi (k := 6) (n := 51) rfl dX9_init_49 ka_int (by decide) ⟨rfl, trivial, trivial, trivial, trivial, trivial, trivial⟩ rfl rfl ⟨by decide, by decide⟩ rfl ?_
  refine g_wN (w' := [_, _, _, _, _, _, _]) rfl ?_
  refine g_putF (n := 54) pf_X9_25 rfl rfl dX9_init_51 rfl (Nat.le_of_ble_eq_true rfl) (fun _ => rfl) (fun _ => rfl) rfl ?_
  refine g_wN (w' := [_, _, _, _, _, _, _]) rfl ?_
  refine g_aload_n (n := 55) dX9_init_54 rfl rfl ?_
  refine g_bipush (v := nI 46) (n := 57) dX9_init_55 (by decide) rfl ?_
  refine g_newi (k := 7) (n := 59) rfl dX9_init_57 ka_int (by decide) ⟨rfl, trivial, trivial, trivial, trivial, trivial, trivial, trivial⟩ rfl rfl ⟨by decide, by decide⟩ rfl ?_
  refine g_wN (w' := [_, _, _, _, _, _, _, _]) rfl ?_
  refine g_putF (n := 62) pf_X9_28 rfl rfl dX9_init_59 rfl (Nat.le_of_ble_eq_true rfl) (fun _ => rfl) (fun _ => rfl) rfl ?_
  refine g_wN (w' := [_, _, _, _, _, _, _, _]) rfl ?_
  refine g_aload_n (n := 63) dX9_init_62 rfl rfl ?_
  refine g_bipush (v := nI 23) (n := 65) dX9_init_63 (by decide) rfl ?_
  refine g_newi (k := 8) (n := 67) rfl dX9_init_65 ka_int (by decide) ⟨rfl, trivial, trivial, trivial, trivial, trivial, trivial, trivial, trivial⟩ rfl rfl ⟨by decide, by decide⟩ rfl ?_
  refine g_wN (w' := [_, _, _, _, _, _, _, _, _]) rfl ?_
  refine g_putF (n := 70) pf_X9_31 rfl rfl dX9_init_67 rfl (Nat.le_of_ble_eq_true rfl) (fun _ => rfl) (fun _ => rfl) rfl ?_
  refine g_wN (w' := [_, _, _, _, _, _, _, _, _]) rfl ?_
  refine g_wN (w' := mw (sRd e0 fz fz (nI 0) (nI 0)) fz fz) rfl ?_
  refine g_aload_n (n := 71) dX9_init_70 rfl rfl ?_
  refine g_callWv (n := 74) cv_X9_34 (t_X9_begins l e0 fz fz fz fz (nI 0) (nI 0) (fun _ _ => rfl)) dX9_init_71 rfl ⟨by decide, by decide, rfl, rfl, by decide, by decide⟩ rfl rfl rfl (Nat.le_of_ble_eq_true rfl) rfl rfl ?_
  refine g_aload_n (n := 75) dX9_init_74 rfl rfl ?_
  refine g_bipush (v := nI 20) (n := 77) dX9_init_75 (by decide) rfl ?_
  refine g_iconst (v := nI 3) (n := 78) dX9_init_77 (by decide) rfl ?_
  refine g_callWv (n := 81) cv_X9_37 (t_X9_bayOf l e0 fz fz V0 fz (nI 0) (nI 0) (by decide) (nI 20) (nI 3)) dX9_init_78 rfl ⟨by decide, by decide, rfl, rfl, by decide, by decide⟩ rfl rfl rfl (Nat.le_of_ble_eq_true rfl) rfl rfl ?_
  refine g_aload_n (n := 82) dX9_init_81 rfl rfl ?_
  refine g_bipush (v := nI 35) (n := 84) dX9_init_82 (by decide) rfl ?_
  refine g_iconst (v := nI 2) (n := 85) dX9_init_84 (by decide) rfl ?_
  refine g_callWv (n := 88) cv_X9_37 (t_X9_bayOf l e0 fz fz VA1 fz (nI 0) (nI 0) (by decide) (nI 35) (nI 2)) dX9_init_85 rfl ⟨by decide, by decide, rfl, rfl, by decide, by decide⟩ rfl rfl rfl (Nat.le_of_ble_eq_true rfl) rfl rfl ?_
  refine g_aload_n (n := 89) dX9_init_88 rfl rfl ?_
  refine g_bipush (v := nI 40) (n := 91) dX9_init_89 (by decide) rfl ?_
  refine g_iconst (v := nI 2) (n := 92) dX9_init_91 (by decide) rfl ?_
  refine g_callWv (n := 95) cv_X9_37 (t_X9_bayOf l e0 fz fz VA2 fz (nI 0) (nI 0) (by decide) (nI 40) (nI 2)) dX9_init_92 rfl ⟨by decide, by decide, rfl, rfl, by decide, by decide⟩ rfl rfl rfl (Nat.le_of_ble_eq_true rfl) rfl rfl ?_
  refine g_aload_n (n := 96) dX9_init_95 rfl rfl ?_
  refine g_bipush (v := nI 30) (n := 98) dX9_init_96 (by decide) rfl ?_
  refine g_iconst (v := nI 4) (n := 99) dX9_init_98 (by decide) rfl ?_
  refine g_callWv (n := 102) cv_X9_37 (t_X9_bayOf l e0 fz fz VA3 fz (nI 0) (nI 0) (by decide) (nI 30) (nI 4)) dX9_init_99 rfl ⟨by decide, by decide, rfl, rfl, by decide, by decide⟩ rfl rfl rfl (Nat.le_of_ble_eq_true rfl) rfl rfl ?_
  refine g_aload_n (n := 103) dX9_init_102 rfl rfl ?_
  refine g_bipush (v := nI 15) (n := 105) dX9_init_103 (by decide) rfl ?_
  refine g_bipush (v := nI 6) (n := 107) dX9_init_105 (by decide) rfl ?_
  refine g_callWv (n := 110) cv_X9_37 (t_X9_bayOf l e0 fz fz VA4 fz (nI 0) (nI 0) (by decide) (nI 15) (nI 6)) dX9_init_107 rfl ⟨by decide, by decide, rfl, rfl, by decide, by decide⟩ rfl rfl rfl (Nat.le_of_ble_eq_true rfl) rfl rfl ?_
  refine g_aload_n (n := 111) dX9_init_110 rfl rfl ?_
  refine g_iconst (v := nI 0) (n := 112) dX9_init_111 (by decide) rfl ?_
  refine g_bipush (v := nI 25) (n := 114) dX9_init_112 (by decide) rfl ?_
  refine g_iconst (v := nI 1) (n := 115) dX9_init_114 (by decide) rfl ?_
  refine g_bipush (v := nI 10) (n := 117) dX9_init_115 (by decide) rfl ?_
  refine g_callWv (n := 120) cv_X9_41 (t_X9_buttressOf l e0 fz fz VA5 fz (nI 0) (nI 0) (by decide) (nI 0) (nI 25) (nI 1) (nI 10)) dX9_init_117 rfl ⟨by decide, by decide, rfl, rfl, by decide, by decide⟩ rfl rfl rfl (Nat.le_of_ble_eq_true rfl) rfl rfl ?_
  refine g_aload_n (n := 121) dX9_init_120 rfl rfl ?_
  refine g_iconst (v := nI 1) (n := 122) dX9_init_121 (by decide) rfl ?_
  refine g_bipush (v := nI 15) (n := 124) dX9_init_122 (by decide) rfl ?_
  refine g_iconst (v := nI 0) (n := 125) dX9_init_124 (by decide) rfl ?_
  refine g_bipush (v := nI 6) (n := 127) dX9_init_125 (by decide) rfl ?_
  refine g_callWv (n := 130) cv_X9_41 (t_X9_buttressOf l e0 fz fz VA6 be1 (nI 0) (nI 0) (by decide) (nI 1) (nI 15) (nI 0) (nI 6)) dX9_init_127 rfl ⟨by decide, by decide, rfl, rfl, by decide, by decide⟩ rfl rfl rfl (Nat.le_of_ble_eq_true rfl) rfl rfl ?_
  refine g_aload_n (n := 131) dX9_init_130 rfl rfl ?_
  refine g_iconst (v := nI 2) (n := 132) dX9_init_131 (by decide) rfl ?_
  refine g_bipush (v := nI 30) (n := 134) dX9_init_132 (by decide) rfl ?_
  refine g_iconst (v := nI 2) (n := 135) dX9_init_134 (by decide) rfl ?_
  refine g_bipush (v := nI 8) (n := 137) dX9_init_135 (by decide) rfl ?_
  refine g_callWv (n := 140) cv_X9_41 (t_X9_buttressOf l e0 fz fz VA7 be2 (nI 0) (nI 0) (by decide) (nI 2) (nI 30) (nI 2) (nI 8)) dX9_init_137 rfl ⟨by decide, by decide, rfl, rfl, by decide, by decide⟩ rfl rfl rfl (Nat.le_of_ble_eq_true rfl) rfl rfl ?_
  refine g_aload_n (n := 141) dX9_init_140 rfl rfl ?_
  refine g_iconst (v := nI 3) (n := 142) dX9_init_141 (by decide) rfl ?_
  refine g_bipush (v := nI 20) (n := 144) dX9_init_142 (by decide) rfl ?_
  refine g_iconst (v := nI 3) (n := 145) dX9_init_144 (by decide) rfl ?_
  refine g_bipush (v := nI 12) (n := 147) dX9_init_145 (by decide) rfl ?_
  refine g_callWv (n := 150) cv_X9_41 (t_X9_buttressOf l e0 fz fz VA8 be3 (nI 0) (nI 0) (by decide) (nI 3) (nI 20) (nI 3) (nI 12)) dX9_init_147 rfl ⟨by decide, by decide, rfl, rfl, by decide, by decide⟩ rfl rfl rfl (Nat.le_of_ble_eq_true rfl) rfl rfl ?_
  refine g_aload_n (n := 151) dX9_init_150 rfl rfl ?_
  refine g_iconst (v := nI 0) (n := 152) dX9_init_151 (by decide) rfl ?_
  refine g_bipush (v := nI 18) (n := 154) dX9_init_152 (by decide) rfl ?_
  refine g_iconst (v := nI 4) (n := 155) dX9_init_154 (by decide) rfl ?_
  refine g_bipush (v := nI 9) (n := 157) dX9_init_155 (by decide) rfl ?_
  refine g_callWv (n := 160) cv_X9_41 (t_X9_buttressOf l e0 fz fz VA9 be4 (nI 0) (nI 0) (by decide) (nI 0) (nI 18) (nI 4) (nI 9)) dX9_init_157 rfl ⟨by decide, by decide, rfl, rfl, by decide, by decide⟩ rfl rfl rfl (Nat.le_of_ble_eq_true rfl) rfl rfl ?_
  refine g_aload_n (n := 161) dX9_init_160 rfl rfl ?_
  refine g_iconst (v := nI 2) (n := 162) dX9_init_161 (by decide) rfl ?_
  refine g_bipush (v := nI 22) (n := 164) dX9_init_162 (by decide) rfl ?_
  refine g_iconst (v := nI 1) (n := 165) dX9_init_164 (by decide) rfl ?_
  refine g_bipush (v := nI 7) (n := 167) dX9_init_165 (by decide) rfl ?_
  refine g_callWv (n := 170) cv_X9_41 (t_X9_buttressOf l e0 fz fz VA10 be5 (nI 0) (nI 0) (by decide) (nI 2) (nI 22) (nI 1) (nI 7)) dX9_init_167 rfl ⟨by decide, by decide, rfl, rfl, by decide, by decide⟩ rfl rfl rfl (Nat.le_of_ble_eq_true rfl) rfl rfl ?_
  refine g_aload_n (n := 171) dX9_init_170 rfl rfl ?_
  refine g_get (n := 174) fl_X9_16 dX9_init_171 rfl rfl rfl ?_
  refine g_iconst (v := nI 2) (n := 175) dX9_init_174 (by decide) rfl ?_
  refine g_iconst (v := nI 4) (n := 176) dX9_init_175 (by decide) rfl ?_
  refine g_iastN (n := 177) dX9_init_176 rfl rfl (by decide) (by omega) ?_
  refine g_wN (w' := [_, _, _, _, _, _, _, _, _]) rfl ?_
  refine g_wN (w' := mw (sRd e0 (tk (5, 6, 4, nI 0, vth VA11, vpa VA11, vki VA11, vsg VA11, vkn VA11)) be6 (nI 0) (nI 0)) fz fz) (lcons rfl (lcons rfl (lcons rfl (lcons (congrArg (fun f : Nat → Int32 => (Sum.inl (0, 38, .inl f) : va_E)) (tk_nc 5 6 0 4 (nI 0) (vth VA11) (vpa VA11) (vki VA11) (vsg VA11) (vkn VA11))) rfl)))) ?_
  refine g_aload_n (n := 178) dX9_init_177 rfl rfl ?_
  refine g_get (n := 181) fl_X9_16 dX9_init_178 rfl rfl rfl ?_
  refine g_iconst (v := nI 3) (n := 182) dX9_init_181 (by decide) rfl ?_
  refine g_iconst (v := nI 4) (n := 183) dX9_init_182 (by decide) rfl ?_
  refine g_iastN (n := 184) dX9_init_183 rfl rfl (by decide) (by omega) ?_
  refine g_wN (w' := [_, _, _, _, _, _, _, _, _]) rfl ?_
  refine g_wN (w' := mw (sRd e0 (tk VM) be6 (nI 0) (nI 0)) fz fz) (lcons rfl (lcons rfl (lcons rfl (lcons (congrArg (fun f : Nat → Int32 => (Sum.inl (0, 38, .inl f) : va_E)) (tk_uca 5 6 4 (nI 0) (nI 4) (vth VA11) (vpa VA11) (vki VA11) (vsg VA11) (vkn VA11))) rfl)))) ?_
  refine g_aload_n (n := 185) dX9_init_184 rfl rfl ?_
  refine g_bipush (v := nI 16) (n := 187) dX9_init_185 (by decide) rfl ?_
  refine g_put (n := 190) pf_X9_45 dX9_init_187 rfl (Nat.le_of_ble_eq_true rfl) (fun _ => rfl) (fun _ => rfl) rfl ?_
  refine g_wN (w' := [_, _, _, _, _, _, _, _, _]) rfl ?_
  refine g_wN (w' := mw (sRd e0 (tk VM) be6 (nI 16) (nI 0)) fz fz) rfl ?_
  refine g_aload_n (n := 191) dX9_init_190 rfl rfl ?_
  refine g_callWv (n := 194) cv_X9_49 (t_X9_lays l e0 fz fz VM okV_VM be6 (nI 16) (nI 0) (fun _ _ => rfl) (fun _ _ => rfl) okW_VM) dX9_init_191 rfl ⟨by decide, by decide, rfl, rfl, by decide, by decide⟩ rfl rfl rfl (Nat.le_of_ble_eq_true rfl) rfl rfl ?_
  exact g_vret dX9_init_194 rfl ⟨by decide, by decide⟩ ⟨rfl, rfl⟩

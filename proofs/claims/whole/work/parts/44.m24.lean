/-- a new object of the reference -/
def mNew : mSt := (va_up (fun _ => 0) 35 (-1), fun _ _ => 0, fun _ _ => 0)
def mr (m j k : Nat) : Value := if k ≤ j then .ref (m + k) else .null
def mFB (m j : Nat) (z : Nat → Int32) : List Value := [.int (z 0), .int (z 1), .int (z 2), .int (z 3), .int (z 4), .int (z 5), mr m j 1, mr m j 2, mr m j 3, mr m j 4, mr m j 5, mr m j 6, mr m j 7, mr m j 8, mr m j 9, mr m j 10, mr m j 11, mr m j 12, mr m j 13, mr m j 14, mr m j 15, mr m j 16, mr m j 17, mr m j 18, mr m j 19, mr m j 20, mr m j 21, mr m j 22, mr m j 23, mr m j 24, mr m j 25, mr m j 26, mr m j 27, .int (z 33), .int (z 34), .int (z 35), .int (z 36), mr m j 28, .int (z 38), .int (z 39), mr m j 29, mr m j 30, .int (z 42), .int (z 43), mr m j 31, mr m j 32, mr m j 33, mr m j 34, mr m j 35]
/-- within the constructor: j arrays are made, n slots used -/
def mB (m j : Nat) (z : Nat → Int32) (n : Nat) (h1 h : ax_H) : Prop := h.1 = m + 1 + j ∧ h.2.1 = n ∧ h.2.2 m = some (.inr (11, mFB m j z)) ∧ (∀ k, 0 < k → k ≤ j → h.2.2 (m + k) = some (mA m mNew k)) ∧ ∀ a, a < m → h.2.2 a = h1.2.2 a
section MNEW
variable {G : ax_G} {x : ax_X} {fr lo : Nat} {h0 h : ax_H} {P : Option Value → ax_H → Prop} {m pc : Nat} {ls : List (Option Value)} {st : List Value}
theorem aM_newf {z : Nat → Int32} {j n N n2 : Nat} {h1 : ax_H} {atype : ArrayType} {nz : Int32} {idx q : Nat} (hB : mB m j z n h1 h) (w1 : Cond.arrayClass (newarray.typeOf atype) ∈ lw_tbl) (hty : newarray.typeOf atype = mTy (j + 1)) (hf : ∀ i, ax_v (mC mNew (j + 1)) i = defaultValue (mTy (j + 1))) (hno : ∀ C : String, mTy (j + 1) ≠ .object C) (hn : ¬ nz < 0) (hN : nz.toNatClampNeg = N) (hL : N = mLen (j + 1)) (hbytes : N * componentBytes (mTy (j + 1)) ≤ 536870912) (hc : m + 1 + j + 1 ≤ G.1 + room_1.cells) (hs : n + N ≤ room_1.slots) (f : Cond.fieldLink "SymbolLinkerModel" idx (T_M q).1 (T_M q).2.1 (T_M q).2.2.1 ∈ lw_tbl) (hq : q < 49) (hfin : (T_M q).2.2.2 = true) (hdecl : (T_M q).1 = "SymbolLinkerModel") (he : (mFB m j z).set q (.ref (m + (j + 1))) = mFB m (j + 1) z) (hn2 : n + N = n2) (hnr : ∀ r, narrow (ty_M q) (.ref r) = .ref r) (hfit : ∀ r, fits (ty_M q) (.ref r) = true) (hd : decode Y_M_init.2.1 pc = .ok (.newarray atype, 2)) (hd2 : decode Y_M_init.2.1 (pc + 2) = .ok (.putfield idx, 3)) (k : ∀ g, mB m (j + 1) z n2 h1 g → AW G x Y_M_init fr lo h0 P g (pc + 2 + 3) ls st) : AW G x Y_M_init fr lo h0 P h pc ls (.int nz :: .ref m :: st) := by
  obtain ⟨b1, b2, b3, b4, b5⟩ := hB
  refine aw_newa w1 hty hf hn hN hbytes (by rw [b1]; exact hc) (by rw [b2]; exact hs) hd hno ?_
  refine aw_putF cl_M f hq hfin rfl hdecl ((ax_new_ne _ _ (by omega)).trans b3) (show q < (mFB m j z).length from hq) (hnr _) (hfit _) hd2 ?_
  have e1 : h.1 = m + (j + 1) := by omega
  refine k _ ⟨?_, ?_, ?_, ?_, ?_⟩
  · show h.1 + 1 = _
    omega
  · show h.2.1 + N = _
    rw [b2]
    exact hn2
  · rw [e1, he]
    exact ax_get_self _ _
  · intro i hi hij
    refine (ax_get_ne _ (by omega)).trans ?_
    by_cases hx : i = j + 1
    · subst hx
      rw [← e1]
      refine (ax_new_self _ _).trans ?_
      rw [hL]
      rfl
    · exact (ax_new_ne _ _ (by omega)).trans (b4 i hi (by omega))
  · intro a ha
    exact (ax_get_ne _ (by omega)).trans ((ax_new_ne _ _ (by omega)).trans (b5 a ha))
theorem aM_putB {z : Nat → Int32} {j n : Nat} {h1 : ax_H} {idx q : Nat} {v : Int32} (hB : mB m j z n h1 h) (f : ax_fl "SymbolLinkerModel" idx T_M q) (hq : q < 49) (hfin : (T_M q).2.2.2 = false) (he : (mFB m j z).set q (.int v) = mFB m j (va_up z q v)) (hnr : narrow (ty_M q) (.int v) = .int v) (hfit : fits (ty_M q) (.int v) = true) (hd : decode Y_M_init.2.1 pc = .ok (.putfield idx, 3)) (k : ∀ g, mB m j (va_up z q v) n h1 g → AW G x Y_M_init fr lo h0 P g (pc + 3) ls st) : AW G x Y_M_init fr lo h0 P h pc ls (.int v :: .ref m :: st) := by
  obtain ⟨b1, b2, b3, b4, b5⟩ := hB
  refine aw_put cl_M f hq hfin b3 (show q < (mFB m j z).length from hq) hnr hfit hd (k _ ⟨b1, b2, by rw [he]; exact ax_get_self _ _, ?_, ?_⟩)
  · intro i hi hij
    exact (ax_get_ne _ (by omega)).trans (b4 i hi hij)
  · intro a ha
    exact (ax_get_ne _ (by omega)).trans (b5 a ha)
end MNEW
set_option maxRecDepth 40000 in
theorem c_M_init (G : ax_G) (h : ax_H) (m n : Nat) (h1 : ax_H) (hB : mB m 0 (fun _ => 0) n h1 h) (hc : m + 36 ≤ G.1 + room_1.cells) (hs : n + 619368 ≤ room_1.slots) : AM G Y_M_init 1 20 [.ref m] h (fun v h2 => v = none ∧ mR m mNew h2 ∧ h2.1 = m + 1 + 35 ∧ h2.2.1 = n + 619368 ∧ ∀ a, a < m → h2.2.2 a = h1.2.2 a) := by
  refine aw_enter (by decide) (Nat.le_of_ble_eq_true rfl) (n := 0) (ls := [some (.ref m)]) rfl (fun x => ?_)
  refine aw_aload_n d_M_init_0 rfl rfl ?_
  refine aw_objInit ml_M_1 oi_2 oi_3 (by decide) (Nat.le_of_ble_eq_true rfl) d_M_init_1 ?_
  refine aw_aload_n d_M_init_4 rfl rfl ?_
  refine aw_bipush (v := 32) d_M_init_5 (by decide) ?_
  refine aM_newf (N := 32) (atype := .boolean) hB ka_boolean rfl (fun _ => rfl) (by intro C q; cases q) (by decide) (by decide) rfl (by decide) (by omega) (by omega) fl_M_7_f (by decide) rfl rfl rfl (show _ = n + 32 by omega) (fun _ => rfl) (fun _ => rfl) d_M_init_7 d_M_init_9 (fun g7 b7 => ?_)
  refine aw_aload_n d_M_init_12 rfl rfl ?_
  refine aw_sipush (v := 128) d_M_init_13 (by decide) ?_
  refine aM_newf (N := 128) (atype := .boolean) b7 ka_boolean rfl (fun _ => rfl) (by intro C q; cases q) (by decide) (by decide) rfl (by decide) (by omega) (by omega) fl_M_13_f (by decide) rfl rfl rfl (show _ = n + 160 by omega) (fun _ => rfl) (fun _ => rfl) d_M_init_16 d_M_init_18 (fun g16 b16 => ?_)
  refine aw_aload_n d_M_init_21 rfl rfl ?_
  refine aw_bipush (v := 32) d_M_init_22 (by decide) ?_
  refine aM_newf (N := 32) (atype := .boolean) b16 ka_boolean rfl (fun _ => rfl) (by intro C q; cases q) (by decide) (by decide) rfl (by decide) (by omega) (by omega) fl_M_16_f (by decide) rfl rfl rfl (show _ = n + 192 by omega) (fun _ => rfl) (fun _ => rfl) d_M_init_24 d_M_init_26 (fun g24 b24 => ?_)
  refine aw_aload_n d_M_init_29 rfl rfl ?_
  refine aw_sipush (v := 128) d_M_init_30 (by decide) ?_
  refine aM_newf (N := 128) (atype := .boolean) b24 ka_boolean rfl (fun _ => rfl) (by intro C q; cases q) (by decide) (by decide) rfl (by decide) (by omega) (by omega) fl_M_19_f (by decide) rfl rfl rfl (show _ = n + 320 by omega) (fun _ => rfl) (fun _ => rfl) d_M_init_33 d_M_init_35 (fun g33 b33 => ?_)
  refine aw_aload_n d_M_init_38 rfl rfl ?_
  refine aw_sipush (v := 128) d_M_init_39 (by decide) ?_
  refine aM_newf (N := 128) (atype := .int) b33 ka_int rfl (fun _ => rfl) (by intro C q; cases q) (by decide) (by decide) rfl (by decide) (by omega) (by omega) fl_M_22_f (by decide) rfl rfl rfl (show _ = n + 448 by omega) (fun _ => rfl) (fun _ => rfl) d_M_init_42 d_M_init_44 (fun g42 b42 => ?_)
  refine aw_aload_n d_M_init_47 rfl rfl ?_
  refine aw_sipush (v := 128) d_M_init_48 (by decide) ?_
  refine aM_newf (N := 128) (atype := .int) b42 ka_int rfl (fun _ => rfl) (by intro C q; cases q) (by decide) (by decide) rfl (by decide) (by omega) (by omega) fl_M_26_f (by decide) rfl rfl rfl (show _ = n + 576 by omega) (fun _ => rfl) (fun _ => rfl) d_M_init_51 d_M_init_53 (fun g51 b51 => ?_)
  refine aw_aload_n d_M_init_56 rfl rfl ?_
  refine aw_sipush (v := 128) d_M_init_57 (by decide) ?_
  refine aM_newf (N := 128) (atype := .int) b51 ka_int rfl (fun _ => rfl) (by intro C q; cases q) (by decide) (by decide) rfl (by decide) (by omega) (by omega) fl_M_29_f (by decide) rfl rfl rfl (show _ = n + 704 by omega) (fun _ => rfl) (fun _ => rfl) d_M_init_60 d_M_init_62 (fun g60 b60 => ?_)
  refine aw_aload_n d_M_init_65 rfl rfl ?_
  refine aw_ldc kc_M_32 d_M_init_66 ?_
  refine aM_newf (N := 262144) (atype := .byte) b60 ka_byte rfl (fun _ => rfl) (by intro C q; cases q) (by decide) (by decide) rfl (by decide) (by omega) (by omega) fl_M_33_f (by decide) rfl rfl rfl (show _ = n + 262848 by omega) (fun _ => rfl) (fun _ => rfl) d_M_init_68 d_M_init_70 (fun g68 b68 => ?_)
  refine aw_aload_n d_M_init_73 rfl rfl ?_
  refine aw_sipush (v := 2048) d_M_init_74 (by decide) ?_
  refine aM_newf (N := 2048) (atype := .long) b68 ka_long rfl (fun _ => rfl) (by intro C q; cases q) (by decide) (by decide) rfl (by decide) (by omega) (by omega) fl_M_37_f (by decide) rfl rfl rfl (show _ = n + 264896 by omega) (fun _ => rfl) (fun _ => rfl) d_M_init_77 d_M_init_79 (fun g77 b77 => ?_)
  refine aw_aload_n d_M_init_82 rfl rfl ?_
  refine aw_sipush (v := 2048) d_M_init_83 (by decide) ?_
  refine aM_newf (N := 2048) (atype := .int) b77 ka_int rfl (fun _ => rfl) (by intro C q; cases q) (by decide) (by decide) rfl (by decide) (by omega) (by omega) fl_M_41_f (by decide) rfl rfl rfl (show _ = n + 266944 by omega) (fun _ => rfl) (fun _ => rfl) d_M_init_86 d_M_init_88 (fun g86 b86 => ?_)
  refine aw_aload_n d_M_init_91 rfl rfl ?_
  refine aw_sipush (v := 2048) d_M_init_92 (by decide) ?_
  refine aM_newf (N := 2048) (atype := .int) b86 ka_int rfl (fun _ => rfl) (by intro C q; cases q) (by decide) (by decide) rfl (by decide) (by omega) (by omega) fl_M_44_f (by decide) rfl rfl rfl (show _ = n + 268992 by omega) (fun _ => rfl) (fun _ => rfl) d_M_init_95 d_M_init_97 (fun g95 b95 => ?_)
  refine aw_aload_n d_M_init_100 rfl rfl ?_
  refine aw_sipush (v := 2048) d_M_init_101 (by decide) ?_
  refine aM_newf (N := 2048) (atype := .int) b95 ka_int rfl (fun _ => rfl) (by intro C q; cases q) (by decide) (by decide) rfl (by decide) (by omega) (by omega) fl_M_47_f (by decide) rfl rfl rfl (show _ = n + 271040 by omega) (fun _ => rfl) (fun _ => rfl) d_M_init_104 d_M_init_106 (fun g104 b104 => ?_)
  refine aw_aload_n d_M_init_109 rfl rfl ?_
  refine aw_sipush (v := 2048) d_M_init_110 (by decide) ?_
  refine aM_newf (N := 2048) (atype := .int) b104 ka_int rfl (fun _ => rfl) (by intro C q; cases q) (by decide) (by decide) rfl (by decide) (by omega) (by omega) fl_M_50_f (by decide) rfl rfl rfl (show _ = n + 273088 by omega) (fun _ => rfl) (fun _ => rfl) d_M_init_113 d_M_init_115 (fun g113 b113 => ?_)
  refine aw_aload_n d_M_init_118 rfl rfl ?_
  refine aw_sipush (v := 2048) d_M_init_119 (by decide) ?_
  refine aM_newf (N := 2048) (atype := .int) b113 ka_int rfl (fun _ => rfl) (by intro C q; cases q) (by decide) (by decide) rfl (by decide) (by omega) (by omega) fl_M_53_f (by decide) rfl rfl rfl (show _ = n + 275136 by omega) (fun _ => rfl) (fun _ => rfl) d_M_init_122 d_M_init_124 (fun g122 b122 => ?_)
  refine aw_aload_n d_M_init_127 rfl rfl ?_
  refine aw_sipush (v := 2048) d_M_init_128 (by decide) ?_
  refine aM_newf (N := 2048) (atype := .int) b122 ka_int rfl (fun _ => rfl) (by intro C q; cases q) (by decide) (by decide) rfl (by decide) (by omega) (by omega) fl_M_56_f (by decide) rfl rfl rfl (show _ = n + 277184 by omega) (fun _ => rfl) (fun _ => rfl) d_M_init_131 d_M_init_133 (fun g131 b131 => ?_)
  refine aw_aload_n d_M_init_136 rfl rfl ?_
  refine aw_bipush (v := 33) d_M_init_137 (by decide) ?_
  refine aM_newf (N := 33) (atype := .int) b131 ka_int rfl (fun _ => rfl) (by intro C q; cases q) (by decide) (by decide) rfl (by decide) (by omega) (by omega) fl_M_59_f (by decide) rfl rfl rfl (show _ = n + 277217 by omega) (fun _ => rfl) (fun _ => rfl) d_M_init_139 d_M_init_141 (fun g139 b139 => ?_)
  refine aw_aload_n d_M_init_144 rfl rfl ?_
  refine aw_sipush (v := 4096) d_M_init_145 (by decide) ?_
  refine aM_newf (N := 4096) (atype := .int) b139 ka_int rfl (fun _ => rfl) (by intro C q; cases q) (by decide) (by decide) rfl (by decide) (by omega) (by omega) fl_M_62_f (by decide) rfl rfl rfl (show _ = n + 281313 by omega) (fun _ => rfl) (fun _ => rfl) d_M_init_148 d_M_init_150 (fun g148 b148 => ?_)
  refine aw_aload_n d_M_init_153 rfl rfl ?_
  refine aw_sipush (v := 4096) d_M_init_154 (by decide) ?_
  refine aM_newf (N := 4096) (atype := .int) b148 ka_int rfl (fun _ => rfl) (by intro C q; cases q) (by decide) (by decide) rfl (by decide) (by omega) (by omega) fl_M_65_f (by decide) rfl rfl rfl (show _ = n + 285409 by omega) (fun _ => rfl) (fun _ => rfl) d_M_init_157 d_M_init_159 (fun g157 b157 => ?_)
  refine aw_aload_n d_M_init_162 rfl rfl ?_
  refine aw_sipush (v := 4096) d_M_init_163 (by decide) ?_
  refine aM_newf (N := 4096) (atype := .int) b157 ka_int rfl (fun _ => rfl) (by intro C q; cases q) (by decide) (by decide) rfl (by decide) (by omega) (by omega) fl_M_68_f (by decide) rfl rfl rfl (show _ = n + 289505 by omega) (fun _ => rfl) (fun _ => rfl) d_M_init_166 d_M_init_168 (fun g166 b166 => ?_)
  refine aw_aload_n d_M_init_171 rfl rfl ?_
  refine aw_sipush (v := 4096) d_M_init_172 (by decide) ?_
  refine aM_newf (N := 4096) (atype := .int) b166 ka_int rfl (fun _ => rfl) (by intro C q; cases q) (by decide) (by decide) rfl (by decide) (by omega) (by omega) fl_M_71_f (by decide) rfl rfl rfl (show _ = n + 293601 by omega) (fun _ => rfl) (fun _ => rfl) d_M_init_175 d_M_init_177 (fun g175 b175 => ?_)
  refine aw_aload_n d_M_init_180 rfl rfl ?_
  refine aw_sipush (v := 4096) d_M_init_181 (by decide) ?_
  refine aM_newf (N := 4096) (atype := .int) b175 ka_int rfl (fun _ => rfl) (by intro C q; cases q) (by decide) (by decide) rfl (by decide) (by omega) (by omega) fl_M_74_f (by decide) rfl rfl rfl (show _ = n + 297697 by omega) (fun _ => rfl) (fun _ => rfl) d_M_init_184 d_M_init_186 (fun g184 b184 => ?_)
  refine aw_aload_n d_M_init_189 rfl rfl ?_
  refine aw_sipush (v := 4096) d_M_init_190 (by decide) ?_
  refine aM_newf (N := 4096) (atype := .int) b184 ka_int rfl (fun _ => rfl) (by intro C q; cases q) (by decide) (by decide) rfl (by decide) (by omega) (by omega) fl_M_77_f (by decide) rfl rfl rfl (show _ = n + 301793 by omega) (fun _ => rfl) (fun _ => rfl) d_M_init_193 d_M_init_195 (fun g193 b193 => ?_)
  refine aw_aload_n d_M_init_198 rfl rfl ?_
  refine aw_sipush (v := 4096) d_M_init_199 (by decide) ?_
  refine aM_newf (N := 4096) (atype := .int) b193 ka_int rfl (fun _ => rfl) (by intro C q; cases q) (by decide) (by decide) rfl (by decide) (by omega) (by omega) fl_M_80_f (by decide) rfl rfl rfl (show _ = n + 305889 by omega) (fun _ => rfl) (fun _ => rfl) d_M_init_202 d_M_init_204 (fun g202 b202 => ?_)
  refine aw_aload_n d_M_init_207 rfl rfl ?_
  refine aw_sipush (v := 4096) d_M_init_208 (by decide) ?_
  refine aM_newf (N := 4096) (atype := .long) b202 ka_long rfl (fun _ => rfl) (by intro C q; cases q) (by decide) (by decide) rfl (by decide) (by omega) (by omega) fl_M_83_f (by decide) rfl rfl rfl (show _ = n + 309985 by omega) (fun _ => rfl) (fun _ => rfl) d_M_init_211 d_M_init_213 (fun g211 b211 => ?_)
  refine aw_aload_n d_M_init_216 rfl rfl ?_
  refine aw_sipush (v := 8192) d_M_init_217 (by decide) ?_
  refine aM_newf (N := 8192) (atype := .int) b211 ka_int rfl (fun _ => rfl) (by intro C q; cases q) (by decide) (by decide) rfl (by decide) (by omega) (by omega) fl_M_86_f (by decide) rfl rfl rfl (show _ = n + 318177 by omega) (fun _ => rfl) (fun _ => rfl) d_M_init_220 d_M_init_222 (fun g220 b220 => ?_)
  refine aw_aload_n d_M_init_225 rfl rfl ?_
  refine aw_sipush (v := 8192) d_M_init_226 (by decide) ?_
  refine aM_newf (N := 8192) (atype := .int) b220 ka_int rfl (fun _ => rfl) (by intro C q; cases q) (by decide) (by decide) rfl (by decide) (by omega) (by omega) fl_M_89_f (by decide) rfl rfl rfl (show _ = n + 326369 by omega) (fun _ => rfl) (fun _ => rfl) d_M_init_229 d_M_init_231 (fun g229 b229 => ?_)
  refine aw_aload_n d_M_init_234 rfl rfl ?_
  refine aw_sipush (v := 8192) d_M_init_235 (by decide) ?_
  refine aM_newf (N := 8192) (atype := .int) b229 ka_int rfl (fun _ => rfl) (by intro C q; cases q) (by decide) (by decide) rfl (by decide) (by omega) (by omega) fl_M_92_f (by decide) rfl rfl rfl (show _ = n + 334561 by omega) (fun _ => rfl) (fun _ => rfl) d_M_init_238 d_M_init_240 (fun g238 b238 => ?_)
  refine aw_aload_n d_M_init_243 rfl rfl ?_
  refine aw_iconst (v := (-1)) d_M_init_244 (by decide) ?_
  refine aM_putB b238 fl_M_95 (by decide) rfl rfl rfl rfl d_M_init_245 (fun g245 b245 => ?_)
  refine aw_aload_n d_M_init_248 rfl rfl ?_
  refine aw_sipush (v := 128) d_M_init_249 (by decide) ?_
  refine aM_newf (N := 128) (atype := .boolean) b245 ka_boolean rfl (fun _ => rfl) (by intro C q; cases q) (by decide) (by decide) rfl (by decide) (by omega) (by omega) fl_M_99_f (by decide) rfl rfl rfl (show _ = n + 334689 by omega) (fun _ => rfl) (fun _ => rfl) d_M_init_252 d_M_init_254 (fun g252 b252 => ?_)
  refine aw_aload_n d_M_init_257 rfl rfl ?_
  refine aw_ldc kc_M_32 d_M_init_258 ?_
  refine aM_newf (N := 262144) (atype := .byte) b252 ka_byte rfl (fun _ => rfl) (by intro C q; cases q) (by decide) (by decide) rfl (by decide) (by omega) (by omega) fl_M_102_f (by decide) rfl rfl rfl (show _ = n + 596833 by omega) (fun _ => rfl) (fun _ => rfl) d_M_init_260 d_M_init_262 (fun g260 b260 => ?_)
  refine aw_aload_n d_M_init_265 rfl rfl ?_
  refine aw_bipush (v := 7) d_M_init_266 (by decide) ?_
  refine aM_newf (N := 7) (atype := .int) b260 ka_int rfl (fun _ => rfl) (by intro C q; cases q) (by decide) (by decide) rfl (by decide) (by omega) (by omega) fl_M_105_f (by decide) rfl rfl rfl (show _ = n + 596840 by omega) (fun _ => rfl) (fun _ => rfl) d_M_init_268 d_M_init_270 (fun g268 b268 => ?_)
  refine aw_aload_n d_M_init_273 rfl rfl ?_
  refine aw_sipush (v := 2048) d_M_init_274 (by decide) ?_
  refine aM_newf (N := 2048) (atype := .long) b268 ka_long rfl (fun _ => rfl) (by intro C q; cases q) (by decide) (by decide) rfl (by decide) (by omega) (by omega) fl_M_108_f (by decide) rfl rfl rfl (show _ = n + 598888 by omega) (fun _ => rfl) (fun _ => rfl) d_M_init_277 d_M_init_279 (fun g277 b277 => ?_)
  refine aw_aload_n d_M_init_282 rfl rfl ?_
  refine aw_sipush (v := 2048) d_M_init_283 (by decide) ?_
  refine aM_newf (N := 2048) (atype := .int) b277 ka_int rfl (fun _ => rfl) (by intro C q; cases q) (by decide) (by decide) rfl (by decide) (by omega) (by omega) fl_M_111_f (by decide) rfl rfl rfl (show _ = n + 600936 by omega) (fun _ => rfl) (fun _ => rfl) d_M_init_286 d_M_init_288 (fun g286 b286 => ?_)
  refine aw_aload_n d_M_init_291 rfl rfl ?_
  refine aw_sipush (v := 2048) d_M_init_292 (by decide) ?_
  refine aM_newf (N := 2048) (atype := .int) b286 ka_int rfl (fun _ => rfl) (by intro C q; cases q) (by decide) (by decide) rfl (by decide) (by omega) (by omega) fl_M_114_f (by decide) rfl rfl rfl (show _ = n + 602984 by omega) (fun _ => rfl) (fun _ => rfl) d_M_init_295 d_M_init_297 (fun g295 b295 => ?_)
  refine aw_aload_n d_M_init_300 rfl rfl ?_
  refine aw_sipush (v := 8192) d_M_init_301 (by decide) ?_
  refine aM_newf (N := 8192) (atype := .int) b295 ka_int rfl (fun _ => rfl) (by intro C q; cases q) (by decide) (by decide) rfl (by decide) (by omega) (by omega) fl_M_117_f (by decide) rfl rfl rfl (show _ = n + 611176 by omega) (fun _ => rfl) (fun _ => rfl) d_M_init_304 d_M_init_306 (fun g304 b304 => ?_)
  refine aw_aload_n d_M_init_309 rfl rfl ?_
  refine aw_sipush (v := 8192) d_M_init_310 (by decide) ?_
  refine aM_newf (N := 8192) (atype := .int) b304 ka_int rfl (fun _ => rfl) (by intro C q; cases q) (by decide) (by decide) rfl (by decide) (by omega) (by omega) fl_M_120_f (by decide) rfl rfl rfl (show _ = n + 619368 by omega) (fun _ => rfl) (fun _ => rfl) d_M_init_313 d_M_init_315 (fun g313 b313 => ?_)
  refine aw_vret ?_ rfl d_M_init_318
  obtain ⟨r1, r2, r3, r4, r5⟩ := b313
  refine ⟨rfl, ?_, r1, r2, r5⟩
  intro k hk
  match k, hk with
  | 0, _ => exact r3
  | k + 1, hk => exact r4 (k + 1) (by omega) (by omega)

/-- a name among n symbols from k on -/
def mDupL (f : Nat → Int32) (g : Nat → Int64) (n : Int32) (w : Int64) : Nat → Nat → Prop
  | _, 0 => False
  | k, r + 1 => (f k = n ∧ g k = w) ∨ mDupL f g n w (k + 1) r
abbrev mSymR (U S : Nat) (n mk a l : Int32) : Prop := 0 < U ∧ (1 ≤ n ∧ n ≤ 8) ∧ (0 ≤ mk ∧ mk ≤ 3) ∧ (-1 ≤ a ∧ a ≤ 3) ∧ (0 ≤ l ∧ l ≤ 65535) ∧ S < 2048
abbrev mSymP (s : mSt) (U : Nat) (a p : Int32) : Prop := a < 0 ∨ (0 ≤ p ∧ p ≤ s.2.1 5 (4 * (U - 1) + a.toNatClampNeg))
def mSymOk (s : mSt) (U S F : Nat) (w : Int64) (n mk a p l : Int32) : Prop := mSymR U S n mk a l ∧ mSymP s U a p ∧ ¬ mDupL (s.2.1 10) (s.2.2 9) n (mCut w n) F (S - F)
def mSymS (s : mSt) (S : Nat) (w : Int64) (n mk a p l : Int32) : mSt := (va_up (va_up s.1 0 0) 2 (s.1 2 + 1), va_up (va_up (va_up (va_up (va_up (va_up s.2.1 10 (va_up (s.2.1 10) S n)) 11 (va_up (s.2.1 11) S (s.1 1 - 1))) 12 (va_up (s.2.1 12) S mk)) 13 (va_up (s.2.1 13) S a)) 14 (va_up (s.2.1 14) S (if a < 0 then 0 else p))) 15 (va_up (s.2.1 15) S l), va_up s.2.2 9 (va_up (s.2.2 9) S (mCut w n)))
set_option maxRecDepth 20000 in
theorem t_M_symbol {G : ax_G} {x : ax_X} {h0 h : ax_H} {P : Option Value → ax_H → Prop} {m : Nat} {s : mSt} (hR : mR m (va_up s.1 0 0, s.2) h) (S F : Nat) (hS : s.1 2 = nI S) (hSb : S < 2048) (hFS : F ≤ S) (w : Int64) (n mk a p l : Int32) (z8 z10 : Int32) (hp : ∀ h2, mR m (mSymS s S w n mk a p l) h2 → mFr m h h2 → P (some (.int (nI (S - F)))) h2) : AW G x Y_M_symbol 1 22 h0 P h 165 [some (.ref m), some (.long w), none, some (.int n), some (.int mk), some (.int a), some (.int p), some (.int l), some (.int z8), some (.int (nI F)), some (.int z10)] [] := by
  first | refine aw_aload_n d_M_symbol_165 rfl rfl ?_ | refine aw_aload_nQ d_M_symbol_165 rfl rfl ?_ | refine aw_aload_nN d_M_symbol_165 rfl rfl ?_
  refine aM_get (by assumption) fl_M_129 (by decide) rfl d_M_symbol_166 ?_
  refine aw_istore d_M_symbol_169 (by decide) rfl ?_
  first | refine aw_aload_n d_M_symbol_171 rfl rfl ?_ | refine aw_aload_nQ d_M_symbol_171 rfl rfl ?_ | refine aw_aload_nN d_M_symbol_171 rfl rfl ?_
  refine aM_get (by assumption) fl_M_37 (by decide) rfl d_M_symbol_172 ?_
  refine aw_iload d_M_symbol_175 rfl ?_
  refine aw_lload_n d_M_symbol_177 rfl rfl ?_
  refine aw_iload_n d_M_symbol_178 rfl rfl ?_
  refine aw_callS (c_M_cut G _ w n) m_M_cut ml_M_161 rfl rfl (by decide) (by decide) (Nat.le_of_ble_eq_true rfl) d_M_symbol_179 ?_
  rintro v h' ⟨rfl, rfl⟩
  refine aM_last (by assumption) (by decide) rfl hS hSb (by decide) d_M_symbol_182 (fun g182 hR182 hF182 => ?_)
  first | refine aw_aload_n d_M_symbol_183 rfl rfl ?_ | refine aw_aload_nQ d_M_symbol_183 rfl rfl ?_ | refine aw_aload_nN d_M_symbol_183 rfl rfl ?_
  refine aM_get (by assumption) fl_M_41 (by decide) rfl d_M_symbol_184 ?_
  refine aw_iload d_M_symbol_187 rfl ?_
  refine aw_iload_n d_M_symbol_189 rfl rfl ?_
  refine aM_iast (by assumption) (by decide) rfl hS hSb (by decide) d_M_symbol_190 (fun g190 hR190 hF190 => ?_)
  first | refine aw_aload_n d_M_symbol_191 rfl rfl ?_ | refine aw_aload_nQ d_M_symbol_191 rfl rfl ?_ | refine aw_aload_nN d_M_symbol_191 rfl rfl ?_
  refine aM_get (by assumption) fl_M_44 (by decide) rfl d_M_symbol_192 ?_
  refine aw_iload d_M_symbol_195 rfl ?_
  first | refine aw_aload_n d_M_symbol_197 rfl rfl ?_ | refine aw_aload_nQ d_M_symbol_197 rfl rfl ?_ | refine aw_aload_nN d_M_symbol_197 rfl rfl ?_
  refine aM_get (by assumption) fl_M_126 (by decide) rfl d_M_symbol_198 ?_
  refine aw_iconst (v := 1) d_M_symbol_201 (by decide) ?_
  refine aw_isub d_M_symbol_202 ?_
  refine aM_iast (by assumption) (by decide) rfl hS hSb (by decide) d_M_symbol_203 (fun g203 hR203 hF203 => ?_)
  first | refine aw_aload_n d_M_symbol_204 rfl rfl ?_ | refine aw_aload_nQ d_M_symbol_204 rfl rfl ?_ | refine aw_aload_nN d_M_symbol_204 rfl rfl ?_
  refine aM_get (by assumption) fl_M_47 (by decide) rfl d_M_symbol_205 ?_
  refine aw_iload d_M_symbol_208 rfl ?_
  refine aw_iload d_M_symbol_210 rfl ?_
  refine aM_iast (by assumption) (by decide) rfl hS hSb (by decide) d_M_symbol_212 (fun g212 hR212 hF212 => ?_)
  first | refine aw_aload_n d_M_symbol_213 rfl rfl ?_ | refine aw_aload_nQ d_M_symbol_213 rfl rfl ?_ | refine aw_aload_nN d_M_symbol_213 rfl rfl ?_
  refine aM_get (by assumption) fl_M_50 (by decide) rfl d_M_symbol_214 ?_
  refine aw_iload d_M_symbol_217 rfl ?_
  refine aw_iload d_M_symbol_219 rfl ?_
  refine aM_iast (by assumption) (by decide) rfl hS hSb (by decide) d_M_symbol_221 (fun g221 hR221 hF221 => ?_)
  first | refine aw_aload_n d_M_symbol_222 rfl rfl ?_ | refine aw_aload_nQ d_M_symbol_222 rfl rfl ?_ | refine aw_aload_nN d_M_symbol_222 rfl rfl ?_
  refine aM_get (by assumption) fl_M_53 (by decide) rfl d_M_symbol_223 ?_
  refine aw_iload d_M_symbol_226 rfl ?_
  refine aw_iload d_M_symbol_228 rfl ?_
  refine aw_if_ge (tgt := 237) d_M_symbol_230 (by decide) (fun c230 => ?_) (fun c230 => ?_)
  · refine aw_iload d_M_symbol_237 rfl ?_
    refine aM_iast (by assumption) (by decide) rfl hS hSb (by decide) d_M_symbol_239 (fun g239 hR239 hF239 => ?_)
    first | refine aw_aload_n d_M_symbol_240 rfl rfl ?_ | refine aw_aload_nQ d_M_symbol_240 rfl rfl ?_ | refine aw_aload_nN d_M_symbol_240 rfl rfl ?_
    refine aM_get (by assumption) fl_M_56 (by decide) rfl d_M_symbol_241 ?_
    refine aw_iload d_M_symbol_244 rfl ?_
    refine aw_iload d_M_symbol_246 rfl ?_
    refine aM_iast (by assumption) (by decide) rfl hS hSb (by decide) d_M_symbol_248 (fun g248 hR248 hF248 => ?_)
    first | refine aw_aload_n d_M_symbol_249 rfl rfl ?_ | refine aw_aload_nQ d_M_symbol_249 rfl rfl ?_ | refine aw_aload_nN d_M_symbol_249 rfl rfl ?_
    refine aw_dup d_M_symbol_250 rfl ?_
    refine aM_get (by assumption) fl_M_129 (by decide) rfl d_M_symbol_251 ?_
    refine aw_iconst (v := 1) d_M_symbol_254 (by decide) ?_
    refine aw_iadd d_M_symbol_255 ?_
    refine aM_put (by assumption) fl_M_129 (by decide) rfl rfl rfl rfl d_M_symbol_256 (fun g256 hR256 hF256 => ?_)
    refine aw_iload d_M_symbol_259 rfl ?_
    refine aw_iload d_M_symbol_261 rfl ?_
    refine aw_isub d_M_symbol_263 ?_
    refine aw_iret ?_ rfl d_M_symbol_264
    have es : s.1 2 - nI F = nI (S - F) := by rw [hS, pk_sub hFS]
    show P (some (.int (s.1 2 - nI F))) _
    rw [es]
    refine hp _ ?_ (((((((hF182.tr hF190).tr hF203).tr hF212).tr hF221).tr hF239).tr hF248).tr hF256)
    rw [mSymS, if_neg (Int32.not_lt.mpr c230)]
    exact hR256
  · refine aw_iconst (v := 0) d_M_symbol_233 (by decide) ?_
    refine aw_goto (tgt := 239) d_M_symbol_234 (by decide) ?_
    refine aM_iast (by assumption) (by decide) rfl hS hSb (by decide) d_M_symbol_239 (fun g239 hR239 hF239 => ?_)
    first | refine aw_aload_n d_M_symbol_240 rfl rfl ?_ | refine aw_aload_nQ d_M_symbol_240 rfl rfl ?_ | refine aw_aload_nN d_M_symbol_240 rfl rfl ?_
    refine aM_get (by assumption) fl_M_56 (by decide) rfl d_M_symbol_241 ?_
    refine aw_iload d_M_symbol_244 rfl ?_
    refine aw_iload d_M_symbol_246 rfl ?_
    refine aM_iast (by assumption) (by decide) rfl hS hSb (by decide) d_M_symbol_248 (fun g248 hR248 hF248 => ?_)
    first | refine aw_aload_n d_M_symbol_249 rfl rfl ?_ | refine aw_aload_nQ d_M_symbol_249 rfl rfl ?_ | refine aw_aload_nN d_M_symbol_249 rfl rfl ?_
    refine aw_dup d_M_symbol_250 rfl ?_
    refine aM_get (by assumption) fl_M_129 (by decide) rfl d_M_symbol_251 ?_
    refine aw_iconst (v := 1) d_M_symbol_254 (by decide) ?_
    refine aw_iadd d_M_symbol_255 ?_
    refine aM_put (by assumption) fl_M_129 (by decide) rfl rfl rfl rfl d_M_symbol_256 (fun g256 hR256 hF256 => ?_)
    refine aw_iload d_M_symbol_259 rfl ?_
    refine aw_iload d_M_symbol_261 rfl ?_
    refine aw_isub d_M_symbol_263 ?_
    refine aw_iret ?_ rfl d_M_symbol_264
    have es : s.1 2 - nI F = nI (S - F) := by rw [hS, pk_sub hFS]
    show P (some (.int (s.1 2 - nI F))) _
    rw [es]
    refine hp _ ?_ (((((((hF182.tr hF190).tr hF203).tr hF212).tr hF221).tr hF239).tr hF248).tr hF256)
    rw [mSymS, if_pos (Int32.not_le.mp c230)]
    exact hR256
set_option maxRecDepth 20000 in
theorem l_M_symbol {G : ax_G} {x : ax_X} {h0 h : ax_H} {P : Option Value → ax_H → Prop} {m : Nat} {s : mSt} (hR : mR m (va_up s.1 0 0, s.2) h) (S F : Nat) (hS : s.1 2 = nI S) (hSb : S < 2048) (hFS : F ≤ S) (w : Int64) (n mk a p l : Int32) (z8 : Int32) (hp : ¬ mDupL (s.2.1 10) (s.2.2 9) n (mCut w n) F (S - F) → ∀ h2, mR m (mSymS s S w n mk a p l) h2 → mFr m h h2 → P (some (.int (nI (S - F)))) h2) (hn : mDupL (s.2.1 10) (s.2.2 9) n (mCut w n) F (S - F) → P (some (.int (-1))) h) : ∀ r k, k + r = S → (mDupL (s.2.1 10) (s.2.2 9) n (mCut w n) F (S - F) ↔ mDupL (s.2.1 10) (s.2.2 9) n (mCut w n) k r) → AW G x Y_M_symbol 1 22 h0 P h 121 [some (.ref m), some (.long w), none, some (.int n), some (.int mk), some (.int a), some (.int p), some (.int l), some (.int z8), some (.int (nI F)), some (.int (nI k))] [] := by
  intro r
  induction r with
  | zero =>
    intro k hk he
    have hkk : k = S := by omega
    subst hkk
    refine aw_iload d_M_symbol_121 rfl ?_
    first | refine aw_aload_n d_M_symbol_123 rfl rfl ?_ | refine aw_aload_nQ d_M_symbol_123 rfl rfl ?_ | refine aw_aload_nN d_M_symbol_123 rfl rfl ?_
    refine aM_get (by assumption) fl_M_129 (by decide) rfl d_M_symbol_124 ?_
    refine aw_icmp_ge (tgt := 165) d_M_symbol_127 (by decide) (fun c127 => ?_) (fun c127 => ?_)
    · exact t_M_symbol hR k F hS hSb hFS w n mk a p l _ _ (hp (fun q => he.mp q))
    · exact absurd (show s.1 2 ≤ nI k by rw [hS]; exact nI_le (Nat.le_refl _) (by omega)) c127
  | succ r ih =>
    intro k hk he
    refine aw_iload d_M_symbol_121 rfl ?_
    first | refine aw_aload_n d_M_symbol_123 rfl rfl ?_ | refine aw_aload_nQ d_M_symbol_123 rfl rfl ?_ | refine aw_aload_nN d_M_symbol_123 rfl rfl ?_
    refine aM_get (by assumption) fl_M_129 (by decide) rfl d_M_symbol_124 ?_
    refine aw_icmp_ge (tgt := 165) d_M_symbol_127 (by decide) (fun c127 => ?_) (fun c127 => ?_)
    · exact absurd c127 (by rw [show (va_up s.1 0 0, s.2).1 2 = nI S from hS]; exact nI_ge (by omega) (by omega))
    · first | refine aw_aload_n d_M_symbol_130 rfl rfl ?_ | refine aw_aload_nQ d_M_symbol_130 rfl rfl ?_ | refine aw_aload_nN d_M_symbol_130 rfl rfl ?_
      refine aM_get (by assumption) fl_M_41 (by decide) rfl d_M_symbol_131 ?_
      refine aw_iload d_M_symbol_134 rfl ?_
      refine aM_iald (by assumption) (by decide) rfl rfl (show k < 2048 by omega) (by decide) d_M_symbol_136 ?_
      refine aw_iload_n d_M_symbol_137 rfl rfl ?_
      refine aw_icmp_ne (tgt := 159) d_M_symbol_138 (by decide) (fun c138 => ?_) (fun c138 => ?_)
      · refine aw_iinc (v := nI (k + 1)) d_M_symbol_159 rfl (ax_inc k) (by decide) rfl ?_
        refine aw_goto (tgt := 121) d_M_symbol_162 (by decide) ?_
        refine ih (k + 1) (by omega) (he.trans ?_)
        rw [mDupL]
        refine ⟨fun q => q.resolve_left ?_, Or.inr⟩
        first | exact fun q => c138 q.1 | exact fun q => c154 ((lg_cmp_eq _ _).mpr q.2)
      · first | refine aw_aload_n d_M_symbol_141 rfl rfl ?_ | refine aw_aload_nQ d_M_symbol_141 rfl rfl ?_ | refine aw_aload_nN d_M_symbol_141 rfl rfl ?_
        refine aM_get (by assumption) fl_M_37 (by decide) rfl d_M_symbol_142 ?_
        refine aw_iload d_M_symbol_145 rfl ?_
        refine aM_lald (by assumption) (by decide) rfl rfl (show k < 2048 by omega) (by decide) d_M_symbol_147 ?_
        refine aw_lload_n d_M_symbol_148 rfl rfl ?_
        refine aw_iload_n d_M_symbol_149 rfl rfl ?_
        refine aw_callS (c_M_cut G _ w n) m_M_cut ml_M_161 rfl rfl (by decide) (by decide) (Nat.le_of_ble_eq_true rfl) d_M_symbol_150 ?_
        rintro v h' ⟨rfl, rfl⟩
        refine aw_lcmp d_M_symbol_153 ?_
        refine aw_if_ne (tgt := 159) d_M_symbol_154 (by decide) (fun c154 => ?_) (fun c154 => ?_)
        · refine aw_iinc (v := nI (k + 1)) d_M_symbol_159 rfl (ax_inc k) (by decide) rfl ?_
          refine aw_goto (tgt := 121) d_M_symbol_162 (by decide) ?_
          refine ih (k + 1) (by omega) (he.trans ?_)
          rw [mDupL]
          refine ⟨fun q => q.resolve_left ?_, Or.inr⟩
          first | exact fun q => c138 q.1 | exact fun q => c154 ((lg_cmp_eq _ _).mpr q.2)
        · refine aw_iconst (v := (-1)) d_M_symbol_157 (by decide) ?_
          refine aw_iret ?_ rfl d_M_symbol_158
          exact hn (he.mpr (Or.inl ⟨c138, (lg_cmp_eq _ _).mp c154⟩))
set_option maxRecDepth 20000 in
theorem c_M_symbol (G : ax_G) (h : ax_H) (m : Nat) (s : mSt) (hR : mR m s h) (U S F : Nat) (hU : s.1 1 = nI U) (hUb : U ≤ 32) (hS : s.1 2 = nI S) (hSb : S ≤ 2048) (hFs : 0 < U → s.2.1 16 (U - 1) = nI F) (hFS : F ≤ S) (w : Int64) (n mk a p l : Int32) : AM G Y_M_symbol 1 22 [.ref m, .long w, .int n, .int mk, .int a, .int p, .int l] h (fun v h2 => (mSymOk s U S F w n mk a p l ∧ v = some (.int (nI (S - F))) ∧ mR m (mSymS s S w n mk a p l) h2 ∧ mFr m h h2) ∨ (¬ mSymOk s U S F w n mk a p l ∧ v = some (.int (-1)) ∧ mR m (va_up s.1 0 0, s.2) h2 ∧ mFr m h h2)) := by
  refine aw_enter (by decide) (Nat.le_of_ble_eq_true rfl) (n := 3) (ls := [some (.ref m), some (.long w), none, some (.int n), some (.int mk), some (.int a), some (.int p), some (.int l), none, none, none]) rfl (fun x => ?_)
  first | refine aw_aload_n d_M_symbol_0 rfl rfl ?_ | refine aw_aload_nQ d_M_symbol_0 rfl rfl ?_ | refine aw_aload_nN d_M_symbol_0 rfl rfl ?_
  refine aw_iconst (v := 0) d_M_symbol_1 (by decide) ?_
  refine aM_put (by assumption) fl_M_123 (by decide) rfl rfl rfl rfl d_M_symbol_2 (fun g2 hR2 hF2 => ?_)
  first | refine aw_aload_n d_M_symbol_5 rfl rfl ?_ | refine aw_aload_nQ d_M_symbol_5 rfl rfl ?_ | refine aw_aload_nN d_M_symbol_5 rfl rfl ?_
  refine aM_get (by assumption) fl_M_126 (by decide) rfl d_M_symbol_6 ?_
  refine aw_if_le (tgt := 68) d_M_symbol_9 (by decide) (fun c9 => ?_) (fun c9 => ?_)
  · refine aw_iconst (v := 0) d_M_symbol_68 (by decide) ?_
    refine aw_istore d_M_symbol_69 (by decide) rfl ?_
    refine aw_iload d_M_symbol_71 rfl ?_
    refine aw_if_eq (tgt := 102) d_M_symbol_73 (by decide) (fun c73 => ?_) (fun c73 => ?_)
    · refine aw_iconst (v := (-1)) d_M_symbol_102 (by decide) ?_
      refine aw_iret ?_ rfl d_M_symbol_103
      have hno : ¬ mSymOk s U S F w n mk a p l := fun q => absurd c9 (by show ¬ s.1 1 ≤ 0; rw [hU]; exact nI_nle q.1.1 (by omega))
      exact Or.inr ⟨hno, rfl, hR2, hF2⟩
    · exact absurd rfl c73
  · have hU0 : 0 < U := Nat.pos_of_ne_zero (fun q => c9 (by show s.1 1 ≤ 0; rw [hU, q]; decide))
    refine aw_iload_n d_M_symbol_12 rfl rfl ?_
    refine aw_iconst (v := 1) d_M_symbol_13 (by decide) ?_
    refine aw_icmp_lt (tgt := 68) d_M_symbol_14 (by decide) (fun c14 => ?_) (fun c14 => ?_)
    · refine aw_iconst (v := 0) d_M_symbol_68 (by decide) ?_
      refine aw_istore d_M_symbol_69 (by decide) rfl ?_
      refine aw_iload d_M_symbol_71 rfl ?_
      refine aw_if_eq (tgt := 102) d_M_symbol_73 (by decide) (fun c73 => ?_) (fun c73 => ?_)
      · refine aw_iconst (v := (-1)) d_M_symbol_102 (by decide) ?_
        refine aw_iret ?_ rfl d_M_symbol_103
        have hno : ¬ mSymOk s U S F w n mk a p l := fun q => absurd c14 (Int32.not_lt.mpr q.1.2.1.1)
        exact Or.inr ⟨hno, rfl, hR2, hF2⟩
      · exact absurd rfl c73
    · refine aw_iload_n d_M_symbol_17 rfl rfl ?_
      refine aw_bipush (v := 8) d_M_symbol_18 (by decide) ?_
      refine aw_icmp_gt (tgt := 68) d_M_symbol_20 (by decide) (fun c20 => ?_) (fun c20 => ?_)
      · refine aw_iconst (v := 0) d_M_symbol_68 (by decide) ?_
        refine aw_istore d_M_symbol_69 (by decide) rfl ?_
        refine aw_iload d_M_symbol_71 rfl ?_
        refine aw_if_eq (tgt := 102) d_M_symbol_73 (by decide) (fun c73 => ?_) (fun c73 => ?_)
        · refine aw_iconst (v := (-1)) d_M_symbol_102 (by decide) ?_
          refine aw_iret ?_ rfl d_M_symbol_103
          have hno : ¬ mSymOk s U S F w n mk a p l := fun q => absurd c20 (Int32.not_lt.mpr q.1.2.1.2)
          exact Or.inr ⟨hno, rfl, hR2, hF2⟩
        · exact absurd rfl c73
      · refine aw_iload d_M_symbol_23 rfl ?_
        refine aw_if_lt (tgt := 68) d_M_symbol_25 (by decide) (fun c25 => ?_) (fun c25 => ?_)
        · refine aw_iconst (v := 0) d_M_symbol_68 (by decide) ?_
          refine aw_istore d_M_symbol_69 (by decide) rfl ?_
          refine aw_iload d_M_symbol_71 rfl ?_
          refine aw_if_eq (tgt := 102) d_M_symbol_73 (by decide) (fun c73 => ?_) (fun c73 => ?_)
          · refine aw_iconst (v := (-1)) d_M_symbol_102 (by decide) ?_
            refine aw_iret ?_ rfl d_M_symbol_103
            have hno : ¬ mSymOk s U S F w n mk a p l := fun q => absurd c25 (Int32.not_lt.mpr q.1.2.2.1.1)
            exact Or.inr ⟨hno, rfl, hR2, hF2⟩
          · exact absurd rfl c73
        · refine aw_iload d_M_symbol_28 rfl ?_
          refine aw_iconst (v := 3) d_M_symbol_30 (by decide) ?_
          refine aw_icmp_gt (tgt := 68) d_M_symbol_31 (by decide) (fun c31 => ?_) (fun c31 => ?_)
          · refine aw_iconst (v := 0) d_M_symbol_68 (by decide) ?_
            refine aw_istore d_M_symbol_69 (by decide) rfl ?_
            refine aw_iload d_M_symbol_71 rfl ?_
            refine aw_if_eq (tgt := 102) d_M_symbol_73 (by decide) (fun c73 => ?_) (fun c73 => ?_)
            · refine aw_iconst (v := (-1)) d_M_symbol_102 (by decide) ?_
              refine aw_iret ?_ rfl d_M_symbol_103
              have hno : ¬ mSymOk s U S F w n mk a p l := fun q => absurd c31 (Int32.not_lt.mpr q.1.2.2.1.2)
              exact Or.inr ⟨hno, rfl, hR2, hF2⟩
            · exact absurd rfl c73
          · refine aw_iload d_M_symbol_34 rfl ?_
            refine aw_iconst (v := (-1)) d_M_symbol_36 (by decide) ?_
            refine aw_icmp_lt (tgt := 68) d_M_symbol_37 (by decide) (fun c37 => ?_) (fun c37 => ?_)
            · refine aw_iconst (v := 0) d_M_symbol_68 (by decide) ?_
              refine aw_istore d_M_symbol_69 (by decide) rfl ?_
              refine aw_iload d_M_symbol_71 rfl ?_
              refine aw_if_eq (tgt := 102) d_M_symbol_73 (by decide) (fun c73 => ?_) (fun c73 => ?_)
              · refine aw_iconst (v := (-1)) d_M_symbol_102 (by decide) ?_
                refine aw_iret ?_ rfl d_M_symbol_103
                have hno : ¬ mSymOk s U S F w n mk a p l := fun q => absurd c37 (Int32.not_lt.mpr q.1.2.2.2.1.1)
                exact Or.inr ⟨hno, rfl, hR2, hF2⟩
              · exact absurd rfl c73
            · refine aw_iload d_M_symbol_40 rfl ?_
              refine aw_iconst (v := 3) d_M_symbol_42 (by decide) ?_
              refine aw_icmp_gt (tgt := 68) d_M_symbol_43 (by decide) (fun c43 => ?_) (fun c43 => ?_)
              · refine aw_iconst (v := 0) d_M_symbol_68 (by decide) ?_
                refine aw_istore d_M_symbol_69 (by decide) rfl ?_
                refine aw_iload d_M_symbol_71 rfl ?_
                refine aw_if_eq (tgt := 102) d_M_symbol_73 (by decide) (fun c73 => ?_) (fun c73 => ?_)
                · refine aw_iconst (v := (-1)) d_M_symbol_102 (by decide) ?_
                  refine aw_iret ?_ rfl d_M_symbol_103
                  have hno : ¬ mSymOk s U S F w n mk a p l := fun q => absurd c43 (Int32.not_lt.mpr q.1.2.2.2.1.2)
                  exact Or.inr ⟨hno, rfl, hR2, hF2⟩
                · exact absurd rfl c73
              · refine aw_iload d_M_symbol_46 rfl ?_
                refine aw_callS (c_M_isLine G _ l) m_M_isLine ml_M_158 rfl rfl (by decide) (by decide) (Nat.le_of_ble_eq_true rfl) d_M_symbol_48 ?_
                rintro v h' ⟨rfl, rfl⟩
                refine aw_if_eq (tgt := 68) d_M_symbol_51 (by decide) (fun c51 => ?_) (fun c51 => ?_)
                · refine aw_iconst (v := 0) d_M_symbol_68 (by decide) ?_
                  refine aw_istore d_M_symbol_69 (by decide) rfl ?_
                  refine aw_iload d_M_symbol_71 rfl ?_
                  refine aw_if_eq (tgt := 102) d_M_symbol_73 (by decide) (fun c73 => ?_) (fun c73 => ?_)
                  · refine aw_iconst (v := (-1)) d_M_symbol_102 (by decide) ?_
                    refine aw_iret ?_ rfl d_M_symbol_103
                    have hno : ¬ mSymOk s U S F w n mk a p l := fun q => absurd c51 (by rw [zI, if_pos q.1.2.2.2.2.1]; decide)
                    exact Or.inr ⟨hno, rfl, hR2, hF2⟩
                  · exact absurd rfl c73
                · first | refine aw_aload_n d_M_symbol_54 rfl rfl ?_ | refine aw_aload_nQ d_M_symbol_54 rfl rfl ?_ | refine aw_aload_nN d_M_symbol_54 rfl rfl ?_
                  refine aM_get (by assumption) fl_M_129 (by decide) rfl d_M_symbol_55 ?_
                  refine aw_sipush (v := 2048) d_M_symbol_58 (by decide) ?_
                  refine aw_icmp_ge (tgt := 68) d_M_symbol_61 (by decide) (fun c61 => ?_) (fun c61 => ?_)
                  · refine aw_iconst (v := 0) d_M_symbol_68 (by decide) ?_
                    refine aw_istore d_M_symbol_69 (by decide) rfl ?_
                    refine aw_iload d_M_symbol_71 rfl ?_
                    refine aw_if_eq (tgt := 102) d_M_symbol_73 (by decide) (fun c73 => ?_) (fun c73 => ?_)
                    · refine aw_iconst (v := (-1)) d_M_symbol_102 (by decide) ?_
                      refine aw_iret ?_ rfl d_M_symbol_103
                      have hno : ¬ mSymOk s U S F w n mk a p l := fun q => absurd c61 (by show ¬ (2048 : Int32) ≤ s.1 2; rw [hS]; exact nI_ge (a := S) (b := 2048) q.1.2.2.2.2.2 (by decide))
                      exact Or.inr ⟨hno, rfl, hR2, hF2⟩
                    · exact absurd rfl c73
                  · have hSl : S < 2048 := Nat.lt_of_not_le (fun q => c61 (by show (2048 : Int32) ≤ s.1 2; rw [hS]; exact nI_le q (by omega)))
                    have hln : 0 ≤ l ∧ l ≤ 65535 := by
                      by_cases q : 0 ≤ l ∧ l ≤ 65535
                      · exact q
                      · exact absurd (show zI (0 ≤ l ∧ l ≤ 65535) = 0 by rw [zI, if_neg q]) c51
                    refine aw_iconst (v := 1) d_M_symbol_64 (by decide) ?_
                    refine aw_goto (tgt := 69) d_M_symbol_65 (by decide) ?_
                    refine aw_istore d_M_symbol_69 (by decide) rfl ?_
                    refine aw_iload d_M_symbol_71 rfl ?_
                    refine aw_if_eq (tgt := 102) d_M_symbol_73 (by decide) (fun c73 => ?_) (fun c73 => ?_)
                    · exact absurd c73 (by decide)
                    · refine aw_iload d_M_symbol_76 rfl ?_
                      refine aw_if_lt (tgt := 104) d_M_symbol_78 (by decide) (fun c78 => ?_) (fun c78 => ?_)
                      · first | refine aw_aload_n d_M_symbol_104 rfl rfl ?_ | refine aw_aload_nQ d_M_symbol_104 rfl rfl ?_ | refine aw_aload_nN d_M_symbol_104 rfl rfl ?_
                        refine aM_get (by assumption) fl_M_59 (by decide) rfl d_M_symbol_105 ?_
                        first | refine aw_aload_n d_M_symbol_108 rfl rfl ?_ | refine aw_aload_nQ d_M_symbol_108 rfl rfl ?_ | refine aw_aload_nN d_M_symbol_108 rfl rfl ?_
                        refine aM_get (by assumption) fl_M_126 (by decide) rfl d_M_symbol_109 ?_
                        refine aw_iconst (v := 1) d_M_symbol_112 (by decide) ?_
                        refine aw_isub d_M_symbol_113 ?_
                        have eu : (va_up s.1 0 0, s.2).1 1 - 1 = nI (U - 1) := by
                          show s.1 1 - 1 = _
                          rw [hU, ax_n1 U hU0]
                        refine aM_iald (by assumption) (by decide) rfl eu (show U - 1 < 33 by omega) (by decide) d_M_symbol_114 ?_
                        refine aw_istore d_M_symbol_115 (by decide) rfl ?_
                        refine aw_iload d_M_symbol_117 rfl ?_
                        refine aw_istore d_M_symbol_119 (by decide) rfl ?_
                        rw [show (va_up s.1 0 0, s.2).2.1 16 (U - 1) = nI F from hFs hU0]
                        have hyR : mSymR U S n mk a l := ⟨hU0, ⟨Int32.not_lt.mp c14, Int32.not_lt.mp c20⟩, ⟨Int32.not_lt.mp c25, Int32.not_lt.mp c31⟩, ⟨Int32.not_lt.mp c37, Int32.not_lt.mp c43⟩, hln, hSl⟩
                        have hyP : mSymP s U a p := by first | exact Or.inl c78 | exact Or.inr ⟨Int32.not_lt.mp c83, by rw [hci]; exact c99⟩
                        refine l_M_symbol hR2 S F hS hSl hFS w n mk a p l _ ?_ ?_ (S - F) F (by omega) Iff.rfl
                        · exact fun q h2 r1 r2 => Or.inl ⟨⟨hyR, hyP, q⟩, rfl, r1, hF2.tr r2⟩
                        · exact fun q => Or.inr ⟨fun z => z.2.2 q, rfl, hR2, hF2⟩
                      · obtain ⟨i, hi, ha⟩ := nI_of2 (n := 3) (by decide) c78 (Int32.not_lt.mp c43)
                        have hci : a.toNatClampNeg = i := by rw [ha]; exact nI_clamp (by omega)
                        refine aw_iload d_M_symbol_81 rfl ?_
                        refine aw_if_lt (tgt := 102) d_M_symbol_83 (by decide) (fun c83 => ?_) (fun c83 => ?_)
                        · refine aw_iconst (v := (-1)) d_M_symbol_102 (by decide) ?_
                          refine aw_iret ?_ rfl d_M_symbol_103
                          have hno : ¬ mSymOk s U S F w n mk a p l := fun q => absurd (q.2.1.resolve_left c78).1 (Int32.not_le.mpr c83)
                          exact Or.inr ⟨hno, rfl, hR2, hF2⟩
                        · refine aw_iload d_M_symbol_86 rfl ?_
                          first | refine aw_aload_n d_M_symbol_88 rfl rfl ?_ | refine aw_aload_nQ d_M_symbol_88 rfl rfl ?_ | refine aw_aload_nN d_M_symbol_88 rfl rfl ?_
                          refine aM_get (by assumption) fl_M_22 (by decide) rfl d_M_symbol_89 ?_
                          first | refine aw_aload_n d_M_symbol_92 rfl rfl ?_ | refine aw_aload_nQ d_M_symbol_92 rfl rfl ?_ | refine aw_aload_nN d_M_symbol_92 rfl rfl ?_
                          refine aw_iload d_M_symbol_93 rfl ?_
                          refine aw_callV (c_M_own G _ m _ (by assumption) _) cl_M (mR.obj (by assumption)) m_M_own ml_M_150 rfl rfl (by decide) (by decide) (Nat.le_of_ble_eq_true rfl) d_M_symbol_95 ?_
                          rintro v h' ⟨rfl, rfl⟩
                          have eo : 4 * ((va_up s.1 0 0, s.2).1 1 - 1) + a = nI (4 * (U - 1) + i) := by
                            show 4 * (s.1 1 - 1) + a = _
                            rw [hU, ha, ax_own hU0]
                          refine aM_iald (by assumption) (by decide) rfl eo (show 4 * (U - 1) + i < 128 by omega) (by decide) d_M_symbol_98 ?_
                          refine aw_icmp_le (tgt := 104) d_M_symbol_99 (by decide) (fun c99 => ?_) (fun c99 => ?_)
                          · first | refine aw_aload_n d_M_symbol_104 rfl rfl ?_ | refine aw_aload_nQ d_M_symbol_104 rfl rfl ?_ | refine aw_aload_nN d_M_symbol_104 rfl rfl ?_
                            refine aM_get (by assumption) fl_M_59 (by decide) rfl d_M_symbol_105 ?_
                            first | refine aw_aload_n d_M_symbol_108 rfl rfl ?_ | refine aw_aload_nQ d_M_symbol_108 rfl rfl ?_ | refine aw_aload_nN d_M_symbol_108 rfl rfl ?_
                            refine aM_get (by assumption) fl_M_126 (by decide) rfl d_M_symbol_109 ?_
                            refine aw_iconst (v := 1) d_M_symbol_112 (by decide) ?_
                            refine aw_isub d_M_symbol_113 ?_
                            have eu : (va_up s.1 0 0, s.2).1 1 - 1 = nI (U - 1) := by
                              show s.1 1 - 1 = _
                              rw [hU, ax_n1 U hU0]
                            refine aM_iald (by assumption) (by decide) rfl eu (show U - 1 < 33 by omega) (by decide) d_M_symbol_114 ?_
                            refine aw_istore d_M_symbol_115 (by decide) rfl ?_
                            refine aw_iload d_M_symbol_117 rfl ?_
                            refine aw_istore d_M_symbol_119 (by decide) rfl ?_
                            rw [show (va_up s.1 0 0, s.2).2.1 16 (U - 1) = nI F from hFs hU0]
                            have hyR : mSymR U S n mk a l := ⟨hU0, ⟨Int32.not_lt.mp c14, Int32.not_lt.mp c20⟩, ⟨Int32.not_lt.mp c25, Int32.not_lt.mp c31⟩, ⟨Int32.not_lt.mp c37, Int32.not_lt.mp c43⟩, hln, hSl⟩
                            have hyP : mSymP s U a p := by first | exact Or.inl c78 | exact Or.inr ⟨Int32.not_lt.mp c83, by rw [hci]; exact c99⟩
                            refine l_M_symbol hR2 S F hS hSl hFS w n mk a p l _ ?_ ?_ (S - F) F (by omega) Iff.rfl
                            · exact fun q h2 r1 r2 => Or.inl ⟨⟨hyR, hyP, q⟩, rfl, r1, hF2.tr r2⟩
                            · exact fun q => Or.inr ⟨fun z => z.2.2 q, rfl, hR2, hF2⟩
                          · refine aw_iconst (v := (-1)) d_M_symbol_102 (by decide) ?_
                            refine aw_iret ?_ rfl d_M_symbol_103
                            have hno : ¬ mSymOk s U S F w n mk a p l := fun q => absurd (q.2.1.resolve_left c78).2 (by rw [hci]; exact c99)
                            exact Or.inr ⟨hno, rfl, hR2, hF2⟩

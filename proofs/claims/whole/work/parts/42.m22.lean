theorem mFail_33 (t : mSt) {k : Int32} (u l : Int32) (hk : ¬ k = 0) : ¬ (mFail t k u l).1 33 = 0 := by
  rw [mFail]
  by_cases h : t.1 33 = 0
  · rw [if_pos h]
    exact hk
  · rw [if_neg h]
    exact h
theorem mTwice_33 {t : mSt} {e : Nat → Nat → Nat} {S : Nat} (h : (mTwice t e S).1 33 = 0) : mTwice t e S = t := by
  rw [mTwice] at h ⊢
  by_cases h1 : (mTw t e S).1 < 32
  · rw [if_pos h1] at h
    exact absurd h (mFail_33 _ _ _ (by decide))
  · rw [if_neg h1]
theorem mWrL_how (t : mSt) (e : Nat → Nat → Nat) (S : Nat) : ∀ r w (a : Int32 × Int32), (a.1 = -1 ∨ ¬ a.2 = 0) → ((mWrL t e S r w a).1 = -1 ∨ ¬ (mWrL t e S r w a).2 = 0) := by
  intro r
  induction r with
  | zero => exact fun w a h => h
  | succ r ih =>
    intro w a h
    rw [mWrL]
    refine ih (w + 1) _ ?_
    by_cases h1 : ¬ t.2.1 4 (mSrc e w) = 0 ∧ mWg t e S w ∧ mEar (t.2.1 17) (t.2.1 23) a.1 w
    · rw [if_pos h1]
      refine Or.inr ?_
      by_cases h2 : mMs (t.2.1 3) (mT t e S) e w
      · rw [if_pos h2]
        exact (show ¬ (3 : Int32) = 0 by decide)
      · rw [if_neg h2]
        exact (show ¬ (4 : Int32) = 0 by decide)
    · rw [if_neg h1]
      exact h
theorem mWrong_33 {t : mSt} {e : Nat → Nat → Nat} {S W : Nat} (h : (mWrong t e S W).1 33 = 0) : mWrong t e S W = t := by
  rw [mWrong] at h ⊢
  by_cases h1 : (mWrL t e S W 0 (-1, 0)).1 < 0
  · rw [if_pos h1]
  · rw [if_neg h1] at h
    refine absurd h (mFail_33 _ _ _ ?_)
    exact (mWrL_how t e S W 0 (-1, 0) (Or.inl rfl)).resolve_left (fun q => h1 (by rw [q]; decide))
def mS8 (t : mSt) : mSt := if t.1 39 ≤ 262144 then t else mFail t 5 (-1) 0
theorem mS8_33 {t : mSt} (h : (mS8 t).1 33 = 0) : mS8 t = t ∧ t.1 39 ≤ 262144 := by
  rw [mS8] at h ⊢
  by_cases h1 : t.1 39 ≤ 262144
  · rw [if_pos h1]
    exact ⟨rfl, h1⟩
  · rw [if_neg h1] at h
    exact absurd h (mFail_33 _ _ _ (by decide))
abbrev mS5 (t : mSt) : mSt := mJd (va_up t.1 36 (t.1 1), t.2) (mFill (fun q => t.2.1 4 q &&& 1) (t.2.1 28) 128)
/-- after the lay-out and the look for what is wrong -/
def mS9 (t : mSt) (e : Nat → Nat → Nat) (U S W : Nat) : mSt := mS8 (mWrong (mLayOut (mS5 t) U) e S W)
abbrev mPb (f : Nat → Int32) (z3 z4 z5 z6 z7 z8 : Int32) : Nat → Int32 := va_up (va_up (va_up (va_up (va_up (va_up f 0 z3) 1 z4) 2 z5) 3 z6) 4 z7) 6 z8
abbrev mBack (t : mSt) (z3 z4 z5 z6 z7 z8 z9 : Int32) : mSt := (va_up t.1 39 z9, va_up t.2.1 30 (mPb (t.2.1 30) z3 z4 z5 z6 z7 z8), t.2.2)
theorem mLay_HA {t : mSt} {e : Nat → Nat → Nat} {U S W T B : Nat} (H : mHy t e U S W T B) (h : (mLayOut (mS5 t) U).1 39 ≤ 262144) : mHA (mLayOut (mS5 t) U) e U := by
  obtain ⟨en, n1, n2, n3⟩ := mLay4_ok (sz := t.2.1 5) (nd := t.2.1 4) (ad := t.2.1 7) (z := e 5) H.hUb (fun q hq => (H.i1 q hq).1)
  have h : (mLay4 (t.2.1 5) (t.2.1 4) (t.2.1 7) U).2.1 ≤ nI 262144 := h
  rw [n2] at h
  have h := (nI_leI (by omega) (by decide)).mp h
  intro q hq hn
  obtain ⟨b, b1, b2⟩ := n3 q hq hn
  show (mLay4 (t.2.1 5) (t.2.1 4) (t.2.1 7) U).2.2 q = nI (iN ((mLay4 (t.2.1 5) (t.2.1 4) (t.2.1 7) U).2.2 q)) ∧ iN ((mLay4 (t.2.1 5) (t.2.1 4) (t.2.1 7) U).2.2 q) + e 5 q ≤ 262144
  rw [b1, iN, nI_clamp (by omega)]
  exact ⟨rfl, by omega⟩
set_option maxRecDepth 20000 in
theorem t_M_link2 {G : ax_G} {x : ax_X} {h0 : ax_H} {P : Option Value → ax_H → Prop} {m : Nat} (t : mSt) (e : Nat → Nat → Nat) (U S W T B : Nat) (H : mHy t e U S W T B) (hq : ax_H) (q2 q10 q11 q12 q13 q14 : Option Value) (z3 z4 z5 z6 z7 z8 z9 : Int32) (E : Nat) (hE : E < S) (hE0 : 0 ≤ t.2.1 13 E) (h : ax_H) (hR : mR m t h) (hF : mFr m hq h) (hp1 : ¬ (mS9 t e U S W).1 33 = 0 → ∀ h2, mR m (va_up (mBack (mS9 t e U S W) z3 z4 z5 z6 z7 z8 z9).1 0 1, (mBack (mS9 t e U S W) z3 z4 z5 z6 z7 z8 z9).2) h2 → mFr m hq h2 → P (some (.int 0)) h2) (hp2 : (mS9 t e U S W).1 33 = 0 → ∀ h2, mR m (va_up (mDone (mS9 t e U S W) e U S W T E).1 0 0, (mDone (mS9 t e U S W) e U S W T E).2) h2 → mFr m hq h2 → P (some (.int ((mDone (mS9 t e U S W) e U S W T E).1 39))) h2) : AW G x Y_M_link 5 122 h0 P h 114 [some (.ref m), some (.int (nI E)), q2, some (.int z3), some (.int z4), some (.int z5), some (.int z6), some (.int z7), some (.int z8), some (.int z9), q10, q11, q12, q13, q14] [] := by
  have H5 : mHy (mS5 t) e U S W T B := H
  have H6 : mHy (mLayOut (mS5 t) U) e U S W T B := H
  first | refine aw_aload_n d_M_link_114 rfl rfl ?_ | refine aw_aload_nQ d_M_link_114 rfl rfl ?_ | refine aw_aload_nN d_M_link_114 rfl rfl ?_
  first | refine aw_aload_n d_M_link_115 rfl rfl ?_ | refine aw_aload_nQ d_M_link_115 rfl rfl ?_ | refine aw_aload_nN d_M_link_115 rfl rfl ?_
  refine aM_get (by assumption) fl_M_126 (by decide) rfl d_M_link_116 ?_
  refine aM_put (by assumption) fl_M_141 (by decide) rfl rfl rfl rfl d_M_link_119 (fun g119 hR119 hF119 => ?_)
  refine aw_iconst (v := 0) d_M_link_122 (by decide) ?_
  refine aw_istore d_M_link_123 (by decide) rfl ?_
  have hR0 : mR m (mJd (va_up t.1 36 (t.1 1), t.2) (mFill (fun q => t.2.1 4 q &&& 1) (t.2.1 28) 0)) g119 := by
    rw [mFill_0]
    show mR m (va_up t.1 36 (t.1 1), va_up t.2.1 28 (t.2.1 28), t.2.2) g119
    rw [mUs]
    exact hR119
  refine l_M_judge (va_up t.1 36 (t.1 1), t.2) hq _ _ _ _ _ _ _ _ _ _ _ _ _ (fun h2 q10 hRj hFj => ?_) 128 0 _ (by omega) hR0 (hF.tr hF119)
  first | refine aw_aload_n d_M_link_153 rfl rfl ?_ | refine aw_aload_nQ d_M_link_153 rfl rfl ?_ | refine aw_aload_nN d_M_link_153 rfl rfl ?_
  refine aw_callV (c_M_layOut G _ m (mS5 t) hRj U H.hU H.hUb) cl_M hRj.obj m_M_layOut ml_M_218 rfl rfl (by decide) (by decide) (Nat.le_of_ble_eq_true rfl) d_M_link_154 ?_
  rintro v h' ⟨rfl, hR6, hF6⟩
  first | refine aw_aload_n d_M_link_157 rfl rfl ?_ | refine aw_aload_nQ d_M_link_157 rfl rfl ?_ | refine aw_aload_nN d_M_link_157 rfl rfl ?_
  refine aw_callV (c_M_findWrong G _ m (mLayOut (mS5 t) U) hR6 e U S W H6.hUb H6.hS H6.hSb H6.hW H6.hWb H6.i2 H6.i3 H6.i4) cl_M hR6.obj m_M_findWrong ml_M_221 rfl rfl (by decide) (by decide) (Nat.le_of_ble_eq_true rfl) d_M_link_158 ?_
  rintro v h' ⟨rfl, hR7, hF7⟩
  have hF7 := (hFj.tr hF6).tr hF7
  first | refine aw_aload_n d_M_link_161 rfl rfl ?_ | refine aw_aload_nQ d_M_link_161 rfl rfl ?_ | refine aw_aload_nN d_M_link_161 rfl rfl ?_
  refine aM_get (by assumption) fl_M_191 (by decide) rfl d_M_link_162 ?_
  refine aw_ldc kc_M_32 d_M_link_165 ?_
  refine aw_icmp_le (tgt := 177) d_M_link_167 (by decide) (fun c167 => ?_) (fun c167 => ?_)
  · have e8 : mS8 (mWrong (mLayOut (mS5 t) U) e S W) = mWrong (mLayOut (mS5 t) U) e S W := if_pos c167
    have hR8 : mR m (mS9 t e U S W) _ := e8.symm ▸ hR7
    have hF8 := hF7
    first | refine aw_aload_n d_M_link_177 rfl rfl ?_ | refine aw_aload_nQ d_M_link_177 rfl rfl ?_ | refine aw_aload_nN d_M_link_177 rfl rfl ?_
    refine aM_get (by assumption) fl_M_178 (by decide) rfl d_M_link_178 ?_
    refine aw_if_eq (tgt := 245) d_M_link_181 (by decide) (fun c181 => ?_) (fun c181 => ?_)
    · have e8 := mS8_33 (show (mS8 (mWrong (mLayOut (mS5 t) U) e S W)).1 33 = 0 from c181)
      have e7 := mWrong_33 (show (mWrong (mLayOut (mS5 t) U) e S W).1 33 = 0 by rw [← e8.1]; exact c181)
      have e9 : mS9 t e U S W = mLayOut (mS5 t) U := e8.1.trans e7
      have hl := e8.2
      rw [e7] at hl
      have hp2 := hp2 c181
      rw [e9] at hR8 hp2
      exact t_M_link3 (mLayOut (mS5 t) U) e U S W T B H6 (mLay_HA H hl) hq _ _ _ _ _ _ _ _ _ _ _ _ _ E hE hE0 _ hR8 hF8 hp2
    · first | refine aw_aload_n d_M_link_184 rfl rfl ?_ | refine aw_aload_nQ d_M_link_184 rfl rfl ?_ | refine aw_aload_nN d_M_link_184 rfl rfl ?_
      refine aM_get (by assumption) fl_M_105 (by decide) rfl d_M_link_185 ?_
      refine aw_iconst (v := 0) d_M_link_188 (by decide) ?_
      refine aw_iload_n d_M_link_189 rfl rfl ?_
      refine aM_iast (by assumption) (by decide) rfl (show _ = nI 0 from rfl) (show 0 < 7 by decide) (by decide) d_M_link_190 (fun g190 hR190 hF190 => ?_)
      first | refine aw_aload_n d_M_link_191 rfl rfl ?_ | refine aw_aload_nQ d_M_link_191 rfl rfl ?_ | refine aw_aload_nN d_M_link_191 rfl rfl ?_
      refine aM_get (by assumption) fl_M_105 (by decide) rfl d_M_link_192 ?_
      refine aw_iconst (v := 1) d_M_link_195 (by decide) ?_
      refine aw_iload d_M_link_196 rfl ?_
      refine aM_iast (by assumption) (by decide) rfl (show _ = nI 1 from rfl) (show 1 < 7 by decide) (by decide) d_M_link_198 (fun g198 hR198 hF198 => ?_)
      first | refine aw_aload_n d_M_link_199 rfl rfl ?_ | refine aw_aload_nQ d_M_link_199 rfl rfl ?_ | refine aw_aload_nN d_M_link_199 rfl rfl ?_
      refine aM_get (by assumption) fl_M_105 (by decide) rfl d_M_link_200 ?_
      refine aw_iconst (v := 2) d_M_link_203 (by decide) ?_
      refine aw_iload d_M_link_204 rfl ?_
      refine aM_iast (by assumption) (by decide) rfl (show _ = nI 2 from rfl) (show 2 < 7 by decide) (by decide) d_M_link_206 (fun g206 hR206 hF206 => ?_)
      first | refine aw_aload_n d_M_link_207 rfl rfl ?_ | refine aw_aload_nQ d_M_link_207 rfl rfl ?_ | refine aw_aload_nN d_M_link_207 rfl rfl ?_
      refine aM_get (by assumption) fl_M_105 (by decide) rfl d_M_link_208 ?_
      refine aw_iconst (v := 3) d_M_link_211 (by decide) ?_
      refine aw_iload d_M_link_212 rfl ?_
      refine aM_iast (by assumption) (by decide) rfl (show _ = nI 3 from rfl) (show 3 < 7 by decide) (by decide) d_M_link_214 (fun g214 hR214 hF214 => ?_)
      first | refine aw_aload_n d_M_link_215 rfl rfl ?_ | refine aw_aload_nQ d_M_link_215 rfl rfl ?_ | refine aw_aload_nN d_M_link_215 rfl rfl ?_
      refine aM_get (by assumption) fl_M_105 (by decide) rfl d_M_link_216 ?_
      refine aw_iconst (v := 4) d_M_link_219 (by decide) ?_
      refine aw_iload d_M_link_220 rfl ?_
      refine aM_iast (by assumption) (by decide) rfl (show _ = nI 4 from rfl) (show 4 < 7 by decide) (by decide) d_M_link_222 (fun g222 hR222 hF222 => ?_)
      first | refine aw_aload_n d_M_link_223 rfl rfl ?_ | refine aw_aload_nQ d_M_link_223 rfl rfl ?_ | refine aw_aload_nN d_M_link_223 rfl rfl ?_
      refine aM_get (by assumption) fl_M_105 (by decide) rfl d_M_link_224 ?_
      refine aw_bipush (v := 6) d_M_link_227 (by decide) ?_
      refine aw_iload d_M_link_229 rfl ?_
      refine aM_iast (by assumption) (by decide) rfl (show _ = nI 6 from rfl) (show 6 < 7 by decide) (by decide) d_M_link_231 (fun g231 hR231 hF231 => ?_)
      first | refine aw_aload_n d_M_link_232 rfl rfl ?_ | refine aw_aload_nQ d_M_link_232 rfl rfl ?_ | refine aw_aload_nN d_M_link_232 rfl rfl ?_
      refine aw_iload d_M_link_233 rfl ?_
      refine aM_put (by assumption) fl_M_191 (by decide) rfl rfl rfl rfl d_M_link_235 (fun g235 hR235 hF235 => ?_)
      have hR235 : mR m (va_up (mS9 t e U S W).1 39 z9, va_up (va_up (va_up (va_up (va_up (va_up (mS9 t e U S W).2.1 30 (va_up ((mS9 t e U S W).2.1 30) 0 z3)) 30 (va_up (va_up ((mS9 t e U S W).2.1 30) 0 z3) 1 z4)) 30 (va_up (va_up (va_up ((mS9 t e U S W).2.1 30) 0 z3) 1 z4) 2 z5)) 30 (va_up (va_up (va_up (va_up ((mS9 t e U S W).2.1 30) 0 z3) 1 z4) 2 z5) 3 z6)) 30 (va_up (va_up (va_up (va_up (va_up ((mS9 t e U S W).2.1 30) 0 z3) 1 z4) 2 z5) 3 z6) 4 z7)) 30 (mPb ((mS9 t e U S W).2.1 30) z3 z4 z5 z6 z7 z8), (mS9 t e U S W).2.2) g235 := hR235
      rw [bx_uu, bx_uu, bx_uu, bx_uu, bx_uu] at hR235
      first | refine aw_aload_n d_M_link_238 rfl rfl ?_ | refine aw_aload_nQ d_M_link_238 rfl rfl ?_ | refine aw_aload_nN d_M_link_238 rfl rfl ?_
      refine aw_iconst (v := 1) d_M_link_239 (by decide) ?_
      refine aw_iconst (v := 0) d_M_link_240 (by decide) ?_
      refine aw_callV (c_M_give G _ m (mBack (mS9 t e U S W) z3 z4 z5 z6 z7 z8 z9) hR235 _ _) cl_M (mR.obj (by assumption)) m_M_give ml_M_210 rfl rfl (by decide) (by decide) (Nat.le_of_ble_eq_true rfl) d_M_link_241 ?_
      rintro v h' ⟨rfl, hRz, hFz⟩
      refine aw_iret ?_ rfl d_M_link_244
      exact hp1 c181 _ hRz ((((((((hF8.tr hF190).tr hF198).tr hF206).tr hF214).tr hF222).tr hF231).tr hF235).tr hFz)
  · first | refine aw_aload_n d_M_link_170 rfl rfl ?_ | refine aw_aload_nQ d_M_link_170 rfl rfl ?_ | refine aw_aload_nN d_M_link_170 rfl rfl ?_
    refine aw_iconst (v := 5) d_M_link_171 (by decide) ?_
    refine aw_iconst (v := (-1)) d_M_link_172 (by decide) ?_
    refine aw_iconst (v := 0) d_M_link_173 (by decide) ?_
    refine aw_callV (c_M_fail G _ m _ hR7 _ _ _) cl_M hR7.obj m_M_fail ml_M_184 rfl rfl (by decide) (by decide) (Nat.le_of_ble_eq_true rfl) d_M_link_174 ?_
    rintro v h' ⟨rfl, hRf, hFf⟩
    have e8 : mS8 (mWrong (mLayOut (mS5 t) U) e S W) = mFail (mWrong (mLayOut (mS5 t) U) e S W) 5 (-1) 0 := if_neg c167
    have hR8 : mR m (mS9 t e U S W) _ := e8.symm ▸ hRf
    have hF8 := hF7.tr hFf
    first | refine aw_aload_n d_M_link_177 rfl rfl ?_ | refine aw_aload_nQ d_M_link_177 rfl rfl ?_ | refine aw_aload_nN d_M_link_177 rfl rfl ?_
    refine aM_get (by assumption) fl_M_178 (by decide) rfl d_M_link_178 ?_
    refine aw_if_eq (tgt := 245) d_M_link_181 (by decide) (fun c181 => ?_) (fun c181 => ?_)
    · have e8 := mS8_33 (show (mS8 (mWrong (mLayOut (mS5 t) U) e S W)).1 33 = 0 from c181)
      have e7 := mWrong_33 (show (mWrong (mLayOut (mS5 t) U) e S W).1 33 = 0 by rw [← e8.1]; exact c181)
      have e9 : mS9 t e U S W = mLayOut (mS5 t) U := e8.1.trans e7
      have hl := e8.2
      rw [e7] at hl
      have hp2 := hp2 c181
      rw [e9] at hR8 hp2
      exact t_M_link3 (mLayOut (mS5 t) U) e U S W T B H6 (mLay_HA H hl) hq _ _ _ _ _ _ _ _ _ _ _ _ _ E hE hE0 _ hR8 hF8 hp2
    · first | refine aw_aload_n d_M_link_184 rfl rfl ?_ | refine aw_aload_nQ d_M_link_184 rfl rfl ?_ | refine aw_aload_nN d_M_link_184 rfl rfl ?_
      refine aM_get (by assumption) fl_M_105 (by decide) rfl d_M_link_185 ?_
      refine aw_iconst (v := 0) d_M_link_188 (by decide) ?_
      refine aw_iload_n d_M_link_189 rfl rfl ?_
      refine aM_iast (by assumption) (by decide) rfl (show _ = nI 0 from rfl) (show 0 < 7 by decide) (by decide) d_M_link_190 (fun g190 hR190 hF190 => ?_)
      first | refine aw_aload_n d_M_link_191 rfl rfl ?_ | refine aw_aload_nQ d_M_link_191 rfl rfl ?_ | refine aw_aload_nN d_M_link_191 rfl rfl ?_
      refine aM_get (by assumption) fl_M_105 (by decide) rfl d_M_link_192 ?_
      refine aw_iconst (v := 1) d_M_link_195 (by decide) ?_
      refine aw_iload d_M_link_196 rfl ?_
      refine aM_iast (by assumption) (by decide) rfl (show _ = nI 1 from rfl) (show 1 < 7 by decide) (by decide) d_M_link_198 (fun g198 hR198 hF198 => ?_)
      first | refine aw_aload_n d_M_link_199 rfl rfl ?_ | refine aw_aload_nQ d_M_link_199 rfl rfl ?_ | refine aw_aload_nN d_M_link_199 rfl rfl ?_
      refine aM_get (by assumption) fl_M_105 (by decide) rfl d_M_link_200 ?_
      refine aw_iconst (v := 2) d_M_link_203 (by decide) ?_
      refine aw_iload d_M_link_204 rfl ?_
      refine aM_iast (by assumption) (by decide) rfl (show _ = nI 2 from rfl) (show 2 < 7 by decide) (by decide) d_M_link_206 (fun g206 hR206 hF206 => ?_)
      first | refine aw_aload_n d_M_link_207 rfl rfl ?_ | refine aw_aload_nQ d_M_link_207 rfl rfl ?_ | refine aw_aload_nN d_M_link_207 rfl rfl ?_
      refine aM_get (by assumption) fl_M_105 (by decide) rfl d_M_link_208 ?_
      refine aw_iconst (v := 3) d_M_link_211 (by decide) ?_
      refine aw_iload d_M_link_212 rfl ?_
      refine aM_iast (by assumption) (by decide) rfl (show _ = nI 3 from rfl) (show 3 < 7 by decide) (by decide) d_M_link_214 (fun g214 hR214 hF214 => ?_)
      first | refine aw_aload_n d_M_link_215 rfl rfl ?_ | refine aw_aload_nQ d_M_link_215 rfl rfl ?_ | refine aw_aload_nN d_M_link_215 rfl rfl ?_
      refine aM_get (by assumption) fl_M_105 (by decide) rfl d_M_link_216 ?_
      refine aw_iconst (v := 4) d_M_link_219 (by decide) ?_
      refine aw_iload d_M_link_220 rfl ?_
      refine aM_iast (by assumption) (by decide) rfl (show _ = nI 4 from rfl) (show 4 < 7 by decide) (by decide) d_M_link_222 (fun g222 hR222 hF222 => ?_)
      first | refine aw_aload_n d_M_link_223 rfl rfl ?_ | refine aw_aload_nQ d_M_link_223 rfl rfl ?_ | refine aw_aload_nN d_M_link_223 rfl rfl ?_
      refine aM_get (by assumption) fl_M_105 (by decide) rfl d_M_link_224 ?_
      refine aw_bipush (v := 6) d_M_link_227 (by decide) ?_
      refine aw_iload d_M_link_229 rfl ?_
      refine aM_iast (by assumption) (by decide) rfl (show _ = nI 6 from rfl) (show 6 < 7 by decide) (by decide) d_M_link_231 (fun g231 hR231 hF231 => ?_)
      first | refine aw_aload_n d_M_link_232 rfl rfl ?_ | refine aw_aload_nQ d_M_link_232 rfl rfl ?_ | refine aw_aload_nN d_M_link_232 rfl rfl ?_
      refine aw_iload d_M_link_233 rfl ?_
      refine aM_put (by assumption) fl_M_191 (by decide) rfl rfl rfl rfl d_M_link_235 (fun g235 hR235 hF235 => ?_)
      have hR235 : mR m (va_up (mS9 t e U S W).1 39 z9, va_up (va_up (va_up (va_up (va_up (va_up (mS9 t e U S W).2.1 30 (va_up ((mS9 t e U S W).2.1 30) 0 z3)) 30 (va_up (va_up ((mS9 t e U S W).2.1 30) 0 z3) 1 z4)) 30 (va_up (va_up (va_up ((mS9 t e U S W).2.1 30) 0 z3) 1 z4) 2 z5)) 30 (va_up (va_up (va_up (va_up ((mS9 t e U S W).2.1 30) 0 z3) 1 z4) 2 z5) 3 z6)) 30 (va_up (va_up (va_up (va_up (va_up ((mS9 t e U S W).2.1 30) 0 z3) 1 z4) 2 z5) 3 z6) 4 z7)) 30 (mPb ((mS9 t e U S W).2.1 30) z3 z4 z5 z6 z7 z8), (mS9 t e U S W).2.2) g235 := hR235
      rw [bx_uu, bx_uu, bx_uu, bx_uu, bx_uu] at hR235
      first | refine aw_aload_n d_M_link_238 rfl rfl ?_ | refine aw_aload_nQ d_M_link_238 rfl rfl ?_ | refine aw_aload_nN d_M_link_238 rfl rfl ?_
      refine aw_iconst (v := 1) d_M_link_239 (by decide) ?_
      refine aw_iconst (v := 0) d_M_link_240 (by decide) ?_
      refine aw_callV (c_M_give G _ m (mBack (mS9 t e U S W) z3 z4 z5 z6 z7 z8 z9) hR235 _ _) cl_M (mR.obj (by assumption)) m_M_give ml_M_210 rfl rfl (by decide) (by decide) (Nat.le_of_ble_eq_true rfl) d_M_link_241 ?_
      rintro v h' ⟨rfl, hRz, hFz⟩
      refine aw_iret ?_ rfl d_M_link_244
      exact hp1 c181 _ hRz ((((((((hF8.tr hF190).tr hF198).tr hF206).tr hF214).tr hF222).tr hF231).tr hF235).tr hFz)

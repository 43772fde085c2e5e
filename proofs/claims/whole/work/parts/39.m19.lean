/-- all that holds of the reference's state: U units, S symbols, W waits, T starts, B bytes -/
def mHy (t : mSt) (e : Nat → Nat → Nat) (U S W T B : Nat) : Prop := (t.1 1 = nI U) ∧ (U ≤ 32) ∧ (t.1 2 = nI S) ∧ (S ≤ 2048) ∧ (t.1 3 = nI W) ∧ (W ≤ 4096) ∧ (t.1 4 = nI T) ∧ (T ≤ 8192) ∧ (B ≤ 262144) ∧ (mI1 t e U B) ∧ (mI2 t e U S) ∧ (mI3 t e S) ∧ (mI4 t e U S W) ∧ (mI5 t e U T) ∧ (∀ w, w < W → t.2.1 19 w = nI (e 19 w) ∧ t.2.1 20 w = nI (e 20 w) ∧ e 19 w + e 20 w ≤ e 5 (mSrc e w)) ∧ (∀ u, u < U → t.2.1 16 u = nI (e 16 u) ∧ e 16 u ≤ S)
theorem mHy.hU {t : mSt} {e : Nat → Nat → Nat} {U S W T B : Nat} (h : mHy t e U S W T B) : t.1 1 = nI U := h.1
theorem mHy.hUb {t : mSt} {e : Nat → Nat → Nat} {U S W T B : Nat} (h : mHy t e U S W T B) : U ≤ 32 := h.2.1
theorem mHy.hS {t : mSt} {e : Nat → Nat → Nat} {U S W T B : Nat} (h : mHy t e U S W T B) : t.1 2 = nI S := h.2.2.1
theorem mHy.hSb {t : mSt} {e : Nat → Nat → Nat} {U S W T B : Nat} (h : mHy t e U S W T B) : S ≤ 2048 := h.2.2.2.1
theorem mHy.hW {t : mSt} {e : Nat → Nat → Nat} {U S W T B : Nat} (h : mHy t e U S W T B) : t.1 3 = nI W := h.2.2.2.2.1
theorem mHy.hWb {t : mSt} {e : Nat → Nat → Nat} {U S W T B : Nat} (h : mHy t e U S W T B) : W ≤ 4096 := h.2.2.2.2.2.1
theorem mHy.hT {t : mSt} {e : Nat → Nat → Nat} {U S W T B : Nat} (h : mHy t e U S W T B) : t.1 4 = nI T := h.2.2.2.2.2.2.1
theorem mHy.hTb {t : mSt} {e : Nat → Nat → Nat} {U S W T B : Nat} (h : mHy t e U S W T B) : T ≤ 8192 := h.2.2.2.2.2.2.2.1
theorem mHy.hB {t : mSt} {e : Nat → Nat → Nat} {U S W T B : Nat} (h : mHy t e U S W T B) : B ≤ 262144 := h.2.2.2.2.2.2.2.2.1
theorem mHy.i1 {t : mSt} {e : Nat → Nat → Nat} {U S W T B : Nat} (h : mHy t e U S W T B) : mI1 t e U B := h.2.2.2.2.2.2.2.2.2.1
theorem mHy.i2 {t : mSt} {e : Nat → Nat → Nat} {U S W T B : Nat} (h : mHy t e U S W T B) : mI2 t e U S := h.2.2.2.2.2.2.2.2.2.2.1
theorem mHy.i3 {t : mSt} {e : Nat → Nat → Nat} {U S W T B : Nat} (h : mHy t e U S W T B) : mI3 t e S := h.2.2.2.2.2.2.2.2.2.2.2.1
theorem mHy.i4 {t : mSt} {e : Nat → Nat → Nat} {U S W T B : Nat} (h : mHy t e U S W T B) : mI4 t e U S W := h.2.2.2.2.2.2.2.2.2.2.2.2.1
theorem mHy.i5 {t : mSt} {e : Nat → Nat → Nat} {U S W T B : Nat} (h : mHy t e U S W T B) : mI5 t e U T := h.2.2.2.2.2.2.2.2.2.2.2.2.2.1
theorem mHy.i6 {t : mSt} {e : Nat → Nat → Nat} {U S W T B : Nat} (h : mHy t e U S W T B) : ∀ w, w < W → t.2.1 19 w = nI (e 19 w) ∧ t.2.1 20 w = nI (e 20 w) ∧ e 19 w + e 20 w ≤ e 5 (mSrc e w) := h.2.2.2.2.2.2.2.2.2.2.2.2.2.2.1
theorem mHy.i7 {t : mSt} {e : Nat → Nat → Nat} {U S W T B : Nat} (h : mHy t e U S W T B) : ∀ u, u < U → t.2.1 16 u = nI (e 16 u) ∧ e 16 u ≤ S := h.2.2.2.2.2.2.2.2.2.2.2.2.2.2.2
def mFill {A : Type} (f old : Nat → A) (j : Nat) : Nat → A := fun q => if q < j then f q else old q
theorem mFill_0 {A : Type} (f old : Nat → A) : mFill f old 0 = old := by
  funext u
  rw [mFill, if_neg (by omega)]
theorem mFill_s {A : Type} (f old : Nat → A) (j : Nat) : va_up (mFill f old j) j (f j) = mFill f old (j + 1) := by
  funext u
  by_cases hu : u = j
  · subst hu
    rw [va_up_self, mFill]
    exact (if_pos (Nat.lt_succ_self u)).symm
  · rw [va_up_ne _ _ hu, mFill, mFill]
    by_cases q : u < j
    · rw [if_pos q, if_pos (show u < j + 1 by omega)]
    · rw [if_neg q, if_neg (show ¬ u < j + 1 by omega)]
abbrev mJd (t : mSt) (a : Nat → Int32) : mSt := (t.1, va_up t.2.1 28 a, t.2.2)
abbrev mIm (t : mSt) (a : Nat → Int32) : mSt := (t.1, va_up t.2.1 29 a, t.2.2)
theorem mU2 {m : Nat} {a : Nat → Int32} {f : Nat → Nat → Int32} {c : Nat → Nat → Int64} {k : Nat} {x y : Nat → Int32} {h : ax_H} (hR : mR m (a, va_up (va_up f k x) k y, c) h) : mR m (a, va_up f k y, c) h := by
  rw [bx_uu] at hR
  exact hR
set_option maxRecDepth 20000 in
theorem l_M_judge {G : ax_G} {x : ax_X} {h0 : ax_H} {P : Option Value → ax_H → Prop} {m : Nat} (t : mSt) (hq : ax_H) (q1 q2 q3 q4 q5 q6 q7 q8 q11 q12 q13 q14 : Option Value) (z9 : Int32) (hk : ∀ h2 q10, mR m (mJd t (mFill (fun q => t.2.1 4 q &&& 1) (t.2.1 28) 128)) h2 → mFr m hq h2 → AW G x Y_M_link 5 122 h0 P h2 153 [some (.ref m), q1, q2, q3, q4, q5, q6, q7, q8, some (.int z9), q10, q11, q12, q13, q14] []) : ∀ r j h, j + r = 128 → mR m (mJd t (mFill (fun q => t.2.1 4 q &&& 1) (t.2.1 28) j)) h → mFr m hq h → AW G x Y_M_link 5 122 h0 P h 125 [some (.ref m), q1, q2, q3, q4, q5, q6, q7, q8, some (.int z9), some (.int (nI j)), q11, q12, q13, q14] [] := by
  intro r
  induction r with
  | zero =>
    intro j h hj hR hF
    have hjj : j = 128 := by omega
    subst hjj
    refine aw_iload d_M_link_125 rfl ?_
    refine aw_sipush (v := 128) d_M_link_127 (by decide) ?_
    refine aw_icmp_ge (tgt := 153) d_M_link_130 (by decide) (fun c130 => ?_) (fun c130 => ?_)
    · exact hk _ _ hR hF
    · exact absurd (by decide) c130
  | succ r ih =>
    intro j h hj hR hF
    refine aw_iload d_M_link_125 rfl ?_
    refine aw_sipush (v := 128) d_M_link_127 (by decide) ?_
    refine aw_icmp_ge (tgt := 153) d_M_link_130 (by decide) (fun c130 => ?_) (fun c130 => ?_)
    · exact absurd c130 (nI_ge (a := j) (b := 128) (by omega) (by decide))
    · first | refine aw_aload_n d_M_link_133 rfl rfl ?_ | refine aw_aload_nQ d_M_link_133 rfl rfl ?_ | refine aw_aload_nN d_M_link_133 rfl rfl ?_
      refine aM_get (by assumption) fl_M_99 (by decide) rfl d_M_link_134 ?_
      refine aw_iload d_M_link_137 rfl ?_
      first | refine aw_aload_n d_M_link_139 rfl rfl ?_ | refine aw_aload_nQ d_M_link_139 rfl rfl ?_ | refine aw_aload_nN d_M_link_139 rfl rfl ?_
      refine aM_get (by assumption) fl_M_19 (by decide) rfl d_M_link_140 ?_
      refine aw_iload d_M_link_143 rfl ?_
      refine aM_zald (by assumption) (by decide) rfl rfl (show j < 128 by omega) (by decide) d_M_link_145 ?_
      refine aM_zast (by assumption) (by decide) rfl rfl (show j < 128 by omega) (by decide) d_M_link_146 (fun g146 hR146 hF146 => ?_)
      refine aw_iinc (v := nI (j + 1)) d_M_link_147 rfl (ax_inc j) (by decide) rfl ?_
      refine aw_goto (tgt := 125) d_M_link_150 (by decide) ?_
      refine ih (j + 1) _ (by omega) ?_ (hF.tr hF146)
      have hR146 := mU2 hR146
      have hR146 : mR m (t.1, va_up t.2.1 28 (va_up (mFill (fun q => t.2.1 4 q &&& 1) (t.2.1 28) j) j (t.2.1 4 j &&& 1)), t.2.2) g146 := hR146
      rw [mFill_s (fun q => t.2.1 4 q &&& 1)] at hR146
      exact hR146
set_option maxRecDepth 20000 in
theorem l_M_zero {G : ax_G} {x : ax_X} {h0 : ax_H} {P : Option Value → ax_H → Prop} {m : Nat} (t : mSt) (hq : ax_H) (q1 q2 q3 q4 q5 q6 q7 q8 q11 q12 q13 q14 : Option Value) (z9 : Int32) (hk : ∀ h2 q10, mR m (mIm t (mFill (fun _ => 0) (t.2.1 29) 262144)) h2 → mFr m hq h2 → AW G x Y_M_link 5 122 h0 P h2 285 [some (.ref m), q1, q2, q3, q4, q5, q6, q7, q8, some (.int z9), q10, q11, q12, q13, q14] []) : ∀ r j h, j + r = 262144 → mR m (mIm t (mFill (fun _ => 0) (t.2.1 29) j)) h → mFr m hq h → AW G x Y_M_link 5 122 h0 P h 264 [some (.ref m), q1, q2, q3, q4, q5, q6, q7, q8, some (.int z9), some (.int (nI j)), q11, q12, q13, q14] [] := by
  intro r
  induction r with
  | zero =>
    intro j h hj hR hF
    have hjj : j = 262144 := by omega
    subst hjj
    refine aw_iload d_M_link_264 rfl ?_
    refine aw_ldc kc_M_32 d_M_link_266 ?_
    refine aw_icmp_ge (tgt := 285) d_M_link_268 (by decide) (fun c268 => ?_) (fun c268 => ?_)
    · exact hk _ _ hR hF
    · exact absurd (show (262144 : Int32) ≤ nI 262144 by decide) c268
  | succ r ih =>
    intro j h hj hR hF
    refine aw_iload d_M_link_264 rfl ?_
    refine aw_ldc kc_M_32 d_M_link_266 ?_
    refine aw_icmp_ge (tgt := 285) d_M_link_268 (by decide) (fun c268 => ?_) (fun c268 => ?_)
    · exact absurd c268 (nI_ge (a := j) (b := 262144) (by omega) (by decide))
    · first | refine aw_aload_n d_M_link_271 rfl rfl ?_ | refine aw_aload_nQ d_M_link_271 rfl rfl ?_ | refine aw_aload_nN d_M_link_271 rfl rfl ?_
      refine aM_get (by assumption) fl_M_102 (by decide) rfl d_M_link_272 ?_
      refine aw_iload d_M_link_275 rfl ?_
      refine aw_iconst (v := 0) d_M_link_277 (by decide) ?_
      refine aM_bast (by assumption) (by decide) rfl rfl (show j < 262144 by omega) (by decide) d_M_link_278 (fun g278 hR278 hF278 => ?_)
      refine aw_iinc (v := nI (j + 1)) d_M_link_279 rfl (ax_inc j) (by decide) rfl ?_
      refine aw_goto (tgt := 264) d_M_link_282 (by decide) ?_
      refine ih (j + 1) _ (by omega) ?_ (hF.tr hF278)
      have hR278 := mU2 hR278
      have hR278 : mR m (t.1, va_up t.2.1 29 (va_up (mFill (fun _ => 0) (t.2.1 29) j) j ((fun _ => 0) j)), t.2.2) g278 := hR278
      rw [mFill_s (fun _ => 0)] at hR278
      exact hR278
theorem cpy_0 {A : Type} (f g : Nat → A) (sp dp : Nat) : va_cpy f g sp dp 0 = g := by
  funext j
  exact pk_cpy_out (by omega)
theorem cpy_s {A : Type} (f g : Nat → A) (sp dp n : Nat) : va_up (va_cpy f g sp dp n) (dp + n) (f (sp + n)) = va_cpy f g sp dp (n + 1) := by
  funext j
  by_cases h : j = dp + n
  · subst h
    rw [va_up_self, pk_cpy_in (by omega) (by omega), Nat.add_sub_cancel_left]
  · rw [va_up_ne _ _ h]
    by_cases h1 : dp ≤ j ∧ j < dp + n
    · rw [pk_cpy_in h1.1 h1.2, pk_cpy_in h1.1 (by omega)]
    · rw [pk_cpy_out (by omega), pk_cpy_out (by omega)]
/-- where the needed sections stand -/
def mHA (t : mSt) (e : Nat → Nat → Nat) (U : Nat) : Prop := ∀ q, q < 4 * U → ¬ t.2.1 4 q = 0 → t.2.1 7 q = nI (iN (t.2.1 7 q)) ∧ iN (t.2.1 7 q) + e 5 q ≤ 262144
abbrev mDat (t : mSt) : Nat → Int32 := fun i => (t.2.1 8 i).toInt8.toInt32
abbrev mCpC (t : mSt) (q : Nat) : Prop := ¬ t.2.1 4 q = 0 ∧ q % 4 < 3
def mCpL (t : mSt) (e : Nat → Nat → Nat) : Nat → Nat → (Nat → Int32) → (Nat → Int32)
  | 0, _, a => a
  | r + 1, q, a => mCpL t e r (q + 1) (if mCpC t q then va_cpy (mDat t) a (e 6 q) (iN (t.2.1 7 q)) (e 5 q) else a)
set_option maxRecDepth 20000 in
theorem l_M_cp1 {G : ax_G} {x : ax_X} {h0 : ax_H} {P : Option Value → ax_H → Prop} {m : Nat} (t : mSt) (e : Nat → Nat → Nat) (U S W T B : Nat) (H : mHy t e U S W T B) (hA : mHA t e U) (hq : ax_H) (q1 q2 q3 q4 q5 q6 q7 q8 q12 q13 q14 : Option Value) (z9 : Int32) (q : Nat) (hqU : q < 4 * U) (a : Nat → Int32) (hc : mCpC t q) (hk : ∀ h2 q11, mR m (mIm t (va_cpy (mDat t) a (e 6 q) (iN (t.2.1 7 q)) (e 5 q))) h2 → mFr m hq h2 → AW G x Y_M_link 5 122 h0 P h2 368 [some (.ref m), q1, q2, q3, q4, q5, q6, q7, q8, some (.int z9), some (.int (nI q)), q11, q12, q13, q14] []) : ∀ r k h, k + r = e 5 q → mR m (mIm t (va_cpy (mDat t) a (e 6 q) (iN (t.2.1 7 q)) k)) h → mFr m hq h → AW G x Y_M_link 5 122 h0 P h 302 [some (.ref m), q1, q2, q3, q4, q5, q6, q7, q8, some (.int z9), some (.int (nI q)), some (.int (nI k)), q12, q13, q14] [] := by
  obtain ⟨⟨z1, z2⟩, z3, z4⟩ := H.i1 q hqU
  rw [if_pos hc.2] at z4
  obtain ⟨a1, a2⟩ := hA q hqU hc.1
  have hB := H.hB
  have hUb := H.hUb
  have qb : q < 128 := by omega
  intro r
  induction r with
  | zero =>
    intro k h hk2 hR hF
    have hkk : k = e 5 q := by omega
    subst hkk
    refine aw_iload d_M_link_302 rfl ?_
    first | refine aw_aload_n d_M_link_304 rfl rfl ?_ | refine aw_aload_nQ d_M_link_304 rfl rfl ?_ | refine aw_aload_nN d_M_link_304 rfl rfl ?_
    refine aM_get (by assumption) fl_M_22 (by decide) rfl d_M_link_305 ?_
    refine aw_iload d_M_link_308 rfl ?_
    refine aM_iald (by assumption) (by decide) rfl rfl (show q < 128 from qb) (by decide) d_M_link_310 ?_
    refine aw_icmp_ge (tgt := 368) d_M_link_311 (by decide) (fun c311 => ?_) (fun c311 => ?_)
    · exact hk _ _ hR hF
    · exact absurd (show t.2.1 5 q ≤ nI (e 5 q) by rw [z1]; exact nI_le (Nat.le_refl _) (by omega)) c311
  | succ r ih =>
    intro k h hk2 hR hF
    have j1 : t.2.1 7 q + nI k = nI (iN (t.2.1 7 q) + k) := by rw [a1, nI_add, ← a1]
    have j2 : t.2.1 6 q + nI k = nI (e 6 q + k) := by rw [z3, nI_add]
    have rm : nI q - nI q / 4 * 4 = nI (q % 4) := pk_rem (a := q) (d := 4) (by omega) (by decide) (by decide)
    refine aw_iload d_M_link_302 rfl ?_
    first | refine aw_aload_n d_M_link_304 rfl rfl ?_ | refine aw_aload_nQ d_M_link_304 rfl rfl ?_ | refine aw_aload_nN d_M_link_304 rfl rfl ?_
    refine aM_get (by assumption) fl_M_22 (by decide) rfl d_M_link_305 ?_
    refine aw_iload d_M_link_308 rfl ?_
    refine aM_iald (by assumption) (by decide) rfl rfl (show q < 128 from qb) (by decide) d_M_link_310 ?_
    refine aw_icmp_ge (tgt := 368) d_M_link_311 (by decide) (fun c311 => ?_) (fun c311 => ?_)
    · exact absurd (show t.2.1 5 q ≤ nI k from c311) (by rw [z1]; exact nI_ge (by omega) (by omega))
    · first | refine aw_aload_n d_M_link_314 rfl rfl ?_ | refine aw_aload_nQ d_M_link_314 rfl rfl ?_ | refine aw_aload_nN d_M_link_314 rfl rfl ?_
      refine aM_get (by assumption) fl_M_19 (by decide) rfl d_M_link_315 ?_
      refine aw_iload d_M_link_318 rfl ?_
      refine aM_zald (by assumption) (by decide) rfl rfl (show q < 128 from qb) (by decide) d_M_link_320 ?_
      refine aw_if_eq (tgt := 368) d_M_link_321 (by decide) (fun c321 => ?_) (fun c321 => ?_)
      · exact absurd c321 hc.1
      · refine aw_iload d_M_link_324 rfl ?_
        refine aw_iconst (v := 4) d_M_link_326 (by decide) ?_
        refine aw_irem d_M_link_327 (by decide) ?_
        refine aw_iconst (v := 3) d_M_link_328 (by decide) ?_
        refine aw_icmp_ge (tgt := 368) d_M_link_329 (by decide) (fun c329 => ?_) (fun c329 => ?_)
        · exact absurd (show nI 3 ≤ nI q - nI q / 4 * 4 from c329) (by rw [rm]; exact nI_ge hc.2 (by decide))
        · first | refine aw_aload_n d_M_link_332 rfl rfl ?_ | refine aw_aload_nQ d_M_link_332 rfl rfl ?_ | refine aw_aload_nN d_M_link_332 rfl rfl ?_
          refine aM_get (by assumption) fl_M_102 (by decide) rfl d_M_link_333 ?_
          first | refine aw_aload_n d_M_link_336 rfl rfl ?_ | refine aw_aload_nQ d_M_link_336 rfl rfl ?_ | refine aw_aload_nN d_M_link_336 rfl rfl ?_
          refine aM_get (by assumption) fl_M_29 (by decide) rfl d_M_link_337 ?_
          refine aw_iload d_M_link_340 rfl ?_
          refine aM_iald (by assumption) (by decide) rfl rfl (show q < 128 from qb) (by decide) d_M_link_342 ?_
          refine aw_iload d_M_link_343 rfl ?_
          refine aw_iadd d_M_link_345 ?_
          first | refine aw_aload_n d_M_link_346 rfl rfl ?_ | refine aw_aload_nQ d_M_link_346 rfl rfl ?_ | refine aw_aload_nN d_M_link_346 rfl rfl ?_
          refine aM_get (by assumption) fl_M_33 (by decide) rfl d_M_link_347 ?_
          first | refine aw_aload_n d_M_link_350 rfl rfl ?_ | refine aw_aload_nQ d_M_link_350 rfl rfl ?_ | refine aw_aload_nN d_M_link_350 rfl rfl ?_
          refine aM_get (by assumption) fl_M_26 (by decide) rfl d_M_link_351 ?_
          refine aw_iload d_M_link_354 rfl ?_
          refine aM_iald (by assumption) (by decide) rfl rfl (show q < 128 from qb) (by decide) d_M_link_356 ?_
          refine aw_iload d_M_link_357 rfl ?_
          refine aw_iadd d_M_link_359 ?_
          refine aM_bald (by assumption) (by decide) rfl j2 (show e 6 q + k < 262144 by omega) (by decide) d_M_link_360 ?_
          refine aM_bast (by assumption) (by decide) rfl j1 (show iN (t.2.1 7 q) + k < 262144 by omega) (by decide) d_M_link_361 (fun g361 hR361 hF361 => ?_)
          refine aw_iinc (v := nI (k + 1)) d_M_link_362 rfl (ax_inc k) (by decide) rfl ?_
          refine aw_goto (tgt := 302) d_M_link_365 (by decide) ?_
          refine ih (k + 1) _ (by omega) ?_ (hF.tr hF361)
          have hR361 := mU2 hR361
          have hR361 : mR m (t.1, va_up t.2.1 29 (va_up (va_cpy (mDat t) a (e 6 q) (iN (t.2.1 7 q)) k) (iN (t.2.1 7 q) + k) (mDat t (e 6 q + k))), t.2.2) g361 := hR361
          rw [cpy_s] at hR361
          exact hR361
set_option maxRecDepth 20000 in
theorem l_M_cp {G : ax_G} {x : ax_X} {h0 : ax_H} {P : Option Value → ax_H → Prop} {m : Nat} (t : mSt) (e : Nat → Nat → Nat) (U S W T B : Nat) (H : mHy t e U S W T B) (hA : mHA t e U) (hq : ax_H) (q1 q2 q3 q4 q5 q6 q7 q8 q12 q13 q14 : Option Value) (z9 : Int32) (R : Nat → Int32) (hk : ∀ h2 q10 q11, mR m (mIm t R) h2 → mFr m hq h2 → AW G x Y_M_link 5 122 h0 P h2 374 [some (.ref m), q1, q2, q3, q4, q5, q6, q7, q8, some (.int z9), q10, q11, q12, q13, q14] []) : ∀ r q a q11 h, q + r = 4 * U → mR m (mIm t a) h → mFr m hq h → mCpL t e r q a = R → AW G x Y_M_link 5 122 h0 P h 288 [some (.ref m), q1, q2, q3, q4, q5, q6, q7, q8, some (.int z9), some (.int (nI q)), q11, q12, q13, q14] [] := by
  have hU := H.hU
  have hUb := H.hUb
  have e4 : 4 * t.1 1 = nI (4 * U) := by rw [hU, show (4 : Int32) = nI 4 from rfl, pk_mul]
  intro r
  induction r with
  | zero =>
    intro q a q11 h hj hR hF he
    have hqq : q = 4 * U := by omega
    subst hqq
    have he : a = R := he
    subst he
    refine aw_iload d_M_link_288 rfl ?_
    refine aw_iconst (v := 4) d_M_link_290 (by decide) ?_
    first | refine aw_aload_n d_M_link_291 rfl rfl ?_ | refine aw_aload_nQ d_M_link_291 rfl rfl ?_ | refine aw_aload_nN d_M_link_291 rfl rfl ?_
    refine aM_get (by assumption) fl_M_126 (by decide) rfl d_M_link_292 ?_
    refine aw_imul d_M_link_295 ?_
    refine aw_icmp_ge (tgt := 374) d_M_link_296 (by decide) (fun c296 => ?_) (fun c296 => ?_)
    · exact hk _ _ _ hR hF
    · exact absurd (show 4 * t.1 1 ≤ nI (4 * U) by rw [e4]; exact nI_le (Nat.le_refl _) (by omega)) c296
  | succ r ih =>
    intro q a q11 h hj hR hF he
    obtain ⟨⟨z1, z2⟩, z3, z4⟩ := H.i1 q (by omega)
    have qb : q < 128 := by omega
    have rm : nI q - nI q / 4 * 4 = nI (q % 4) := pk_rem (a := q) (d := 4) (by omega) (by decide) (by decide)
    rw [mCpL] at he
    by_cases hc : mCpC t q
    · rw [if_pos hc] at he
      refine aw_iload d_M_link_288 rfl ?_
      refine aw_iconst (v := 4) d_M_link_290 (by decide) ?_
      first | refine aw_aload_n d_M_link_291 rfl rfl ?_ | refine aw_aload_nQ d_M_link_291 rfl rfl ?_ | refine aw_aload_nN d_M_link_291 rfl rfl ?_
      refine aM_get (by assumption) fl_M_126 (by decide) rfl d_M_link_292 ?_
      refine aw_imul d_M_link_295 ?_
      refine aw_icmp_ge (tgt := 374) d_M_link_296 (by decide) (fun c296 => ?_) (fun c296 => ?_)
      · exact absurd (show 4 * t.1 1 ≤ nI q from c296) (by rw [e4]; exact nI_ge (by omega) (by omega))
      · refine aw_iconst (v := 0) d_M_link_299 (by decide) ?_
        refine aw_istore d_M_link_300 (by decide) rfl ?_
        refine l_M_cp1 t e U S W T B H hA hq _ _ _ _ _ _ _ _ _ _ _ _ q (by omega) a hc (fun h2 q11 hRa hFa => ?_) (e 5 q) 0 _ (by omega) (by rw [cpy_0]; exact hR) hF
        refine aw_iinc (v := nI (q + 1)) d_M_link_368 rfl (ax_inc q) (by decide) rfl ?_
        refine aw_goto (tgt := 288) d_M_link_371 (by decide) ?_
        exact ih (q + 1) _ _ _ (by omega) hRa hFa he
    · rw [if_neg hc] at he
      refine aw_iload d_M_link_288 rfl ?_
      refine aw_iconst (v := 4) d_M_link_290 (by decide) ?_
      first | refine aw_aload_n d_M_link_291 rfl rfl ?_ | refine aw_aload_nQ d_M_link_291 rfl rfl ?_ | refine aw_aload_nN d_M_link_291 rfl rfl ?_
      refine aM_get (by assumption) fl_M_126 (by decide) rfl d_M_link_292 ?_
      refine aw_imul d_M_link_295 ?_
      refine aw_icmp_ge (tgt := 374) d_M_link_296 (by decide) (fun c296 => ?_) (fun c296 => ?_)
      · exact absurd (show 4 * t.1 1 ≤ nI q from c296) (by rw [e4]; exact nI_ge (by omega) (by omega))
      · refine aw_iconst (v := 0) d_M_link_299 (by decide) ?_
        refine aw_istore d_M_link_300 (by decide) rfl ?_
        refine aw_iload d_M_link_302 rfl ?_
        first | refine aw_aload_n d_M_link_304 rfl rfl ?_ | refine aw_aload_nQ d_M_link_304 rfl rfl ?_ | refine aw_aload_nN d_M_link_304 rfl rfl ?_
        refine aM_get (by assumption) fl_M_22 (by decide) rfl d_M_link_305 ?_
        refine aw_iload d_M_link_308 rfl ?_
        refine aM_iald (by assumption) (by decide) rfl rfl (show q < 128 from qb) (by decide) d_M_link_310 ?_
        refine aw_icmp_ge (tgt := 368) d_M_link_311 (by decide) (fun c311 => ?_) (fun c311 => ?_)
        · refine aw_iinc (v := nI (q + 1)) d_M_link_368 rfl (ax_inc q) (by decide) rfl ?_
          refine aw_goto (tgt := 288) d_M_link_371 (by decide) ?_
          exact ih (q + 1) _ _ _ (by omega) hR hF he
        · first | refine aw_aload_n d_M_link_314 rfl rfl ?_ | refine aw_aload_nQ d_M_link_314 rfl rfl ?_ | refine aw_aload_nN d_M_link_314 rfl rfl ?_
          refine aM_get (by assumption) fl_M_19 (by decide) rfl d_M_link_315 ?_
          refine aw_iload d_M_link_318 rfl ?_
          refine aM_zald (by assumption) (by decide) rfl rfl (show q < 128 from qb) (by decide) d_M_link_320 ?_
          refine aw_if_eq (tgt := 368) d_M_link_321 (by decide) (fun c321 => ?_) (fun c321 => ?_)
          · refine aw_iinc (v := nI (q + 1)) d_M_link_368 rfl (ax_inc q) (by decide) rfl ?_
            refine aw_goto (tgt := 288) d_M_link_371 (by decide) ?_
            exact ih (q + 1) _ _ _ (by omega) hR hF he
          · refine aw_iload d_M_link_324 rfl ?_
            refine aw_iconst (v := 4) d_M_link_326 (by decide) ?_
            refine aw_irem d_M_link_327 (by decide) ?_
            refine aw_iconst (v := 3) d_M_link_328 (by decide) ?_
            refine aw_icmp_ge (tgt := 368) d_M_link_329 (by decide) (fun c329 => ?_) (fun c329 => ?_)
            · refine aw_iinc (v := nI (q + 1)) d_M_link_368 rfl (ax_inc q) (by decide) rfl ?_
              refine aw_goto (tgt := 288) d_M_link_371 (by decide) ?_
              exact ih (q + 1) _ _ _ (by omega) hR hF he
            · exact absurd (show q % 4 < 3 from (nI_ltI (b := 3) (by omega) (by decide)).mp (rm ▸ Int32.not_le.mp c329)) (fun z => hc ⟨c321, z⟩)

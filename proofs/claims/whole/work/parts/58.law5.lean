theorem mSz_n {n : Int32} (h : mSzOk n) : ∃ j : Nat, j ≤ 65536 ∧ n = nI j := nI_of2 (M := 65536) (n := 65536) (by decide) (Int32.not_lt.mpr h.1) h.2
theorem mUnitOk_n {s : mSt} {U B : Nat} {t r d z : Int32} (hB : s.1 5 = nI B) (hBb : B ≤ 262144) (hU : U ≤ 32) (h : mUnitOk s U t r d z) : U < 32 ∧ (∀ i, (mSz (iN t) (iN r) (iN d) (iN z)) i ≤ 65536) ∧ B + (mSz (iN t) (iN r) (iN d) (iN z)) 0 + (mSz (iN t) (iN r) (iN d) (iN z)) 1 + (mSz (iN t) (iN r) (iN d) (iN z)) 2 ≤ 262144 := by
  obtain ⟨h1, h2, h3, h4, h5, h6⟩ := h
  obtain ⟨jt, t1, rfl⟩ := mSz_n h1
  obtain ⟨jr, r1, rfl⟩ := mSz_n h2
  obtain ⟨jd, d1, rfl⟩ := mSz_n h3
  obtain ⟨jz, z1, rfl⟩ := mSz_n h4
  rw [hB, nI_add, nI_add, nI_add] at h6
  have h6 := (nI_leI (b := 262144) (by omega) (by decide)).mp h6
  have e1 : iN (nI jt) = jt := nI_clamp (by omega)
  have e2 : iN (nI jr) = jr := nI_clamp (by omega)
  have e3 : iN (nI jd) = jd := nI_clamp (by omega)
  have e4 : iN (nI jz) = jz := nI_clamp (by omega)
  rw [e1, e2, e3, e4]
  refine ⟨by omega, ?_, h6⟩
  intro i
  match i with
  | 0 => exact t1
  | 1 => exact r1
  | 2 => exact d1
  | i + 3 => exact z1
theorem c_M_unitP (G : ax_G) (h : ax_H) (m : Nat) (s : mSt) (hR : mR m s h) {e : Nat → Nat → Nat} {U S W T B : Nat} (iv : mInv s e U S W T B) (lb t r d z : Int32) : AM G Y_M_unit 1 20 [.ref m, .int lb, .int t, .int r, .int d, .int z] h (fun v h2 => v = some (.int (pIf (mUnitOk s U t r d z) (nI U) (-1))) ∧ mR m (pIf (mUnitOk s U t r d z) (va_up (mUS s U B (mSz (iN t) (iN r) (iN d) (iN z)) lb 4).1 1 (nI (U + 1)), (mUS s U B (mSz (iN t) (iN r) (iN d) (iN z)) lb 4).2) (va_up s.1 0 0, s.2)) h2 ∧ mFr m h h2) := by
  refine am_mono (fun v h2 z => ?_) (c_M_unit G h m s hR U B iv.1.hU iv.1.hUb iv.2.1 iv.1.hB lb t r d z)
  rcases z with ⟨z1, z2, z3, z4⟩ | ⟨z1, z2, z3, z4⟩
  · rw [pIf_t z1, pIf_t z1]
    exact ⟨z2, z3, z4⟩
  · rw [pIf_f z1, pIf_f z1]
    exact ⟨z2, z3, z4⟩
def lawUnit (G : ax_G) (C : lawP) (o m q : Nat) : Prop := ∀ s e U S W T B n h (lb t r d z : Int32), mInv s e U S W T B → mR m s h → C s e U S W T B (n + 1) h → (lb = 0 ∨ lb = 1) → AM G Y_L_unit 4 118 [.ref o, .int lb, .int t, .int r, .int d, .int z] h (fun v h2 => v = some (.int (pIf (mUnitOk s U t r d z) (nI U) (-1))) ∧ ((mUnitOk s U t r d z ∧ C (va_up (mUS s U B (mSz (iN t) (iN r) (iN d) (iN z)) lb 4).1 1 (nI (U + 1)), (mUS s U B (mSz (iN t) (iN r) (iN d) (iN z)) lb 4).2) (va_up (va_up (va_up e 5 (mE5 (e 5) U (mSz (iN t) (iN r) (iN d) (iN z)))) 6 (mE5 (e 6) U (mBg B (mSz (iN t) (iN r) (iN d) (iN z))))) 16 (va_up (e 16) U S)) (U + 1) S W T (B + (mSz (iN t) (iN r) (iN d) (iN z)) 0 + (mSz (iN t) (iN r) (iN d) (iN z)) 1 + (mSz (iN t) (iN r) (iN d) (iN z)) 2) n h2) ∨ (¬ mUnitOk s U t r d z ∧ C s e U S W T B n h2)) ∧ lawF m q h h2)
set_option maxRecDepth 20000 in
theorem law_unit {G : ax_G} {x : ax_X} {h0 : ax_H} {P : Option Value → ax_H → Prop} {nm : String} {C : lawP} {o m q b L : Nat} {xs : Nat → Int32} (hS : ax_S G b L xs) (hLb : L < 2 ^ 31) (hC : lawK C o m q) (i n : Nat) (hi : i + 9 ≤ L) (l5 l6 : Option Value) (hop : lawUnit G C o m q) (h : ax_H) (hI : lawI C m q (n + 1) h) (hk : ∀ h2, lawI C m q n h2 → AW G x (lawY nm) 10 358 h0 P h2 904 [some (.ref b), some (.ref o), some (.ref m), some (.ref q), some (.int (nI i)), l5, l6] []) : AW G x (lawY nm) 10 358 h0 P h 123 [some (.ref b), some (.ref o), some (.ref m), some (.ref q), some (.int (nI i)), l5, l6] [] := by
  obtain ⟨s, e, U, S, W, T, B, f, iv, hR, hc, hq⟩ := hI
  obtain ⟨fs, ho⟩ := hC.1 _ _ _ _ _ _ _ _ _ hc
  first | refine aw_aload_n d_W_law_123 rfl rfl ?_ | refine aw_aload_nQ d_W_law_123 rfl rfl ?_ | refine aw_aload_nN d_W_law_123 rfl rfl ?_
  first | refine aw_aload_n d_W_law_124 rfl rfl ?_ | refine aw_aload_nQ d_W_law_124 rfl rfl ?_ | refine aw_aload_nN d_W_law_124 rfl rfl ?_
  refine aw_iload d_W_law_125 rfl ?_
  refine aw_iconst (v := 1) d_W_law_127 (by decide) ?_
  refine aw_iadd d_W_law_128 ?_
  refine aw_sld hS (show nI i + 1 = nI (i + 1) from nI_add i 1) (show i + 1 < L by omega) hLb d_W_law_129 ?_
  refine aw_if_eq (tgt := 137) d_W_law_130 (by decide) (fun c130 => ?_) (fun c130 => ?_)
  · refine aw_iconst (v := 0) d_W_law_137 (by decide) ?_
    first | refine aw_aload_n d_W_law_138 rfl rfl ?_ | refine aw_aload_nQ d_W_law_138 rfl rfl ?_ | refine aw_aload_nN d_W_law_138 rfl rfl ?_
    refine aw_iload d_W_law_139 rfl ?_
    refine aw_iconst (v := 2) d_W_law_141 (by decide) ?_
    refine aw_iadd d_W_law_142 ?_
    refine aw_sld hS (show nI i + 2 = nI (i + 2) from nI_add i 2) (show i + 2 < L by omega) hLb d_W_law_143 ?_
    first | refine aw_aload_n d_W_law_144 rfl rfl ?_ | refine aw_aload_nQ d_W_law_144 rfl rfl ?_ | refine aw_aload_nN d_W_law_144 rfl rfl ?_
    refine aw_iload d_W_law_145 rfl ?_
    refine aw_iconst (v := 3) d_W_law_147 (by decide) ?_
    refine aw_iadd d_W_law_148 ?_
    refine aw_sld hS (show nI i + 3 = nI (i + 3) from nI_add i 3) (show i + 3 < L by omega) hLb d_W_law_149 ?_
    first | refine aw_aload_n d_W_law_150 rfl rfl ?_ | refine aw_aload_nQ d_W_law_150 rfl rfl ?_ | refine aw_aload_nN d_W_law_150 rfl rfl ?_
    refine aw_iload d_W_law_151 rfl ?_
    refine aw_iconst (v := 4) d_W_law_153 (by decide) ?_
    refine aw_iadd d_W_law_154 ?_
    refine aw_sld hS (show nI i + 4 = nI (i + 4) from nI_add i 4) (show i + 4 < L by omega) hLb d_W_law_155 ?_
    first | refine aw_aload_n d_W_law_156 rfl rfl ?_ | refine aw_aload_nQ d_W_law_156 rfl rfl ?_ | refine aw_aload_nN d_W_law_156 rfl rfl ?_
    refine aw_iload d_W_law_157 rfl ?_
    refine aw_iconst (v := 5) d_W_law_159 (by decide) ?_
    refine aw_iadd d_W_law_160 ?_
    refine aw_sld hS (show nI i + 5 = nI (i + 5) from nI_add i 5) (show i + 5 < L by omega) hLb d_W_law_161 ?_
    refine aw_callV (hop s e U S W T B n h _ _ _ _ _ iv hR hc (by first | exact Or.inl rfl | exact Or.inr rfl)) cl_L ho m_L_unit ml_W_29 rfl rfl (by decide) (by decide) (Nat.le_of_ble_eq_true rfl) d_W_law_162 ?_
    rintro v h1 ⟨rfl, hc1, hF1⟩
    have hR1 := hF1.m hR
    first | refine aw_aload_n d_W_law_165 rfl rfl ?_ | refine aw_aload_nQ d_W_law_165 rfl rfl ?_ | refine aw_aload_nN d_W_law_165 rfl rfl ?_
    first | refine aw_aload_n d_W_law_166 rfl rfl ?_ | refine aw_aload_nQ d_W_law_166 rfl rfl ?_ | refine aw_aload_nN d_W_law_166 rfl rfl ?_
    refine aw_iload d_W_law_167 rfl ?_
    refine aw_iconst (v := 1) d_W_law_169 (by decide) ?_
    refine aw_iadd d_W_law_170 ?_
    refine aw_sld hS (show nI i + 1 = nI (i + 1) from nI_add i 1) (show i + 1 < L by omega) hLb d_W_law_171 ?_
    refine aw_if_eq (tgt := 179) d_W_law_172 (by decide) (fun c172 => ?_) (fun c172 => ?_)
    · refine aw_iconst (v := 0) d_W_law_179 (by decide) ?_
      first | refine aw_aload_n d_W_law_180 rfl rfl ?_ | refine aw_aload_nQ d_W_law_180 rfl rfl ?_ | refine aw_aload_nN d_W_law_180 rfl rfl ?_
      refine aw_iload d_W_law_181 rfl ?_
      refine aw_iconst (v := 2) d_W_law_183 (by decide) ?_
      refine aw_iadd d_W_law_184 ?_
      refine aw_sld hS (show nI i + 2 = nI (i + 2) from nI_add i 2) (show i + 2 < L by omega) hLb d_W_law_185 ?_
      first | refine aw_aload_n d_W_law_186 rfl rfl ?_ | refine aw_aload_nQ d_W_law_186 rfl rfl ?_ | refine aw_aload_nN d_W_law_186 rfl rfl ?_
      refine aw_iload d_W_law_187 rfl ?_
      refine aw_iconst (v := 3) d_W_law_189 (by decide) ?_
      refine aw_iadd d_W_law_190 ?_
      refine aw_sld hS (show nI i + 3 = nI (i + 3) from nI_add i 3) (show i + 3 < L by omega) hLb d_W_law_191 ?_
      first | refine aw_aload_n d_W_law_192 rfl rfl ?_ | refine aw_aload_nQ d_W_law_192 rfl rfl ?_ | refine aw_aload_nN d_W_law_192 rfl rfl ?_
      refine aw_iload d_W_law_193 rfl ?_
      refine aw_iconst (v := 4) d_W_law_195 (by decide) ?_
      refine aw_iadd d_W_law_196 ?_
      refine aw_sld hS (show nI i + 4 = nI (i + 4) from nI_add i 4) (show i + 4 < L by omega) hLb d_W_law_197 ?_
      first | refine aw_aload_n d_W_law_198 rfl rfl ?_ | refine aw_aload_nQ d_W_law_198 rfl rfl ?_ | refine aw_aload_nN d_W_law_198 rfl rfl ?_
      refine aw_iload d_W_law_199 rfl ?_
      refine aw_iconst (v := 5) d_W_law_201 (by decide) ?_
      refine aw_iadd d_W_law_202 ?_
      refine aw_sld hS (show nI i + 5 = nI (i + 5) from nI_add i 5) (show i + 5 < L by omega) hLb d_W_law_203 ?_
      refine aw_callV (c_M_unitP G _ m s hR1 iv _ _ _ _ _) cl_M hR1.obj m_M_unit ml_W_33 rfl rfl (by decide) (by decide) (Nat.le_of_ble_eq_true rfl) d_W_law_204 ?_
      rintro v h2 ⟨rfl, hR2, hF2⟩
      refine aw_icmp_eq (tgt := 904) d_W_law_207 (by decide) (fun c207 => ?_) (fun c207 => ?_)
      · rcases hc1 with ⟨ok, hc1⟩ | ⟨ok, hc1⟩
        · rw [pIf_t ok] at hR2
          exact hk h2 ⟨_, _, _, _, _, _, _, f, iv.unit _ _ (mUnitOk_n iv.2.1 iv.1.hB iv.1.hUb ok).1 (mUnitOk_n iv.2.1 iv.1.hB iv.1.hUb ok).2.1 (mUnitOk_n iv.2.1 iv.1.hB iv.1.hUb ok).2.2, hR2, hC.2.1 _ _ _ _ _ _ _ _ _ _ hF2 hc1, (hF2.2.2 q hC.2.2.2.1).trans (hF1.2.trans hq)⟩
        · rw [pIf_f ok] at hR2
          exact hk h2 ⟨_, e, U, S, W, T, B, f, iv.ret 0, hR2, hC.2.1 _ _ _ _ _ _ _ _ _ _ hF2 (hC.2.2.1 _ _ _ _ _ _ _ _ _ 0 hc1), (hF2.2.2 q hC.2.2.2.1).trans (hF1.2.trans hq)⟩
      · exact absurd rfl c207
    · exact absurd c130 c172
  · refine aw_iconst (v := 1) d_W_law_133 (by decide) ?_
    refine aw_goto (tgt := 138) d_W_law_134 (by decide) ?_
    first | refine aw_aload_n d_W_law_138 rfl rfl ?_ | refine aw_aload_nQ d_W_law_138 rfl rfl ?_ | refine aw_aload_nN d_W_law_138 rfl rfl ?_
    refine aw_iload d_W_law_139 rfl ?_
    refine aw_iconst (v := 2) d_W_law_141 (by decide) ?_
    refine aw_iadd d_W_law_142 ?_
    refine aw_sld hS (show nI i + 2 = nI (i + 2) from nI_add i 2) (show i + 2 < L by omega) hLb d_W_law_143 ?_
    first | refine aw_aload_n d_W_law_144 rfl rfl ?_ | refine aw_aload_nQ d_W_law_144 rfl rfl ?_ | refine aw_aload_nN d_W_law_144 rfl rfl ?_
    refine aw_iload d_W_law_145 rfl ?_
    refine aw_iconst (v := 3) d_W_law_147 (by decide) ?_
    refine aw_iadd d_W_law_148 ?_
    refine aw_sld hS (show nI i + 3 = nI (i + 3) from nI_add i 3) (show i + 3 < L by omega) hLb d_W_law_149 ?_
    first | refine aw_aload_n d_W_law_150 rfl rfl ?_ | refine aw_aload_nQ d_W_law_150 rfl rfl ?_ | refine aw_aload_nN d_W_law_150 rfl rfl ?_
    refine aw_iload d_W_law_151 rfl ?_
    refine aw_iconst (v := 4) d_W_law_153 (by decide) ?_
    refine aw_iadd d_W_law_154 ?_
    refine aw_sld hS (show nI i + 4 = nI (i + 4) from nI_add i 4) (show i + 4 < L by omega) hLb d_W_law_155 ?_
    first | refine aw_aload_n d_W_law_156 rfl rfl ?_ | refine aw_aload_nQ d_W_law_156 rfl rfl ?_ | refine aw_aload_nN d_W_law_156 rfl rfl ?_
    refine aw_iload d_W_law_157 rfl ?_
    refine aw_iconst (v := 5) d_W_law_159 (by decide) ?_
    refine aw_iadd d_W_law_160 ?_
    refine aw_sld hS (show nI i + 5 = nI (i + 5) from nI_add i 5) (show i + 5 < L by omega) hLb d_W_law_161 ?_
    refine aw_callV (hop s e U S W T B n h _ _ _ _ _ iv hR hc (by first | exact Or.inl rfl | exact Or.inr rfl)) cl_L ho m_L_unit ml_W_29 rfl rfl (by decide) (by decide) (Nat.le_of_ble_eq_true rfl) d_W_law_162 ?_
    rintro v h1 ⟨rfl, hc1, hF1⟩
    have hR1 := hF1.m hR
    first | refine aw_aload_n d_W_law_165 rfl rfl ?_ | refine aw_aload_nQ d_W_law_165 rfl rfl ?_ | refine aw_aload_nN d_W_law_165 rfl rfl ?_
    first | refine aw_aload_n d_W_law_166 rfl rfl ?_ | refine aw_aload_nQ d_W_law_166 rfl rfl ?_ | refine aw_aload_nN d_W_law_166 rfl rfl ?_
    refine aw_iload d_W_law_167 rfl ?_
    refine aw_iconst (v := 1) d_W_law_169 (by decide) ?_
    refine aw_iadd d_W_law_170 ?_
    refine aw_sld hS (show nI i + 1 = nI (i + 1) from nI_add i 1) (show i + 1 < L by omega) hLb d_W_law_171 ?_
    refine aw_if_eq (tgt := 179) d_W_law_172 (by decide) (fun c172 => ?_) (fun c172 => ?_)
    · exact absurd c172 c130
    · refine aw_iconst (v := 1) d_W_law_175 (by decide) ?_
      refine aw_goto (tgt := 180) d_W_law_176 (by decide) ?_
      first | refine aw_aload_n d_W_law_180 rfl rfl ?_ | refine aw_aload_nQ d_W_law_180 rfl rfl ?_ | refine aw_aload_nN d_W_law_180 rfl rfl ?_
      refine aw_iload d_W_law_181 rfl ?_
      refine aw_iconst (v := 2) d_W_law_183 (by decide) ?_
      refine aw_iadd d_W_law_184 ?_
      refine aw_sld hS (show nI i + 2 = nI (i + 2) from nI_add i 2) (show i + 2 < L by omega) hLb d_W_law_185 ?_
      first | refine aw_aload_n d_W_law_186 rfl rfl ?_ | refine aw_aload_nQ d_W_law_186 rfl rfl ?_ | refine aw_aload_nN d_W_law_186 rfl rfl ?_
      refine aw_iload d_W_law_187 rfl ?_
      refine aw_iconst (v := 3) d_W_law_189 (by decide) ?_
      refine aw_iadd d_W_law_190 ?_
      refine aw_sld hS (show nI i + 3 = nI (i + 3) from nI_add i 3) (show i + 3 < L by omega) hLb d_W_law_191 ?_
      first | refine aw_aload_n d_W_law_192 rfl rfl ?_ | refine aw_aload_nQ d_W_law_192 rfl rfl ?_ | refine aw_aload_nN d_W_law_192 rfl rfl ?_
      refine aw_iload d_W_law_193 rfl ?_
      refine aw_iconst (v := 4) d_W_law_195 (by decide) ?_
      refine aw_iadd d_W_law_196 ?_
      refine aw_sld hS (show nI i + 4 = nI (i + 4) from nI_add i 4) (show i + 4 < L by omega) hLb d_W_law_197 ?_
      first | refine aw_aload_n d_W_law_198 rfl rfl ?_ | refine aw_aload_nQ d_W_law_198 rfl rfl ?_ | refine aw_aload_nN d_W_law_198 rfl rfl ?_
      refine aw_iload d_W_law_199 rfl ?_
      refine aw_iconst (v := 5) d_W_law_201 (by decide) ?_
      refine aw_iadd d_W_law_202 ?_
      refine aw_sld hS (show nI i + 5 = nI (i + 5) from nI_add i 5) (show i + 5 < L by omega) hLb d_W_law_203 ?_
      refine aw_callV (c_M_unitP G _ m s hR1 iv _ _ _ _ _) cl_M hR1.obj m_M_unit ml_W_33 rfl rfl (by decide) (by decide) (Nat.le_of_ble_eq_true rfl) d_W_law_204 ?_
      rintro v h2 ⟨rfl, hR2, hF2⟩
      refine aw_icmp_eq (tgt := 904) d_W_law_207 (by decide) (fun c207 => ?_) (fun c207 => ?_)
      · rcases hc1 with ⟨ok, hc1⟩ | ⟨ok, hc1⟩
        · rw [pIf_t ok] at hR2
          exact hk h2 ⟨_, _, _, _, _, _, _, f, iv.unit _ _ (mUnitOk_n iv.2.1 iv.1.hB iv.1.hUb ok).1 (mUnitOk_n iv.2.1 iv.1.hB iv.1.hUb ok).2.1 (mUnitOk_n iv.2.1 iv.1.hB iv.1.hUb ok).2.2, hR2, hC.2.1 _ _ _ _ _ _ _ _ _ _ hF2 hc1, (hF2.2.2 q hC.2.2.2.1).trans (hF1.2.trans hq)⟩
        · rw [pIf_f ok] at hR2
          exact hk h2 ⟨_, e, U, S, W, T, B, f, iv.ret 0, hR2, hC.2.1 _ _ _ _ _ _ _ _ _ _ hF2 (hC.2.2.1 _ _ _ _ _ _ _ _ _ 0 hc1), (hF2.2.2 q hC.2.2.2.1).trans (hF1.2.trans hq)⟩
      · exact absurd rfl c207
def lawClear (G : ax_G) (C : lawP) (o m q : Nat) : Prop := ∀ s e U S W T B n h, mInv s e U S W T B → mR m s h → C s e U S W T B (n + 1) h → AM G Y_L_clear 0 0 [.ref o] h (fun v h2 => v = none ∧ C (va_up (va_up (va_up (va_up (va_up (va_up (va_up s.1 0 0) 1 0) 2 0) 3 0) 4 0) 5 0) 36 0, s.2) e 0 0 0 0 0 n h2 ∧ lawF m q h h2)
set_option maxRecDepth 20000 in
theorem law_clear {G : ax_G} {x : ax_X} {h0 : ax_H} {P : Option Value → ax_H → Prop} {nm : String} {C : lawP} {o m q b L : Nat} {xs : Nat → Int32} (hS : ax_S G b L xs) (hLb : L < 2 ^ 31) (hC : lawK C o m q) (i n : Nat) (hi : i + 9 ≤ L) (l5 l6 : Option Value) (hop : lawClear G C o m q) (h : ax_H) (hI : lawI C m q (n + 1) h) (hk : ∀ h2, lawI C m q n h2 → AW G x (lawY nm) 10 358 h0 P h2 904 [some (.ref b), some (.ref o), some (.ref m), some (.ref q), some (.int (nI i)), l5, l6] []) : AW G x (lawY nm) 10 358 h0 P h 112 [some (.ref b), some (.ref o), some (.ref m), some (.ref q), some (.int (nI i)), l5, l6] [] := by
  obtain ⟨s, e, U, S, W, T, B, f, iv, hR, hc, hq⟩ := hI
  obtain ⟨fs, ho⟩ := hC.1 _ _ _ _ _ _ _ _ _ hc
  first | refine aw_aload_n d_W_law_112 rfl rfl ?_ | refine aw_aload_nQ d_W_law_112 rfl rfl ?_ | refine aw_aload_nN d_W_law_112 rfl rfl ?_
  refine aw_callV (hop s e U S W T B n h iv hR hc) cl_L ho m_L_clear ml_W_25 rfl rfl (by decide) (by decide) (Nat.le_of_ble_eq_true rfl) d_W_law_113 ?_
  rintro v h1 ⟨rfl, hc1, hF1⟩
  have hR1 := hF1.m hR
  first | refine aw_aload_n d_W_law_116 rfl rfl ?_ | refine aw_aload_nQ d_W_law_116 rfl rfl ?_ | refine aw_aload_nN d_W_law_116 rfl rfl ?_
  refine aw_callV (c_M_clear G _ m s hR1) cl_M hR1.obj m_M_clear ml_W_28 rfl rfl (by decide) (by decide) (Nat.le_of_ble_eq_true rfl) d_W_law_117 ?_
  rintro v h2 ⟨rfl, hR2, hF2⟩
  refine aw_goto (tgt := 904) d_W_law_120 (by decide) ?_
  exact hk h2 ⟨_, e, 0, 0, 0, 0, 0, f, iv.clear, hR2, hC.2.1 _ _ _ _ _ _ _ _ _ _ hF2 hc1, (hF2.2.2 q hC.2.2.2.1).trans (hF1.2.trans hq)⟩

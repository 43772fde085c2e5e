abbrev iN (z : Int32) : Nat := z.toNatClampNeg
theorem i_sub2 (a b : Int32) : a - 2 - (-2 - b) = a + b := by
  rw [Int32.sub_eq_add_neg, Int32.sub_eq_add_neg, Int32.sub_eq_add_neg, Int32.neg_add, Int32.sub_eq_add_neg, Int32.neg_neg (a := b), Int32.add_assoc, ← Int32.add_assoc (-2), show (-2 + - -2 : Int32) = 0 from by decide, Int32.zero_add]
/-- the section that w waits for, as unit * 4 + section; 128 for none -/
def mTq (tk : Nat → Int32) (g : mTab) (e : Nat → Nat → Nat) (w : Nat) : Nat := if e 22 w = 0 then 128 else if e 22 w < 5 then 4 * e 17 w + (e 22 w - 1) else if mStands tk g (e 22 w - 5) < 0 then 128 else 4 * e 11 (iN (mStands tk g (e 22 w - 5))) + e 13 (iN (mStands tk g (e 22 w - 5)))
abbrev mHit2 (tq src : Nat → Nat) (w : Nat) (a : Nat → Int32) : Prop := ¬ a (src w) = 0 ∧ tq w < 128 ∧ a (tq w) = 0
def mPassL (tq src : Nat → Nat) : Nat → Nat → (Nat → Int32) × Int32 → (Nat → Int32) × Int32
  | 0, _, a => a
  | r + 1, w, a => mPassL tq src r (w + 1) (if mHit2 tq src w a.1 then (va_up a.1 (tq w) 1, 1) else a)
def mTurns (tq src : Nat → Nat) (W : Nat) : Nat → (Nat → Int32) → (Nat → Int32)
  | 0, a => a
  | t + 1, a => if (mPassL tq src W 0 (a, 0)).2 = 0 then (mPassL tq src W 0 (a, 0)).1 else mTurns tq src W t (mPassL tq src W 0 (a, 0)).1
abbrev mSrc (e : Nat → Nat → Nat) (w : Nat) : Nat := 4 * e 17 w + e 18 w
abbrev mNd (s : mSt) (a : Nat → Int32) : mSt := (s.1, va_up s.2.1 4 a, s.2.2)
theorem c_M_standsForE (G : ax_G) (h : ax_H) (m : Nat) (s : mSt) (hR : mR m s h) (e : Nat → Nat → Nat) (U S : Nat) (hUb : U ≤ 32) (hS : s.1 2 = nI S) (hSb : S ≤ 2048) (hI : mI2 s e U S) (k : Nat) (hk : k < S) (z : Int32) (hz : z = nI k) : AM G Y_M_standsFor 2 46 [.ref m, .int z] h (fun v h2 => h2 = h ∧ v = some (.int (mStands (s.2.1 3) (mT s e S) k))) := by
  subst hz
  exact c_M_standsFor G h m s hR e U S hUb hS hSb hI k hk
theorem mUs {A : Type} (f : Nat → A) (k : Nat) : va_up f k (f k) = f := by
  funext u
  by_cases h : u = k
  · rw [h, va_up_self]
  · rw [va_up_ne _ _ h]
theorem i_m1 {k : Nat} (h : k < 2 ^ 31) : ¬ nI k = -1 := fun q => absurd (nI_pos' h) (by rw [q]; decide)
theorem i_m2 {c : Nat} (h : c < 4) : ¬ (-2 - nI c : Int32) = -1 := by
  match c, h with
  | 0, _ => decide
  | 1, _ => decide
  | 2, _ => decide
  | 3, _ => decide
theorem i_m3 {c : Nat} (h : c < 4) : ¬ 0 ≤ (-2 - nI c : Int32) := by
  match c, h with
  | 0, _ => decide
  | 1, _ => decide
  | 2, _ => decide
  | 3, _ => decide
theorem i_p1 {k : Nat} {z : Int32} (h : k < 2 ^ 31) (hz : z = nI k) : 0 ≤ z := hz ▸ nI_pos' h
set_option maxRecDepth 20000 in
theorem t_M_pass {G : ax_G} {x : ax_X} {h0 : ax_H} {P : Option Value → ax_H → Prop} {m : Nat} (s : mSt) (z1 z2 n : Int32) (w : Nat) (o5 o6 : Option Value) (a : Nat → Int32) (tq : Nat) (z7 : Int32) (hz : (z7 = -1 ∧ ¬ tq < 128) ∨ (z7 = nI tq ∧ tq < 128)) (h : ax_H) (hR : mR m (mNd s a) h) (k0 : ¬ (tq < 128 ∧ a tq = 0) → AW G x Y_M_findNeeded 3 68 h0 P h 253 [some (.ref m), some (.int z1), some (.int z2), some (.int n), some (.int (nI w)), o5, o6, some (.int z7)] []) (k1 : tq < 128 ∧ a tq = 0 → ∀ h2, mR m (mNd s (va_up a tq 1)) h2 → mFr m h h2 → AW G x Y_M_findNeeded 3 68 h0 P h2 253 [some (.ref m), some (.int z1), some (.int z2), some (.int 1), some (.int (nI w)), o5, o6, some (.int z7)] []) : AW G x Y_M_findNeeded 3 68 h0 P h 225 [some (.ref m), some (.int z1), some (.int z2), some (.int n), some (.int (nI w)), o5, o6, some (.int z7)] [] := by
  rcases hz with ⟨rfl, hz⟩ | ⟨rfl, hz⟩
  ·
    refine aw_iload d_M_findNeeded_225 rfl ?_
    refine aw_if_lt (tgt := 253) d_M_findNeeded_227 (by decide) (fun c227 => ?_) (fun c227 => ?_)
    · exact k0 (fun q => hz q.1)
    · exact absurd (by decide) c227
  ·
    refine aw_iload d_M_findNeeded_225 rfl ?_
    refine aw_if_lt (tgt := 253) d_M_findNeeded_227 (by decide) (fun c227 => ?_) (fun c227 => ?_)
    · exact absurd c227 (nI_pos (by omega))
    · first | refine aw_aload_n d_M_findNeeded_230 rfl rfl ?_ | refine aw_aload_nQ d_M_findNeeded_230 rfl rfl ?_ | refine aw_aload_nN d_M_findNeeded_230 rfl rfl ?_
      refine aM_get (by assumption) fl_M_19 (by decide) rfl d_M_findNeeded_231 ?_
      refine aw_iload d_M_findNeeded_234 rfl ?_
      refine aM_zald (by assumption) (by decide) rfl rfl hz (by decide) d_M_findNeeded_236 ?_
      refine aw_if_eq (tgt := 243) d_M_findNeeded_237 (by decide) (fun c237 => ?_) (fun c237 => ?_)
      · first | refine aw_aload_n d_M_findNeeded_243 rfl rfl ?_ | refine aw_aload_nQ d_M_findNeeded_243 rfl rfl ?_ | refine aw_aload_nN d_M_findNeeded_243 rfl rfl ?_
        refine aM_get (by assumption) fl_M_19 (by decide) rfl d_M_findNeeded_244 ?_
        refine aw_iload d_M_findNeeded_247 rfl ?_
        refine aw_iconst (v := 1) d_M_findNeeded_249 (by decide) ?_
        refine aM_zast (by assumption) (by decide) rfl rfl hz (by decide) d_M_findNeeded_250 (fun g250 hR250 hF250 => ?_)
        refine aw_iconst (v := 1) d_M_findNeeded_251 (by decide) ?_
        refine aw_istore_n d_M_findNeeded_252 rfl (by decide) rfl ?_
        refine k1 ⟨hz, c237⟩ _ ?_ hF250
        have hR250 : mR m (s.1, va_up (va_up s.2.1 4 a) 4 (va_up a tq (1 &&& 1)), s.2.2) g250 := hR250
        rw [bx_uu] at hR250
        exact hR250
      · refine aw_goto (tgt := 253) d_M_findNeeded_240 (by decide) ?_
        exact k0 (fun q => c237 q.2)
set_option maxRecDepth 20000 in
theorem l_M_pass {G : ax_G} {x : ax_X} {h0 : ax_H} {P : Option Value → ax_H → Prop} {m : Nat} (s : mSt) (e : Nat → Nat → Nat) (U S W : Nat) (hU : s.1 1 = nI U) (hUb : U ≤ 32) (hS : s.1 2 = nI S) (hSb : S ≤ 2048) (hW : s.1 3 = nI W) (hWb : W ≤ 4096) (hI : mI2 s e U S) (hI3 : mI3 s e S) (hI4 : mI4 s e U S W) (z1 z2 : Int32) (hq : ax_H) (R : (Nat → Int32) × Int32) (hk : ∀ h2 o4 o5 o6 o7, mR m (mNd s R.1) h2 → mFr m hq h2 → AW G x Y_M_findNeeded 3 68 h0 P h2 259 [some (.ref m), some (.int z1), some (.int z2), some (.int R.2), o4, o5, o6, o7] []) : ∀ r w (a : (Nat → Int32) × Int32) o5 o6 o7 h, w + r = W → mR m (mNd s a.1) h → mFr m hq h → mPassL (mTq (s.2.1 3) (mT s e S) e) (mSrc e) r w a = R → AW G x Y_M_findNeeded 3 68 h0 P h 91 [some (.ref m), some (.int z1), some (.int z2), some (.int a.2), some (.int (nI w)), o5, o6, o7] [] := by
  intro r
  induction r with
  | zero =>
    intro w a o5 o6 o7 h hw hR hF he
    have hww : w = W := by omega
    subst hww
    have he : a = R := he
    subst he
    refine aw_iload d_M_findNeeded_91 rfl ?_
    first | refine aw_aload_n d_M_findNeeded_93 rfl rfl ?_ | refine aw_aload_nQ d_M_findNeeded_93 rfl rfl ?_ | refine aw_aload_nN d_M_findNeeded_93 rfl rfl ?_
    refine aM_get (by assumption) fl_M_132 (by decide) rfl d_M_findNeeded_94 ?_
    refine aw_icmp_ge (tgt := 259) d_M_findNeeded_97 (by decide) (fun c97 => ?_) (fun c97 => ?_)
    · exact hk _ _ _ _ _ hR hF
    · exact absurd (show s.1 3 ≤ nI w by rw [hW]; exact nI_le (Nat.le_refl _) (by omega)) c97
  | succ r ih =>
    intro w a o5 o6 o7 h hw hR hF he
    obtain ⟨⟨u1, u2⟩, ⟨v1, v2⟩, hwt⟩ := hI4 w (by omega)
    have ks : w < 4096 := by omega
    have i1 : 4 * s.2.1 17 w + s.2.1 18 w = nI (mSrc e w) := by rw [u1, v1, show (4 : Int32) = nI 4 from rfl, pk_mul, nI_add]
    rw [mPassL] at he
    refine aw_iload d_M_findNeeded_91 rfl ?_
    first | refine aw_aload_n d_M_findNeeded_93 rfl rfl ?_ | refine aw_aload_nQ d_M_findNeeded_93 rfl rfl ?_ | refine aw_aload_nN d_M_findNeeded_93 rfl rfl ?_
    refine aM_get (by assumption) fl_M_132 (by decide) rfl d_M_findNeeded_94 ?_
    refine aw_icmp_ge (tgt := 259) d_M_findNeeded_97 (by decide) (fun c97 => ?_) (fun c97 => ?_)
    · exact absurd c97 (by rw [show s.1 3 = nI W from hW]; exact nI_ge (by omega) (by omega))
    · first | refine aw_aload_n d_M_findNeeded_100 rfl rfl ?_ | refine aw_aload_nQ d_M_findNeeded_100 rfl rfl ?_ | refine aw_aload_nN d_M_findNeeded_100 rfl rfl ?_
      refine aM_get (by assumption) fl_M_62 (by decide) rfl d_M_findNeeded_101 ?_
      refine aw_iload d_M_findNeeded_104 rfl ?_
      refine aM_iald (by assumption) (by decide) rfl rfl (show w < 4096 from ks) (by decide) d_M_findNeeded_106 ?_
      refine aw_istore d_M_findNeeded_107 (by decide) rfl ?_
      first | refine aw_aload_n d_M_findNeeded_109 rfl rfl ?_ | refine aw_aload_nQ d_M_findNeeded_109 rfl rfl ?_ | refine aw_aload_nN d_M_findNeeded_109 rfl rfl ?_
      refine aM_get (by assumption) fl_M_19 (by decide) rfl d_M_findNeeded_110 ?_
      refine aw_iconst (v := 4) d_M_findNeeded_113 (by decide) ?_
      refine aw_iload d_M_findNeeded_114 rfl ?_
      refine aw_imul d_M_findNeeded_116 ?_
      first | refine aw_aload_n d_M_findNeeded_117 rfl rfl ?_ | refine aw_aload_nQ d_M_findNeeded_117 rfl rfl ?_ | refine aw_aload_nN d_M_findNeeded_117 rfl rfl ?_
      refine aM_get (by assumption) fl_M_65 (by decide) rfl d_M_findNeeded_118 ?_
      refine aw_iload d_M_findNeeded_121 rfl ?_
      refine aM_iald (by assumption) (by decide) rfl rfl (show w < 4096 from ks) (by decide) d_M_findNeeded_123 ?_
      refine aw_iadd d_M_findNeeded_124 ?_
      refine aM_zald (by assumption) (by decide) rfl i1 (show 4 * e 17 w + e 18 w < 128 by omega) (by decide) d_M_findNeeded_125 ?_
      refine aw_if_eq (tgt := 253) d_M_findNeeded_126 (by decide) (fun c126 => ?_) (fun c126 => ?_)
      · refine aw_iinc (v := nI (w + 1)) d_M_findNeeded_253 rfl (ax_inc w) (by decide) rfl ?_
        refine aw_goto (tgt := 91) d_M_findNeeded_256 (by decide) ?_
        rw [if_neg (fun q : mHit2 (mTq (s.2.1 3) (mT s e S) e) (mSrc e) w a.1 => q.1 c126)] at he
        exact ih (w + 1) a _ _ _ _ (by omega) hR hF he
      · first | refine aw_aload_n d_M_findNeeded_129 rfl rfl ?_ | refine aw_aload_nQ d_M_findNeeded_129 rfl rfl ?_ | refine aw_aload_nN d_M_findNeeded_129 rfl rfl ?_
        refine aM_get (by assumption) fl_M_77 (by decide) rfl d_M_findNeeded_130 ?_
        refine aw_iload d_M_findNeeded_133 rfl ?_
        refine aM_iald (by assumption) (by decide) rfl rfl (show w < 4096 from ks) (by decide) d_M_findNeeded_135 ?_
        refine aw_iconst (v := (-1)) d_M_findNeeded_136 (by decide) ?_
        refine aw_icmp_ne (tgt := 143) d_M_findNeeded_137 (by decide) (fun c137 => ?_) (fun c137 => ?_)
        · first | refine aw_aload_n d_M_findNeeded_143 rfl rfl ?_ | refine aw_aload_nQ d_M_findNeeded_143 rfl rfl ?_ | refine aw_aload_nN d_M_findNeeded_143 rfl rfl ?_
          refine aM_get (by assumption) fl_M_77 (by decide) rfl d_M_findNeeded_144 ?_
          refine aw_iload d_M_findNeeded_147 rfl ?_
          refine aM_iald (by assumption) (by decide) rfl rfl (show w < 4096 from ks) (by decide) d_M_findNeeded_149 ?_
          refine aw_if_ge (tgt := 157) d_M_findNeeded_150 (by decide) (fun c150 => ?_) (fun c150 => ?_)
          · obtain ⟨k, h1, h2, h3⟩ : ∃ k, k < S ∧ e 22 w = k + 5 ∧ s.2.1 22 w = nI k := (hwt.resolve_left (fun q => c137 q.2)).resolve_left (fun ⟨c, q1, _, q3⟩ => i_m3 q1 (q3 ▸ c150))
            first | refine aw_aload_n d_M_findNeeded_157 rfl rfl ?_ | refine aw_aload_nQ d_M_findNeeded_157 rfl rfl ?_ | refine aw_aload_nN d_M_findNeeded_157 rfl rfl ?_
            first | refine aw_aload_n d_M_findNeeded_158 rfl rfl ?_ | refine aw_aload_nQ d_M_findNeeded_158 rfl rfl ?_ | refine aw_aload_nN d_M_findNeeded_158 rfl rfl ?_
            refine aM_get (by assumption) fl_M_77 (by decide) rfl d_M_findNeeded_159 ?_
            refine aw_iload d_M_findNeeded_162 rfl ?_
            refine aM_iald (by assumption) (by decide) rfl rfl (show w < 4096 from ks) (by decide) d_M_findNeeded_164 ?_
            refine aw_callV (c_M_standsForE G _ m _ hR e U S hUb hS hSb hI k h1 _ h3) cl_M (mR.obj (by assumption)) m_M_standsFor ml_M_188 rfl rfl (by decide) (by decide) (Nat.le_of_ble_eq_true rfl) d_M_findNeeded_165 ?_
            rintro v h' ⟨rfl, rfl⟩
            refine aw_istore d_M_findNeeded_168 (by decide) rfl ?_
            first | refine aw_aload_n d_M_findNeeded_170 rfl rfl ?_ | refine aw_aload_nQ d_M_findNeeded_170 rfl rfl ?_ | refine aw_aload_nN d_M_findNeeded_170 rfl rfl ?_
            refine aM_get (by assumption) fl_M_77 (by decide) rfl d_M_findNeeded_171 ?_
            refine aw_iload d_M_findNeeded_174 rfl ?_
            refine aM_iald (by assumption) (by decide) rfl rfl (show w < 4096 from ks) (by decide) d_M_findNeeded_176 ?_
            refine aw_if_ge (tgt := 197) d_M_findNeeded_177 (by decide) (fun c177 => ?_) (fun c177 => ?_)
            · refine aw_iload d_M_findNeeded_197 rfl ?_
              refine aw_if_ge (tgt := 206) d_M_findNeeded_199 (by decide) (fun c199 => ?_) (fun c199 => ?_)
              · obtain ⟨j, j1, j2, j3⟩ := (mStands_lab (s.2.1 3) (mT s e S) k h1).resolve_left (fun q => absurd c199 (Int32.not_le.mpr q.1))
                obtain ⟨y1, y2⟩ := hI j j1
                obtain ⟨y3, y4⟩ := hI3.lab j1 j3
                have jb : j < 2048 := Nat.lt_of_lt_of_le j1 hSb
                have ev : 4 * s.2.1 11 j + s.2.1 13 j = nI (4 * e 11 j + e 13 j) := by rw [y1, y4, show (4 : Int32) = nI 4 from rfl, pk_mul, nI_add]
                refine aw_iconst (v := 4) d_M_findNeeded_206 (by decide) ?_
                first | refine aw_aload_n d_M_findNeeded_207 rfl rfl ?_ | refine aw_aload_nQ d_M_findNeeded_207 rfl rfl ?_ | refine aw_aload_nN d_M_findNeeded_207 rfl rfl ?_
                refine aM_get (by assumption) fl_M_44 (by decide) rfl d_M_findNeeded_208 ?_
                refine aw_iload d_M_findNeeded_211 rfl ?_
                refine aM_iald (by assumption) (by decide) rfl j2 jb (by decide) d_M_findNeeded_213 ?_
                refine aw_imul d_M_findNeeded_214 ?_
                first | refine aw_aload_n d_M_findNeeded_215 rfl rfl ?_ | refine aw_aload_nQ d_M_findNeeded_215 rfl rfl ?_ | refine aw_aload_nN d_M_findNeeded_215 rfl rfl ?_
                refine aM_get (by assumption) fl_M_50 (by decide) rfl d_M_findNeeded_216 ?_
                refine aw_iload d_M_findNeeded_219 rfl ?_
                refine aM_iald (by assumption) (by decide) rfl j2 jb (by decide) d_M_findNeeded_221 ?_
                refine aw_iadd d_M_findNeeded_222 ?_
                refine aw_istore d_M_findNeeded_223 (by decide) rfl ?_
                have eq : mTq (s.2.1 3) (mT s e S) e w = 4 * e 11 j + e 13 j := by rw [mTq, h2, if_neg (by omega), if_neg (by omega)]; exact (if_neg (Int32.not_lt.mpr c199)).trans (by rw [show k + 5 - 5 = k from rfl, j2, iN, nI_clamp (by omega)])
                refine t_M_pass s z1 z2 a.2 w _ _ a.1 (mTq (s.2.1 3) (mT s e S) e w) _ (Or.inr ⟨ev.trans (congrArg nI eq.symm), by rw [eq]; omega⟩) _ hR (fun k0 => ?_) (fun k1 h2 hR2 hF2 => ?_)
                · refine aw_iinc (v := nI (w + 1)) d_M_findNeeded_253 rfl (ax_inc w) (by decide) rfl ?_
                  refine aw_goto (tgt := 91) d_M_findNeeded_256 (by decide) ?_
                  rw [if_neg (fun q : mHit2 (mTq (s.2.1 3) (mT s e S) e) (mSrc e) w a.1 => k0 ⟨q.2.1, q.2.2⟩)] at he
                  exact ih (w + 1) a _ _ _ _ (by omega) hR hF he
                · refine aw_iinc (v := nI (w + 1)) d_M_findNeeded_253 rfl (ax_inc w) (by decide) rfl ?_
                  refine aw_goto (tgt := 91) d_M_findNeeded_256 (by decide) ?_
                  rw [if_pos (show mHit2 (mTq (s.2.1 3) (mT s e S) e) (mSrc e) w a.1 from ⟨c126, k1⟩)] at he
                  exact ih (w + 1) _ _ _ _ _ (by omega) hR2 (hF.tr hF2) he
              · refine aw_iconst (v := (-1)) d_M_findNeeded_202 (by decide) ?_
                refine aw_goto (tgt := 223) d_M_findNeeded_203 (by decide) ?_
                refine aw_istore d_M_findNeeded_223 (by decide) rfl ?_
                have eq : mTq (s.2.1 3) (mT s e S) e w = 128 := by rw [mTq, h2, if_neg (by omega), if_neg (by omega)]; exact if_pos (Int32.not_le.mp c199)
                refine t_M_pass s z1 z2 a.2 w _ _ a.1 (mTq (s.2.1 3) (mT s e S) e w) _ (Or.inl ⟨rfl, by rw [eq]; decide⟩) _ hR (fun k0 => ?_) (fun k1 h2 hR2 hF2 => ?_)
                · refine aw_iinc (v := nI (w + 1)) d_M_findNeeded_253 rfl (ax_inc w) (by decide) rfl ?_
                  refine aw_goto (tgt := 91) d_M_findNeeded_256 (by decide) ?_
                  rw [if_neg (fun q : mHit2 (mTq (s.2.1 3) (mT s e S) e) (mSrc e) w a.1 => k0 ⟨q.2.1, q.2.2⟩)] at he
                  exact ih (w + 1) a _ _ _ _ (by omega) hR hF he
                · refine aw_iinc (v := nI (w + 1)) d_M_findNeeded_253 rfl (ax_inc w) (by decide) rfl ?_
                  refine aw_goto (tgt := 91) d_M_findNeeded_256 (by decide) ?_
                  rw [if_pos (show mHit2 (mTq (s.2.1 3) (mT s e S) e) (mSrc e) w a.1 from ⟨c126, k1⟩)] at he
                  exact ih (w + 1) _ _ _ _ _ (by omega) hR2 (hF.tr hF2) he
            · exact absurd c150 c177
          · refine aw_iconst (v := (-1)) d_M_findNeeded_153 (by decide) ?_
            refine aw_goto (tgt := 168) d_M_findNeeded_154 (by decide) ?_
            refine aw_istore d_M_findNeeded_168 (by decide) rfl ?_
            first | refine aw_aload_n d_M_findNeeded_170 rfl rfl ?_ | refine aw_aload_nQ d_M_findNeeded_170 rfl rfl ?_ | refine aw_aload_nN d_M_findNeeded_170 rfl rfl ?_
            refine aM_get (by assumption) fl_M_77 (by decide) rfl d_M_findNeeded_171 ?_
            refine aw_iload d_M_findNeeded_174 rfl ?_
            refine aM_iald (by assumption) (by decide) rfl rfl (show w < 4096 from ks) (by decide) d_M_findNeeded_176 ?_
            refine aw_if_ge (tgt := 197) d_M_findNeeded_177 (by decide) (fun c177 => ?_) (fun c177 => ?_)
            · exact absurd c177 c150
            · refine aw_iconst (v := 4) d_M_findNeeded_180 (by decide) ?_
              refine aw_iload d_M_findNeeded_181 rfl ?_
              refine aw_imul d_M_findNeeded_183 ?_
              refine aw_iconst (v := 2) d_M_findNeeded_184 (by decide) ?_
              refine aw_isub d_M_findNeeded_185 ?_
              first | refine aw_aload_n d_M_findNeeded_186 rfl rfl ?_ | refine aw_aload_nQ d_M_findNeeded_186 rfl rfl ?_ | refine aw_aload_nN d_M_findNeeded_186 rfl rfl ?_
              refine aM_get (by assumption) fl_M_77 (by decide) rfl d_M_findNeeded_187 ?_
              refine aw_iload d_M_findNeeded_190 rfl ?_
              refine aM_iald (by assumption) (by decide) rfl rfl (show w < 4096 from ks) (by decide) d_M_findNeeded_192 ?_
              refine aw_isub d_M_findNeeded_193 ?_
              refine aw_goto (tgt := 223) d_M_findNeeded_194 (by decide) ?_
              refine aw_istore d_M_findNeeded_223 (by decide) rfl ?_
              obtain ⟨c, h1, h2, h3⟩ : ∃ c, c < 4 ∧ e 22 w = c + 1 ∧ s.2.1 22 w = -2 - nI c := (hwt.resolve_left (fun q => c137 q.2)).resolve_right (fun ⟨k, q1, _, q3⟩ => c177 (i_p1 (by omega) q3))
              have eq : mTq (s.2.1 3) (mT s e S) e w = 4 * e 17 w + c := by rw [mTq, if_neg (by omega), if_pos (by omega), h2]; rfl
              have ev : 4 * s.2.1 17 w - 2 - s.2.1 22 w = nI (mTq (s.2.1 3) (mT s e S) e w) := by rw [h3, i_sub2, u1, eq, show (4 : Int32) = nI 4 from rfl, pk_mul, nI_add]
              refine t_M_pass s z1 z2 a.2 w _ _ a.1 (mTq (s.2.1 3) (mT s e S) e w) _ (Or.inr ⟨ev, by rw [eq]; omega⟩) _ hR (fun k0 => ?_) (fun k1 h2 hR2 hF2 => ?_)
              · refine aw_iinc (v := nI (w + 1)) d_M_findNeeded_253 rfl (ax_inc w) (by decide) rfl ?_
                refine aw_goto (tgt := 91) d_M_findNeeded_256 (by decide) ?_
                rw [if_neg (fun q : mHit2 (mTq (s.2.1 3) (mT s e S) e) (mSrc e) w a.1 => k0 ⟨q.2.1, q.2.2⟩)] at he
                exact ih (w + 1) a _ _ _ _ (by omega) hR hF he
              · refine aw_iinc (v := nI (w + 1)) d_M_findNeeded_253 rfl (ax_inc w) (by decide) rfl ?_
                refine aw_goto (tgt := 91) d_M_findNeeded_256 (by decide) ?_
                rw [if_pos (show mHit2 (mTq (s.2.1 3) (mT s e S) e) (mSrc e) w a.1 from ⟨c126, k1⟩)] at he
                exact ih (w + 1) _ _ _ _ _ (by omega) hR2 (hF.tr hF2) he
        · refine aw_goto (tgt := 253) d_M_findNeeded_140 (by decide) ?_
          have e0 : e 22 w = 0 := by
            rcases hwt with h1 | ⟨c, h1, h2, h3⟩ | ⟨k, h1, h2, h3⟩
            · exact h1.1
            · exact absurd (h3.symm.trans c137) (i_m2 h1)
            · exact absurd (h3.symm.trans c137) (i_m1 (by omega))
          refine aw_iinc (v := nI (w + 1)) d_M_findNeeded_253 rfl (ax_inc w) (by decide) rfl ?_
          refine aw_goto (tgt := 91) d_M_findNeeded_256 (by decide) ?_
          rw [if_neg (fun q : mHit2 (mTq (s.2.1 3) (mT s e S) e) (mSrc e) w a.1 => absurd q.2.1 (by rw [mTq, if_pos e0]; decide))] at he
          exact ih (w + 1) a _ _ _ _ (by omega) hR hF he
set_option maxRecDepth 20000 in
theorem l_M_turns {G : ax_G} {x : ax_X} {h0 : ax_H} {P : Option Value → ax_H → Prop} {m : Nat} (s : mSt) (e : Nat → Nat → Nat) (U S W : Nat) (hU : s.1 1 = nI U) (hUb : U ≤ 32) (hS : s.1 2 = nI S) (hSb : S ≤ 2048) (hW : s.1 3 = nI W) (hWb : W ≤ 4096) (hI : mI2 s e U S) (hI3 : mI3 s e S) (hI4 : mI4 s e U S W) (z1 : Int32) (hq : ax_H) (R : Nat → Int32) (hk : ∀ h2, mR m (mNd s R) h2 → mFr m hq h2 → P none h2) : ∀ r t (a : Nat → Int32) o3 o4 o5 o6 o7 h, t + r = 129 → mR m (mNd s a) h → mFr m hq h → mTurns (mTq (s.2.1 3) (mT s e S) e) (mSrc e) W r a = R → AW G x Y_M_findNeeded 3 68 h0 P h 79 [some (.ref m), some (.int z1), some (.int (nI t)), o3, o4, o5, o6, o7] [] := by
  intro r
  induction r with
  | zero =>
    intro t a o3 o4 o5 o6 o7 h ht hR hF he
    have htt : t = 129 := by omega
    subst htt
    have he : a = R := he
    subst he
    refine aw_iload_n d_M_findNeeded_79 rfl rfl ?_
    refine aw_sipush (v := 129) d_M_findNeeded_80 (by decide) ?_
    refine aw_icmp_ge (tgt := 270) d_M_findNeeded_83 (by decide) (fun c83 => ?_) (fun c83 => ?_)
    · refine aw_vret ?_ rfl d_M_findNeeded_270
      exact hk _ hR hF
    · exact absurd (by decide) c83
  | succ r ih =>
    intro t a o3 o4 o5 o6 o7 h ht hR hF he
    rw [mTurns] at he
    refine aw_iload_n d_M_findNeeded_79 rfl rfl ?_
    refine aw_sipush (v := 129) d_M_findNeeded_80 (by decide) ?_
    refine aw_icmp_ge (tgt := 270) d_M_findNeeded_83 (by decide) (fun c83 => ?_) (fun c83 => ?_)
    · exact absurd c83 (nI_ge (a := t) (b := 129) (by omega) (by decide))
    · refine aw_iconst (v := 0) d_M_findNeeded_86 (by decide) ?_
      refine aw_istore_n d_M_findNeeded_87 rfl (by decide) rfl ?_
      refine aw_iconst (v := 0) d_M_findNeeded_88 (by decide) ?_
      refine aw_istore d_M_findNeeded_89 (by decide) rfl ?_
      refine l_M_pass s e U S W hU hUb hS hSb hW hWb hI hI3 hI4 z1 (nI t) hq _ (fun h2 o4 o5 o6 o7 hR2 hF2 => ?_) W 0 (a, 0) _ _ _ _ (by omega) hR hF rfl
      refine aw_iload_n d_M_findNeeded_259 rfl rfl ?_
      refine aw_if_ne (tgt := 264) d_M_findNeeded_260 (by decide) (fun c260 => ?_) (fun c260 => ?_)
      · refine aw_iinc (v := nI (t + 1)) d_M_findNeeded_264 rfl (ax_inc t) (by decide) rfl ?_
        refine aw_goto (tgt := 79) d_M_findNeeded_267 (by decide) ?_
        rw [if_neg c260] at he
        exact ih (t + 1) _ _ _ _ _ _ _ (by omega) hR2 hF2 he
      · refine aw_vret ?_ rfl d_M_findNeeded_263
        rw [if_pos c260] at he
        rw [he] at hR2
        exact hk _ hR2 hF2
/-- what is needed -/
def mNeed (s : mSt) (e : Nat → Nat → Nat) (U S W E : Nat) : Nat → Int32 := mTurns (mTq (s.2.1 3) (mT s e S) e) (mSrc e) W 129 (va_up (mNd0 U (s.2.1 3) (s.2.1 2) (s.2.1 4) 128) (4 * e 11 E + e 13 E) 1)
set_option maxRecDepth 20000 in
theorem c_M_findNeeded (G : ax_G) (h : ax_H) (m : Nat) (s : mSt) (hR : mR m s h) (e : Nat → Nat → Nat) (U S W : Nat) (hU : s.1 1 = nI U) (hUb : U ≤ 32) (hS : s.1 2 = nI S) (hSb : S ≤ 2048) (hW : s.1 3 = nI W) (hWb : W ≤ 4096) (hI : mI2 s e U S) (hI3 : mI3 s e S) (hI4 : mI4 s e U S W) (E : Nat) (hE : E < S) (hE0 : 0 ≤ s.2.1 13 E) : AM G Y_M_findNeeded 3 68 [.ref m, .int (nI E)] h (fun v h2 => v = none ∧ mR m (mNd s (mNeed s e U S W E)) h2 ∧ mFr m h h2) := by
  refine aw_enter (by decide) (Nat.le_of_ble_eq_true rfl) (n := 6) (ls := [some (.ref m), some (.int (nI E)), none, none, none, none, none, none]) rfl (fun x => ?_)
  refine aw_iconst (v := 0) d_M_findNeeded_0 (by decide) ?_
  refine aw_istore_n d_M_findNeeded_1 rfl (by decide) rfl ?_
  refine l_M_need0 s U hU hUb (nI E) h (fun h2 o2 hR2 hF2 => ?_) 128 0 _ (by omega) (by rw [mNd0_0, mUs]; exact hR) (mFr.rf m h)
  obtain ⟨y1, y2⟩ := hI E hE
  obtain ⟨y3, y4⟩ := hI3.lab hE hE0
  have ev : 4 * s.2.1 11 E + s.2.1 13 E = nI (4 * e 11 E + e 13 E) := by rw [y1, y4, show (4 : Int32) = nI 4 from rfl, pk_mul, nI_add]
  first | refine aw_aload_n d_M_findNeeded_56 rfl rfl ?_ | refine aw_aload_nQ d_M_findNeeded_56 rfl rfl ?_ | refine aw_aload_nN d_M_findNeeded_56 rfl rfl ?_
  refine aM_get (by assumption) fl_M_19 (by decide) rfl d_M_findNeeded_57 ?_
  refine aw_iconst (v := 4) d_M_findNeeded_60 (by decide) ?_
  first | refine aw_aload_n d_M_findNeeded_61 rfl rfl ?_ | refine aw_aload_nQ d_M_findNeeded_61 rfl rfl ?_ | refine aw_aload_nN d_M_findNeeded_61 rfl rfl ?_
  refine aM_get (by assumption) fl_M_44 (by decide) rfl d_M_findNeeded_62 ?_
  refine aw_iload_n d_M_findNeeded_65 rfl rfl ?_
  refine aM_iald (by assumption) (by decide) rfl rfl (show E < 2048 by omega) (by decide) d_M_findNeeded_66 ?_
  refine aw_imul d_M_findNeeded_67 ?_
  first | refine aw_aload_n d_M_findNeeded_68 rfl rfl ?_ | refine aw_aload_nQ d_M_findNeeded_68 rfl rfl ?_ | refine aw_aload_nN d_M_findNeeded_68 rfl rfl ?_
  refine aM_get (by assumption) fl_M_50 (by decide) rfl d_M_findNeeded_69 ?_
  refine aw_iload_n d_M_findNeeded_72 rfl rfl ?_
  refine aM_iald (by assumption) (by decide) rfl rfl (show E < 2048 by omega) (by decide) d_M_findNeeded_73 ?_
  refine aw_iadd d_M_findNeeded_74 ?_
  refine aw_iconst (v := 1) d_M_findNeeded_75 (by decide) ?_
  refine aM_zast (by assumption) (by decide) rfl ev (show 4 * e 11 E + e 13 E < 128 by omega) (by decide) d_M_findNeeded_76 (fun g76 hR76 hF76 => ?_)
  refine aw_iconst (v := 0) d_M_findNeeded_77 (by decide) ?_
  refine aw_istore_n d_M_findNeeded_78 rfl (by decide) rfl ?_
  refine l_M_turns s e U S W hU hUb hS hSb hW hWb hI hI3 hI4 (nI E) h _ (fun h3 hR3 hF3 => ⟨rfl, hR3, hF3⟩) 129 0 (va_up (mNd0 U (s.2.1 3) (s.2.1 2) (s.2.1 4) 128) (4 * e 11 E + e 13 E) 1) _ _ _ _ _ _ (by omega) ?_ (hF2.tr hF76) rfl
  have hR76 : mR m (s.1, va_up (va_up s.2.1 4 (mNd0 U (s.2.1 3) (s.2.1 2) (s.2.1 4) 128)) 4 (va_up (mNd0 U (s.2.1 3) (s.2.1 2) (s.2.1 4) 128) (4 * e 11 E + e 13 E) (1 &&& 1)), s.2.2) g76 := hR76
  rw [bx_uu] at hR76
  exact hR76

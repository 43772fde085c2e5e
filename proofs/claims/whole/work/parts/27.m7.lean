/-- n bytes from a on become 0 -/
def mZ (f : Nat → Int32) (a n : Nat) : Nat → Int32 := fun j => if a ≤ j ∧ j < a + n then 0 else f j
theorem mZ_0 (f : Nat → Int32) (a : Nat) : mZ f a 0 = f := by
  funext j
  rw [mZ, if_neg (by omega)]
theorem mZ_s (f : Nat → Int32) (a k : Nat) : va_up (mZ f a k) (a + k) 0 = mZ f a (k + 1) := by
  funext j
  by_cases hj : j = a + k
  · subst hj
    rw [va_up_self, mZ, if_pos (by omega)]
  · rw [va_up_ne _ _ hj, mZ, mZ]
    by_cases q : a ≤ j ∧ j < a + k
    · rw [if_pos q, if_pos (by omega)]
    · rw [if_neg q, if_neg (by omega)]
/-- the sizes by their sections -/
def mSz (t r d b : Nat) (i : Nat) : Nat := match i with
  | 0 => t
  | 1 => r
  | 2 => d
  | _ => b
/-- where the bytes of section i begin -/
def mBg (B : Nat) (z : Nat → Nat) : Nat → Nat
  | 0 => B
  | i + 1 => mBg B z i + (if i < 3 then z i else 0)
/-- one section of a new unit u -/
def mUStep (u B : Nat) (z : Nat → Nat) (i : Nat) (t : mSt) : mSt := (va_up t.1 5 (nI (mBg B z (i + 1))), va_up (va_up (va_up (va_up t.2.1 5 (va_up (t.2.1 5) (4 * u + i) (nI (z i)))) 6 (va_up (t.2.1 6) (4 * u + i) (nI (mBg B z i)))) 2 (va_up (t.2.1 2) (4 * u + i) 0)) 8 (if i < 3 then mZ (t.2.1 8) (mBg B z i) (z i) else t.2.1 8), t.2.2)
def mUS (s : mSt) (u B : Nat) (z : Nat → Nat) (l : Int32) : Nat → mSt
  | 0 => (va_up s.1 0 0, va_up (va_up s.2.1 1 (va_up (s.2.1 1) u (l &&& 1))) 16 (va_up (s.2.1 16) u (s.1 2)), s.2.2)
  | i + 1 => mUStep u B z i (mUS s u B z l i)
theorem mUS_1 (s : mSt) (u B : Nat) (z : Nat → Nat) (l : Int32) : ∀ i, (mUS s u B z l i).1 1 = s.1 1
  | 0 => rfl
  | i + 1 => mUS_1 s u B z l i
theorem mUS_5 (s : mSt) (u B : Nat) (z : Nat → Nat) (l : Int32) (hB : s.1 5 = nI B) : ∀ i, (mUS s u B z l i).1 5 = nI (mBg B z i)
  | 0 => hB
  | i + 1 => rfl
theorem mBg_le (B : Nat) (z : Nat → Nat) (hz : B + z 0 + z 1 + z 2 ≤ 262144) : ∀ i, i ≤ 4 → mBg B z i ≤ 262144 ∧ (i < 3 → mBg B z i + z i ≤ 262144) := by
  intro i hi
  have e0 : mBg B z 0 = B := rfl
  have e1 : mBg B z 1 = B + z 0 := rfl
  have e2 : mBg B z 2 = B + z 0 + z 1 := rfl
  have e3 : mBg B z 3 = B + z 0 + z 1 + z 2 := rfl
  have e4 : mBg B z 4 = B + z 0 + z 1 + z 2 + 0 := rfl
  match i, hi with
  | 0, _ => rw [e0]; exact ⟨by omega, fun _ => by omega⟩
  | 1, _ => rw [e1]; exact ⟨by omega, fun _ => by omega⟩
  | 2, _ => rw [e2]; exact ⟨by omega, fun _ => by omega⟩
  | 3, _ => rw [e3]; exact ⟨by omega, fun q => absurd q (by omega)⟩
  | 4, _ => rw [e4]; exact ⟨by omega, fun q => absurd q (by omega)⟩
set_option maxRecDepth 20000 in
theorem l_M_unitz {G : ax_G} {x : ax_X} {h0 : ax_H} {P : Option Value → ax_H → Prop} {m : Nat} (c : mSt) (F : Nat → Int32) (lb : Int32) (t r d b U i A n : Nat) (hi : i < 3) (hA : c.1 5 = nI A) (hAn : A + n ≤ 262144) (hq : ax_H) (hk : ∀ h2, mR m (c.1, va_up c.2.1 8 (mZ F A n), c.2.2) h2 → mFr m hq h2 → AW G x Y_M_unit 1 20 h0 P h2 208 [some (.ref m), some (.int lb), some (.int (nI t)), some (.int (nI r)), some (.int (nI d)), some (.int (nI b)), some (.int (nI U)), some (.int (nI i)), some (.int (nI n)), some (.int (nI n))] []) : ∀ q k h, k + q = n → mR m (c.1, va_up c.2.1 8 (mZ F A k), c.2.2) h → mFr m hq h → AW G x Y_M_unit 1 20 h0 P h 176 [some (.ref m), some (.int lb), some (.int (nI t)), some (.int (nI r)), some (.int (nI d)), some (.int (nI b)), some (.int (nI U)), some (.int (nI i)), some (.int (nI n)), some (.int (nI k))] [] := by
  intro q
  induction q with
  | zero =>
    intro k h hkn hR hF
    have hkk : k = n := by omega
    subst hkk
    refine aw_iload d_M_unit_176 rfl ?_
    refine aw_iload d_M_unit_178 rfl ?_
    refine aw_icmp_ge (tgt := 208) d_M_unit_180 (by decide) (fun c180 => ?_) (fun c180 => ?_)
    · exact hk _ hR hF
    · exact absurd (nI_le (Nat.le_refl _) (by omega)) c180
  | succ q ih =>
    intro k h hkn hR hF
    refine aw_iload d_M_unit_176 rfl ?_
    refine aw_iload d_M_unit_178 rfl ?_
    refine aw_icmp_ge (tgt := 208) d_M_unit_180 (by decide) (fun c180 => ?_) (fun c180 => ?_)
    · exact absurd c180 (nI_ge (by omega) (by omega))
    · refine aw_iload d_M_unit_183 rfl ?_
      refine aw_iconst (v := 3) d_M_unit_185 (by decide) ?_
      refine aw_icmp_ge (tgt := 208) d_M_unit_186 (by decide) (fun c186 => ?_) (fun c186 => ?_)
      · exact absurd c186 (nI_ge (a := i) (b := 3) hi (by decide))
      · first | refine aw_aload_n d_M_unit_189 rfl rfl ?_ | refine aw_aload_nQ d_M_unit_189 rfl rfl ?_ | refine aw_aload_nN d_M_unit_189 rfl rfl ?_
        refine aM_get (by assumption) fl_M_33 (by decide) rfl d_M_unit_190 ?_
        first | refine aw_aload_n d_M_unit_193 rfl rfl ?_ | refine aw_aload_nQ d_M_unit_193 rfl rfl ?_ | refine aw_aload_nN d_M_unit_193 rfl rfl ?_
        refine aM_get (by assumption) fl_M_138 (by decide) rfl d_M_unit_194 ?_
        refine aw_iload d_M_unit_197 rfl ?_
        refine aw_iadd d_M_unit_199 ?_
        refine aw_iconst (v := 0) d_M_unit_200 (by decide) ?_
        have ek : c.1 5 + nI k = nI (A + k) := by rw [hA, nI_add]
        refine aM_bast (by assumption) (by decide) rfl ek (show A + k < 262144 by omega) (by decide) d_M_unit_201 (fun g201 hR201 hF201 => ?_)
        refine aw_iinc (v := nI (k + 1)) d_M_unit_202 rfl (ax_inc k) (by decide) rfl ?_
        refine aw_goto (tgt := 176) d_M_unit_205 (by decide) ?_
        refine ih (k + 1) _ (by omega) ?_ (hF.tr hF201)
        have hR201 : mR m (c.1, va_up (va_up c.2.1 8 (mZ F A k)) 8 (va_up (mZ F A k) (A + k) 0), c.2.2) g201 := hR201
        rw [bx_uu, mZ_s] at hR201
        exact hR201
set_option maxRecDepth 20000 in
theorem t_M_unit {G : ax_G} {x : ax_X} {h0 : ax_H} {P : Option Value → ax_H → Prop} {m : Nat} (c : mSt) (lb : Int32) (t r d b U i B : Nat) (q9 : Option Value) (hi : i < 4) (hU : U < 32) (hB : c.1 5 = nI (mBg B (mSz t r d b) i)) (hz : B + t + r + d ≤ 262144) (hbb : b ≤ 65536) (h : ax_H) (hR : mR m c h) (hk : ∀ h2, mR m (mUStep U B (mSz t r d b) i c) h2 → mFr m h h2 → ∀ o9, AW G x Y_M_unit 1 20 h0 P h2 229 [some (.ref m), some (.int lb), some (.int (nI t)), some (.int (nI r)), some (.int (nI d)), some (.int (nI b)), some (.int (nI U)), some (.int (nI i)), some (.int (nI (mSz t r d b i))), o9] []) : AW G x Y_M_unit 1 20 h0 P h 130 [some (.ref m), some (.int lb), some (.int (nI t)), some (.int (nI r)), some (.int (nI d)), some (.int (nI b)), some (.int (nI U)), some (.int (nI i)), some (.int (nI (mSz t r d b i))), q9] [] := by
  have hbl := mBg_le B (mSz t r d b) hz i (by omega)
  have hzi : mSz t r d b i ≤ 262144 := by
    match i, hi with
    | 0, _ => show t ≤ _; omega
    | 1, _ => show r ≤ _; omega
    | 2, _ => show d ≤ _; omega
    | 3, _ => show b ≤ _; omega
  first | refine aw_aload_n d_M_unit_130 rfl rfl ?_ | refine aw_aload_nQ d_M_unit_130 rfl rfl ?_ | refine aw_aload_nN d_M_unit_130 rfl rfl ?_
  refine aM_get (by assumption) fl_M_22 (by decide) rfl d_M_unit_131 ?_
  refine aw_iconst (v := 4) d_M_unit_134 (by decide) ?_
  refine aw_iload d_M_unit_135 rfl ?_
  refine aw_imul d_M_unit_137 ?_
  refine aw_iload d_M_unit_138 rfl ?_
  refine aw_iadd d_M_unit_140 ?_
  refine aw_iload d_M_unit_141 rfl ?_
  refine aM_iast (by assumption) (by decide) rfl (ax_row U i) (show 4 * U + i < 128 by omega) (by decide) d_M_unit_143 (fun g143 hR143 hF143 => ?_)
  first | refine aw_aload_n d_M_unit_144 rfl rfl ?_ | refine aw_aload_nQ d_M_unit_144 rfl rfl ?_ | refine aw_aload_nN d_M_unit_144 rfl rfl ?_
  refine aM_get (by assumption) fl_M_26 (by decide) rfl d_M_unit_145 ?_
  refine aw_iconst (v := 4) d_M_unit_148 (by decide) ?_
  refine aw_iload d_M_unit_149 rfl ?_
  refine aw_imul d_M_unit_151 ?_
  refine aw_iload d_M_unit_152 rfl ?_
  refine aw_iadd d_M_unit_154 ?_
  first | refine aw_aload_n d_M_unit_155 rfl rfl ?_ | refine aw_aload_nQ d_M_unit_155 rfl rfl ?_ | refine aw_aload_nN d_M_unit_155 rfl rfl ?_
  refine aM_get (by assumption) fl_M_138 (by decide) rfl d_M_unit_156 ?_
  refine aM_iast (by assumption) (by decide) rfl (ax_row U i) (show 4 * U + i < 128 by omega) (by decide) d_M_unit_159 (fun g159 hR159 hF159 => ?_)
  first | refine aw_aload_n d_M_unit_160 rfl rfl ?_ | refine aw_aload_nQ d_M_unit_160 rfl rfl ?_ | refine aw_aload_nN d_M_unit_160 rfl rfl ?_
  refine aM_get (by assumption) fl_M_13 (by decide) rfl d_M_unit_161 ?_
  refine aw_iconst (v := 4) d_M_unit_164 (by decide) ?_
  refine aw_iload d_M_unit_165 rfl ?_
  refine aw_imul d_M_unit_167 ?_
  refine aw_iload d_M_unit_168 rfl ?_
  refine aw_iadd d_M_unit_170 ?_
  refine aw_iconst (v := 0) d_M_unit_171 (by decide) ?_
  refine aM_zast (by assumption) (by decide) rfl (ax_row U i) (show 4 * U + i < 128 by omega) (by decide) d_M_unit_172 (fun g172 hR172 hF172 => ?_)
  refine aw_iconst (v := 0) d_M_unit_173 (by decide) ?_
  refine aw_istore d_M_unit_174 (by decide) rfl ?_
  have hR172 : mR m (c.1, va_up (va_up (va_up c.2.1 5 (va_up (c.2.1 5) (4 * U + i) (nI (mSz t r d b i)))) 6 (va_up (c.2.1 6) (4 * U + i) (c.1 5))) 2 (va_up (c.2.1 2) (4 * U + i) 0), c.2.2) g172 := hR172
  rw [hB] at hR172
  have hF2 := (hF143.tr hF159).tr hF172
  by_cases h3 : i < 3
  · refine l_M_unitz (c.1, va_up (va_up (va_up c.2.1 5 (va_up (c.2.1 5) (4 * U + i) (nI (mSz t r d b i)))) 6 (va_up (c.2.1 6) (4 * U + i) (nI (mBg B (mSz t r d b) i)))) 2 (va_up (c.2.1 2) (4 * U + i) 0), c.2.2) (c.2.1 8) lb t r d b U i (mBg B (mSz t r d b) i) (mSz t r d b i) h3 hB (hbl.2 h3) h ?_ (mSz t r d b i) 0 _ (by omega) ?_ hF2
    · intro h2 hR hF
      first | refine aw_aload_n d_M_unit_208 rfl rfl ?_ | refine aw_aload_nQ d_M_unit_208 rfl rfl ?_ | refine aw_aload_nN d_M_unit_208 rfl rfl ?_
      refine aw_dup d_M_unit_209 rfl ?_
      refine aM_get (by assumption) fl_M_138 (by decide) rfl d_M_unit_210 ?_
      refine aw_iload d_M_unit_213 rfl ?_
      refine aw_iconst (v := 3) d_M_unit_215 (by decide) ?_
      refine aw_icmp_ge (tgt := 224) d_M_unit_216 (by decide) (fun c216 => ?_) (fun c216 => ?_)
      · exact absurd c216 (nI_ge (a := i) (b := 3) h3 (by decide))
      · refine aw_iload d_M_unit_219 rfl ?_
        refine aw_goto (tgt := 225) d_M_unit_221 (by decide) ?_
        refine aw_iadd d_M_unit_225 ?_
        have eb : c.1 5 + nI (mSz t r d b i) = nI (mBg B (mSz t r d b) (i + 1)) := by rw [hB, nI_add, mBg, if_pos h3]
        refine aM_put (by assumption) fl_M_138 (by decide) rfl rfl rfl rfl d_M_unit_226 (fun g226 hR226 hF226 => ?_)
        refine hk _ ?_ (hF.tr hF226) _
        have hR226 : mR m (va_up c.1 5 (c.1 5 + nI (mSz t r d b i)), va_up (va_up (va_up (va_up c.2.1 5 (va_up (c.2.1 5) (4 * U + i) (nI (mSz t r d b i)))) 6 (va_up (c.2.1 6) (4 * U + i) (nI (mBg B (mSz t r d b) i)))) 2 (va_up (c.2.1 2) (4 * U + i) 0)) 8 (mZ (c.2.1 8) (mBg B (mSz t r d b) i) (mSz t r d b i)), c.2.2) g226 := hR226
        rw [eb] at hR226
        rw [mUStep, if_pos h3]
        exact hR226
    · rw [mZ_0]
      refine hR172.same (fun k => ?_) (fun k => rfl)
      by_cases hk8 : k = 8
      · subst hk8; exact va_up_self _ _ _
      · exact va_up_ne _ _ hk8
  · have hi3 : i = 3 := by omega
    subst hi3
    refine aw_iload d_M_unit_176 rfl ?_
    refine aw_iload d_M_unit_178 rfl ?_
    refine aw_icmp_ge (tgt := 208) d_M_unit_180 (by decide) (fun c180 => ?_) (fun c180 => ?_)
    · first | refine aw_aload_n d_M_unit_208 rfl rfl ?_ | refine aw_aload_nQ d_M_unit_208 rfl rfl ?_ | refine aw_aload_nN d_M_unit_208 rfl rfl ?_
      refine aw_dup d_M_unit_209 rfl ?_
      refine aM_get (by assumption) fl_M_138 (by decide) rfl d_M_unit_210 ?_
      refine aw_iload d_M_unit_213 rfl ?_
      refine aw_iconst (v := 3) d_M_unit_215 (by decide) ?_
      refine aw_icmp_ge (tgt := 224) d_M_unit_216 (by decide) (fun c216 => ?_) (fun c216 => ?_)
      · refine aw_iconst (v := 0) d_M_unit_224 (by decide) ?_
        refine aw_iadd d_M_unit_225 ?_
        have eb : c.1 5 + 0 = nI (mBg B (mSz t r d b) (3 + 1)) := by rw [hB, show (0 : Int32) = nI 0 from rfl, nI_add]; rfl
        refine aM_put (by assumption) fl_M_138 (by decide) rfl rfl rfl rfl d_M_unit_226 (fun g226 hR226 hF226 => ?_)
        refine hk _ ?_ (hF2.tr hF226) _
        have hR226 : mR m (va_up c.1 5 (c.1 5 + 0), va_up (va_up (va_up c.2.1 5 (va_up (c.2.1 5) (4 * U + 3) (nI (mSz t r d b 3)))) 6 (va_up (c.2.1 6) (4 * U + 3) (nI (mBg B (mSz t r d b) 3)))) 2 (va_up (c.2.1 2) (4 * U + 3) 0), c.2.2) g226 := hR226
        rw [eb] at hR226
        rw [mUStep, if_neg (by decide)]
        refine hR226.same (fun k => ?_) (fun k => rfl)
        by_cases hk8 : k = 8
        · subst hk8; exact va_up_self _ _ _
        · exact va_up_ne _ _ hk8
      · exact absurd (by decide) c216
    · refine aw_iload d_M_unit_183 rfl ?_
      refine aw_iconst (v := 3) d_M_unit_185 (by decide) ?_
      refine aw_icmp_ge (tgt := 208) d_M_unit_186 (by decide) (fun c186 => ?_) (fun c186 => ?_)
      · first | refine aw_aload_n d_M_unit_208 rfl rfl ?_ | refine aw_aload_nQ d_M_unit_208 rfl rfl ?_ | refine aw_aload_nN d_M_unit_208 rfl rfl ?_
        refine aw_dup d_M_unit_209 rfl ?_
        refine aM_get (by assumption) fl_M_138 (by decide) rfl d_M_unit_210 ?_
        refine aw_iload d_M_unit_213 rfl ?_
        refine aw_iconst (v := 3) d_M_unit_215 (by decide) ?_
        refine aw_icmp_ge (tgt := 224) d_M_unit_216 (by decide) (fun c216 => ?_) (fun c216 => ?_)
        · refine aw_iconst (v := 0) d_M_unit_224 (by decide) ?_
          refine aw_iadd d_M_unit_225 ?_
          have eb : c.1 5 + 0 = nI (mBg B (mSz t r d b) (3 + 1)) := by rw [hB, show (0 : Int32) = nI 0 from rfl, nI_add]; rfl
          refine aM_put (by assumption) fl_M_138 (by decide) rfl rfl rfl rfl d_M_unit_226 (fun g226 hR226 hF226 => ?_)
          refine hk _ ?_ (hF2.tr hF226) _
          have hR226 : mR m (va_up c.1 5 (c.1 5 + 0), va_up (va_up (va_up c.2.1 5 (va_up (c.2.1 5) (4 * U + 3) (nI (mSz t r d b 3)))) 6 (va_up (c.2.1 6) (4 * U + 3) (nI (mBg B (mSz t r d b) 3)))) 2 (va_up (c.2.1 2) (4 * U + 3) 0), c.2.2) g226 := hR226
          rw [eb] at hR226
          rw [mUStep, if_neg (by decide)]
          refine hR226.same (fun k => ?_) (fun k => rfl)
          by_cases hk8 : k = 8
          · subst hk8; exact va_up_self _ _ _
          · exact va_up_ne _ _ hk8
        · exact absurd (by decide) c216
      · exact absurd (by decide) c186
set_option maxRecDepth 20000 in
theorem l_M_unit {G : ax_G} {x : ax_X} {h0 : ax_H} {P : Option Value → ax_H → Prop} {m : Nat} (s : mSt) (lb : Int32) (t r d b U B : Nat) (hU1 : s.1 1 = nI U) (hU : U < 32) (hB : s.1 5 = nI B) (hz : B + t + r + d ≤ 262144) (hbb : b ≤ 65536) (hq : ax_H) (hp : ∀ h2, mR m (va_up (mUS s U B (mSz t r d b) lb 4).1 1 (nI (U + 1)), (mUS s U B (mSz t r d b) lb 4).2) h2 → mFr m hq h2 → P (some (.int (nI U))) h2) : ∀ q i h q8 q9, i + q = 4 → mR m (mUS s U B (mSz t r d b) lb i) h → mFr m hq h → ax_c1 [none, none, none, none, none, none, none, none, q8, q9] 9 → AW G x Y_M_unit 1 20 h0 P h 90 [some (.ref m), some (.int lb), some (.int (nI t)), some (.int (nI r)), some (.int (nI d)), some (.int (nI b)), some (.int (nI U)), some (.int (nI i)), q8, q9] [] := by
  intro q
  induction q with
  | zero =>
    intro i h q8 q9 hiq hR hF hc8
    have hii : i = 4 := by omega
    subst hii
    refine aw_iload d_M_unit_90 rfl ?_
    refine aw_iconst (v := 4) d_M_unit_92 (by decide) ?_
    refine aw_icmp_ge (tgt := 235) d_M_unit_93 (by decide) (fun c93 => ?_) (fun c93 => ?_)
    · first | refine aw_aload_n d_M_unit_235 rfl rfl ?_ | refine aw_aload_nQ d_M_unit_235 rfl rfl ?_ | refine aw_aload_nN d_M_unit_235 rfl rfl ?_
      refine aw_dup d_M_unit_236 rfl ?_
      refine aM_get (by assumption) fl_M_126 (by decide) rfl d_M_unit_237 ?_
      refine aw_iconst (v := 1) d_M_unit_240 (by decide) ?_
      refine aw_iadd d_M_unit_241 ?_
      have e1 : (mUS s U B (mSz t r d b) lb 4).1 1 + 1 = nI (U + 1) := by rw [mUS_1, hU1, nI_1]
      refine aM_put (by assumption) fl_M_126 (by decide) rfl rfl rfl rfl d_M_unit_242 (fun g242 hR242 hF242 => ?_)
      refine aw_iload d_M_unit_245 rfl ?_
      refine aw_iret ?_ rfl d_M_unit_247
      rw [e1] at hR242
      exact hp _ hR242 (hF.tr hF242)
    · exact absurd (by decide) c93
  | succ q ih =>
    intro i h q8 q9 hiq hR hF hc8
    refine aw_iload d_M_unit_90 rfl ?_
    refine aw_iconst (v := 4) d_M_unit_92 (by decide) ?_
    refine aw_icmp_ge (tgt := 235) d_M_unit_93 (by decide) (fun c93 => ?_) (fun c93 => ?_)
    · exact absurd c93 (nI_ge (a := i) (b := 4) (by omega) (by decide))
    · refine aw_iload d_M_unit_96 rfl ?_
      refine aw_if_ne (tgt := 105) d_M_unit_98 (by decide) (fun c98 => ?_) (fun c98 => ?_)
      · refine aw_iload d_M_unit_105 rfl ?_
        refine aw_iconst (v := 1) d_M_unit_107 (by decide) ?_
        refine aw_icmp_ne (tgt := 115) d_M_unit_108 (by decide) (fun c108 => ?_) (fun c108 => ?_)
        · refine aw_iload d_M_unit_115 rfl ?_
          refine aw_iconst (v := 2) d_M_unit_117 (by decide) ?_
          refine aw_icmp_ne (tgt := 126) d_M_unit_118 (by decide) (fun c118 => ?_) (fun c118 => ?_)
          · refine aw_iload d_M_unit_126 rfl ?_
            have e0 : i = 3 := by
              have y0 : i ≠ 0 := fun y => c98 (by rw [y]; rfl)
              have y1 : i ≠ 1 := fun y => c108 (by rw [y]; rfl)
              have y2 : i ≠ 2 := fun y => c118 (by rw [y]; rfl)
              omega
            have ez : (nI b) = nI (mSz t r d b i) := by rw [e0]; rfl
            refine aw_istore d_M_unit_128 (by decide) rfl ?_
            refine aw_ls (ls' := [some (.ref m), some (.int lb), some (.int (nI t)), some (.int (nI r)), some (.int (nI d)), some (.int (nI b)), some (.int (nI U)), some (.int (nI i)), some (.int (nI (mSz t r d b i))), q9]) (by rw [← ez]; rfl) ?_
            refine t_M_unit (mUS s U B (mSz t r d b) lb i) lb t r d b U i B _ (by omega) hU (mUS_5 s U B (mSz t r d b) lb hB i) hz hbb h hR ?_
            intro h2 hR2 hF2 o9
            refine aw_iinc (v := nI (i + 1)) d_M_unit_229 rfl (ax_inc i) (by decide) rfl ?_
            refine aw_goto (tgt := 90) d_M_unit_232 (by decide) ?_
            exact ih (i + 1) _ _ _ (by omega) hR2 (hF.tr hF2) (fun j w e h1 => by match j, e, h1 with | 8, _, h1 => cases h1; rfl)
          · refine aw_iload d_M_unit_121 rfl ?_
            refine aw_goto (tgt := 128) d_M_unit_123 (by decide) ?_
            have e0 : i = 2 := (nI_eq (a := i) (b := 2) (by omega) (by omega)).mp c118
            have ez : (nI d) = nI (mSz t r d b i) := by rw [e0]; rfl
            refine aw_istore d_M_unit_128 (by decide) rfl ?_
            refine aw_ls (ls' := [some (.ref m), some (.int lb), some (.int (nI t)), some (.int (nI r)), some (.int (nI d)), some (.int (nI b)), some (.int (nI U)), some (.int (nI i)), some (.int (nI (mSz t r d b i))), q9]) (by rw [← ez]; rfl) ?_
            refine t_M_unit (mUS s U B (mSz t r d b) lb i) lb t r d b U i B _ (by omega) hU (mUS_5 s U B (mSz t r d b) lb hB i) hz hbb h hR ?_
            intro h2 hR2 hF2 o9
            refine aw_iinc (v := nI (i + 1)) d_M_unit_229 rfl (ax_inc i) (by decide) rfl ?_
            refine aw_goto (tgt := 90) d_M_unit_232 (by decide) ?_
            exact ih (i + 1) _ _ _ (by omega) hR2 (hF.tr hF2) (fun j w e h1 => by match j, e, h1 with | 8, _, h1 => cases h1; rfl)
        · refine aw_iload_n d_M_unit_111 rfl rfl ?_
          refine aw_goto (tgt := 128) d_M_unit_112 (by decide) ?_
          have e0 : i = 1 := (nI_eq (a := i) (b := 1) (by omega) (by omega)).mp c108
          have ez : (nI r) = nI (mSz t r d b i) := by rw [e0]; rfl
          refine aw_istore d_M_unit_128 (by decide) rfl ?_
          refine aw_ls (ls' := [some (.ref m), some (.int lb), some (.int (nI t)), some (.int (nI r)), some (.int (nI d)), some (.int (nI b)), some (.int (nI U)), some (.int (nI i)), some (.int (nI (mSz t r d b i))), q9]) (by rw [← ez]; rfl) ?_
          refine t_M_unit (mUS s U B (mSz t r d b) lb i) lb t r d b U i B _ (by omega) hU (mUS_5 s U B (mSz t r d b) lb hB i) hz hbb h hR ?_
          intro h2 hR2 hF2 o9
          refine aw_iinc (v := nI (i + 1)) d_M_unit_229 rfl (ax_inc i) (by decide) rfl ?_
          refine aw_goto (tgt := 90) d_M_unit_232 (by decide) ?_
          exact ih (i + 1) _ _ _ (by omega) hR2 (hF.tr hF2) (fun j w e h1 => by match j, e, h1 with | 8, _, h1 => cases h1; rfl)
      · refine aw_iload_n d_M_unit_101 rfl rfl ?_
        refine aw_goto (tgt := 128) d_M_unit_102 (by decide) ?_
        have e0 : i = 0 := (nI_eq (a := i) (b := 0) (by omega) (by omega)).mp c98
        have ez : (nI t) = nI (mSz t r d b i) := by rw [e0]; rfl
        refine aw_istore d_M_unit_128 (by decide) rfl ?_
        refine aw_ls (ls' := [some (.ref m), some (.int lb), some (.int (nI t)), some (.int (nI r)), some (.int (nI d)), some (.int (nI b)), some (.int (nI U)), some (.int (nI i)), some (.int (nI (mSz t r d b i))), q9]) (by rw [← ez]; rfl) ?_
        refine t_M_unit (mUS s U B (mSz t r d b) lb i) lb t r d b U i B _ (by omega) hU (mUS_5 s U B (mSz t r d b) lb hB i) hz hbb h hR ?_
        intro h2 hR2 hF2 o9
        refine aw_iinc (v := nI (i + 1)) d_M_unit_229 rfl (ax_inc i) (by decide) rfl ?_
        refine aw_goto (tgt := 90) d_M_unit_232 (by decide) ?_
        exact ih (i + 1) _ _ _ (by omega) hR2 (hF.tr hF2) (fun j w e h1 => by match j, e, h1 with | 8, _, h1 => cases h1; rfl)
abbrev mSzOk (n : Int32) : Prop := 0 ≤ n ∧ n ≤ 65536
def mUnitOk (s : mSt) (U : Nat) (t r d b : Int32) : Prop := mSzOk t ∧ mSzOk r ∧ mSzOk d ∧ mSzOk b ∧ ¬ U = 32 ∧ s.1 5 + t + r + d ≤ 262144
theorem ax_sum4 {B t r d : Nat} (hB : B ≤ 262144) (ht : t ≤ 65536) (hr : r ≤ 65536) (hd : d ≤ 65536) : nI B + nI t + nI r + nI d = nI (B + t + r + d) := by rw [nI_add, nI_add, nI_add]
set_option maxRecDepth 20000 in
theorem c_M_unit (G : ax_G) (h : ax_H) (m : Nat) (s : mSt) (hR : mR m s h) (U B : Nat) (hU1 : s.1 1 = nI U) (hUb : U ≤ 32) (hB : s.1 5 = nI B) (hBb : B ≤ 262144) (lb t r d b : Int32) : AM G Y_M_unit 1 20 [.ref m, .int lb, .int t, .int r, .int d, .int b] h (fun v h2 => (mUnitOk s U t r d b ∧ v = some (.int (nI U)) ∧ mR m (va_up (mUS s U B (mSz t.toNatClampNeg r.toNatClampNeg d.toNatClampNeg b.toNatClampNeg) lb 4).1 1 (nI (U + 1)), (mUS s U B (mSz t.toNatClampNeg r.toNatClampNeg d.toNatClampNeg b.toNatClampNeg) lb 4).2) h2 ∧ mFr m h h2) ∨ (¬ mUnitOk s U t r d b ∧ v = some (.int (-1)) ∧ mR m (va_up s.1 0 0, s.2) h2 ∧ mFr m h h2)) := by
  refine aw_enter (by decide) (Nat.le_of_ble_eq_true rfl) (n := 4) (ls := [some (.ref m), some (.int lb), some (.int t), some (.int r), some (.int d), some (.int b), none, none, none, none]) rfl (fun x => ?_)
  first | refine aw_aload_n d_M_unit_0 rfl rfl ?_ | refine aw_aload_nQ d_M_unit_0 rfl rfl ?_ | refine aw_aload_nN d_M_unit_0 rfl rfl ?_
  refine aw_iconst (v := 0) d_M_unit_1 (by decide) ?_
  refine aM_put (by assumption) fl_M_123 (by decide) rfl rfl rfl rfl d_M_unit_2 (fun g2 hR2 hF2 => ?_)
  refine aw_iload_n d_M_unit_5 rfl rfl ?_
  refine aw_callS (c_M_isSize G _ t) m_M_isSize ml_M_146 rfl rfl (by decide) (by decide) (Nat.le_of_ble_eq_true rfl) d_M_unit_6 ?_
  rintro v h' ⟨rfl, rfl⟩
  refine aw_if_eq (tgt := 60) d_M_unit_9 (by decide) (fun c9 => ?_) (fun c9 => ?_)
  · refine aw_iconst (v := (-1)) d_M_unit_60 (by decide) ?_
    refine aw_iret ?_ rfl d_M_unit_61
    exact Or.inr ⟨fun q => absurd c9 (by rw [zI, if_pos q.1]; decide), rfl, hR2, hF2⟩
  · refine aw_iload_n d_M_unit_12 rfl rfl ?_
    refine aw_callS (c_M_isSize G _ r) m_M_isSize ml_M_146 rfl rfl (by decide) (by decide) (Nat.le_of_ble_eq_true rfl) d_M_unit_13 ?_
    rintro v h' ⟨rfl, rfl⟩
    refine aw_if_eq (tgt := 60) d_M_unit_16 (by decide) (fun c16 => ?_) (fun c16 => ?_)
    · refine aw_iconst (v := (-1)) d_M_unit_60 (by decide) ?_
      refine aw_iret ?_ rfl d_M_unit_61
      exact Or.inr ⟨fun q => absurd c16 (by rw [zI, if_pos q.2.1]; decide), rfl, hR2, hF2⟩
    · refine aw_iload d_M_unit_19 rfl ?_
      refine aw_callS (c_M_isSize G _ d) m_M_isSize ml_M_146 rfl rfl (by decide) (by decide) (Nat.le_of_ble_eq_true rfl) d_M_unit_21 ?_
      rintro v h' ⟨rfl, rfl⟩
      refine aw_if_eq (tgt := 60) d_M_unit_24 (by decide) (fun c24 => ?_) (fun c24 => ?_)
      · refine aw_iconst (v := (-1)) d_M_unit_60 (by decide) ?_
        refine aw_iret ?_ rfl d_M_unit_61
        exact Or.inr ⟨fun q => absurd c24 (by rw [zI, if_pos q.2.2.1]; decide), rfl, hR2, hF2⟩
      · refine aw_iload d_M_unit_27 rfl ?_
        refine aw_callS (c_M_isSize G _ b) m_M_isSize ml_M_146 rfl rfl (by decide) (by decide) (Nat.le_of_ble_eq_true rfl) d_M_unit_29 ?_
        rintro v h' ⟨rfl, rfl⟩
        refine aw_if_eq (tgt := 60) d_M_unit_32 (by decide) (fun c32 => ?_) (fun c32 => ?_)
        · refine aw_iconst (v := (-1)) d_M_unit_60 (by decide) ?_
          refine aw_iret ?_ rfl d_M_unit_61
          exact Or.inr ⟨fun q => absurd c32 (by rw [zI, if_pos q.2.2.2.1]; decide), rfl, hR2, hF2⟩
        · first | refine aw_aload_n d_M_unit_35 rfl rfl ?_ | refine aw_aload_nQ d_M_unit_35 rfl rfl ?_ | refine aw_aload_nN d_M_unit_35 rfl rfl ?_
          refine aM_get (by assumption) fl_M_126 (by decide) rfl d_M_unit_36 ?_
          refine aw_bipush (v := 32) d_M_unit_39 (by decide) ?_
          refine aw_icmp_eq (tgt := 60) d_M_unit_41 (by decide) (fun c41 => ?_) (fun c41 => ?_)
          · refine aw_iconst (v := (-1)) d_M_unit_60 (by decide) ?_
            refine aw_iret ?_ rfl d_M_unit_61
            exact Or.inr ⟨fun q => q.2.2.2.2.1 ((nI_eq (a := U) (b := 32) (by omega) (by omega)).mp (by rw [← hU1]; exact c41)), rfl, hR2, hF2⟩
          · first | refine aw_aload_n d_M_unit_44 rfl rfl ?_ | refine aw_aload_nQ d_M_unit_44 rfl rfl ?_ | refine aw_aload_nN d_M_unit_44 rfl rfl ?_
            refine aM_get (by assumption) fl_M_138 (by decide) rfl d_M_unit_45 ?_
            refine aw_iload_n d_M_unit_48 rfl rfl ?_
            refine aw_iadd d_M_unit_49 ?_
            refine aw_iload_n d_M_unit_50 rfl rfl ?_
            refine aw_iadd d_M_unit_51 ?_
            refine aw_iload d_M_unit_52 rfl ?_
            refine aw_iadd d_M_unit_54 ?_
            refine aw_ldc kc_M_32 d_M_unit_55 ?_
            refine aw_icmp_le (tgt := 62) d_M_unit_57 (by decide) (fun c57 => ?_) (fun c57 => ?_)
            · have yt : mSzOk t := by
                by_cases q : mSzOk t
                · exact q
                · exact absurd (show zI (0 ≤ t ∧ t ≤ 65536) = 0 by rw [zI, if_neg q]) c9
              have yr : mSzOk r := by
                by_cases q : mSzOk r
                · exact q
                · exact absurd (show zI (0 ≤ r ∧ r ≤ 65536) = 0 by rw [zI, if_neg q]) c16
              have yd : mSzOk d := by
                by_cases q : mSzOk d
                · exact q
                · exact absurd (show zI (0 ≤ d ∧ d ≤ 65536) = 0 by rw [zI, if_neg q]) c24
              have yb : mSzOk b := by
                by_cases q : mSzOk b
                · exact q
                · exact absurd (show zI (0 ≤ b ∧ b ≤ 65536) = 0 by rw [zI, if_neg q]) c32
              have hU : U < 32 := Nat.lt_of_le_of_ne hUb (fun q => c41 (by show s.1 1 = 32; rw [hU1, q]; rfl))
              have hyes : mUnitOk s U t r d b := ⟨yt, yr, yd, yb, by omega, c57⟩
              first | refine aw_aload_n d_M_unit_62 rfl rfl ?_ | refine aw_aload_nQ d_M_unit_62 rfl rfl ?_ | refine aw_aload_nN d_M_unit_62 rfl rfl ?_
              refine aM_get (by assumption) fl_M_126 (by decide) rfl d_M_unit_63 ?_
              refine aw_istore d_M_unit_66 (by decide) rfl ?_
              rw [show (va_up s.1 0 0, s.2).1 1 = nI U from hU1]
              first | refine aw_aload_n d_M_unit_68 rfl rfl ?_ | refine aw_aload_nQ d_M_unit_68 rfl rfl ?_ | refine aw_aload_nN d_M_unit_68 rfl rfl ?_
              refine aM_get (by assumption) fl_M_7 (by decide) rfl d_M_unit_69 ?_
              refine aw_iload d_M_unit_72 rfl ?_
              refine aw_iload_n d_M_unit_74 rfl rfl ?_
              refine aM_zast (by assumption) (by decide) rfl rfl (show U < 32 from hU) (by decide) d_M_unit_75 (fun g75 hR75 hF75 => ?_)
              first | refine aw_aload_n d_M_unit_76 rfl rfl ?_ | refine aw_aload_nQ d_M_unit_76 rfl rfl ?_ | refine aw_aload_nN d_M_unit_76 rfl rfl ?_
              refine aM_get (by assumption) fl_M_59 (by decide) rfl d_M_unit_77 ?_
              refine aw_iload d_M_unit_80 rfl ?_
              first | refine aw_aload_n d_M_unit_82 rfl rfl ?_ | refine aw_aload_nQ d_M_unit_82 rfl rfl ?_ | refine aw_aload_nN d_M_unit_82 rfl rfl ?_
              refine aM_get (by assumption) fl_M_129 (by decide) rfl d_M_unit_83 ?_
              refine aM_iast (by assumption) (by decide) rfl rfl (show U < 33 by omega) (by decide) d_M_unit_86 (fun g86 hR86 hF86 => ?_)
              refine aw_iconst (v := 0) d_M_unit_87 (by decide) ?_
              refine aw_istore d_M_unit_88 (by decide) rfl ?_
              obtain ⟨t, ht, rfl⟩ := nI_of2 (n := 65536) (by decide) (Int32.not_lt.mpr yt.1) yt.2
              obtain ⟨r, hr, rfl⟩ := nI_of2 (n := 65536) (by decide) (Int32.not_lt.mpr yr.1) yr.2
              obtain ⟨d, hd, rfl⟩ := nI_of2 (n := 65536) (by decide) (Int32.not_lt.mpr yd.1) yd.2
              obtain ⟨b, hb, rfl⟩ := nI_of2 (n := 65536) (by decide) (Int32.not_lt.mpr yb.1) yb.2
              have hsum : B + t + r + d ≤ 262144 := by
                have q : s.1 5 + nI t + nI r + nI d ≤ nI 262144 := c57
                rw [hB, ax_sum4 hBb ht hr hd] at q
                exact (nI_leI (by omega) (by decide)).mp q
              refine l_M_unit s lb t r d b U B hU1 hU hB hsum hb h (fun h2 r1 r2 => Or.inl ⟨hyes, rfl, by rw [nI_clamp (by omega), nI_clamp (by omega), nI_clamp (by omega), nI_clamp (by omega)]; exact r1, r2⟩) 4 0 _ _ _ (by omega) hR86 ((hF2.tr hF75).tr hF86) (fun j w e h1 => by match j, e, h1 with | 8, _, h1 => cases h1)
            · refine aw_iconst (v := (-1)) d_M_unit_60 (by decide) ?_
              refine aw_iret ?_ rfl d_M_unit_61
              exact Or.inr ⟨fun q => absurd q.2.2.2.2.2 (fun y => c57 (by show s.1 5 + t + r + d ≤ 262144; exact y)), rfl, hR2, hF2⟩

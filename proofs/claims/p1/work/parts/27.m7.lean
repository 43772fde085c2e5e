/-- n bytes from a on become 0 -/
def mZ (f : Nat → Int32) (a n : Nat) : Nat → Int32 := fun j => if a ≤ j ∧ j < a + n then 0 else f j
theorem mZ_0 (f : Nat → Int32) (a : Nat) : mZ f a 0 = f := by
  funext j
  rw [mZ, if_neg (by omega)]
theorem mZ_s (f : Nat → Int32) (a k : Nat) : va_up (mZ f a k) (a + k) 0 = mZ f a (k + 1) := by
  funext j
  by_cases hj : j = a + k
  · subst hj
    rw [va_up_self, mZ, if_pos (by omega)]
  · rw [va_up_ne _ _ hj, mZ, mZ]
    by_cases q : a ≤ j ∧ j < a + k
    · rw [if_pos q, if_pos (by omega)]
    · rw [if_neg q, if_neg (by omega)]
/-- the sizes by their sections -/
def mSz (t r d b : Nat) (i : Nat) : Nat := match i with
  | 0 => t
  | 1 => r
  | 2 => d
  | _ => b
/-- where the bytes of section i begin -/
def mBg (B : Nat) (z : Nat → Nat) : Nat → Nat
  | 0 => B
  | i + 1 => mBg B z i + (if i < 3 then z i else 0)
/-- one section of a new unit u -/
def mUStep (u B : Nat) (z : Nat → Nat) (i : Nat) (t : mSt) : mSt := (va_up t.1 5 (nI (mBg B z (i + 1))), va_up (va_up (va_up (va_up t.2.1 5 (va_up (t.2.1 5) (4 * u + i) (nI (z i)))) 6 (va_up (t.2.1 6) (4 * u + i) (nI (mBg B z i)))) 2 (va_up (t.2.1 2) (4 * u + i) 0)) 8 (if i < 3 then mZ (t.2.1 8) (mBg B z i) (z i) else t.2.1 8), t.2.2)
def mUS (s : mSt) (u B : Nat) (z : Nat → Nat) (l : Int32) : Nat → mSt
  | 0 => (va_up s.1 0 0, va_up (va_up s.2.1 1 (va_up (s.2.1 1) u (l &&& 1))) 16 (va_up (s.2.1 16) u (s.1 2)), s.2.2)
  | i + 1 => mUStep u B z i (mUS s u B z l i)
theorem mUS_1 (s : mSt) (u B : Nat) (z : Nat → Nat) (l : Int32) : ∀ i, (mUS s u B z l i).1 1 = s.1 1
  | 0 => rfl
  | i + 1 => mUS_1 s u B z l i
theorem mUS_5 (s : mSt) (u B : Nat) (z : Nat → Nat) (l : Int32) (hB : s.1 5 = nI B) : ∀ i, (mUS s u B z l i).1 5 = nI (mBg B z i)
  | 0 => hB
  | i + 1 => rfl
theorem mBg_le (B : Nat) (z : Nat → Nat) (hz : B + z 0 + z 1 + z 2 ≤ 262144) : ∀ i, i ≤ 4 → mBg B z i ≤ 262144 ∧ (i < 3 → mBg B z i + z i ≤ 262144) := by
  intro i hi
  have e0 : mBg B z 0 = B := rfl
  have e1 : mBg B z 1 = B + z 0 := rfl
  have e2 : mBg B z 2 = B + z 0 + z 1 := rfl
  have e3 : mBg B z 3 = B + z 0 + z 1 + z 2 := rfl
  have e4 : mBg B z 4 = B + z 0 + z 1 + z 2 + 0 := rfl
  match i, hi with
  | 0, _ => rw [e0]; exact ⟨by omega, fun _ => by omega⟩
  | 1, _ => rw [e1]; exact ⟨by omega, fun _ => by omega⟩
  | 2, _ => rw [e2]; exact ⟨by omega, fun _ => by omega⟩
  | 3, _ => rw [e3]; exact ⟨by omega, fun q => absurd q (by omega)⟩
  | 4, _ => rw [e4]; exact ⟨by omega, fun q => absurd q (by omega)⟩
set_option maxRecDepth 20000 in
theorem l_M_unitz {G : ax_G} {x : ax_X} {h0 : ax_H} {P : Option Value → ax_H → Prop} {m : Nat} (c : mSt) (F : Nat → Int32) (lb : Int32) (t r d b U i A n : Nat) (hi : i < 3) (hA : c.1 5 = nI A) (hAn : A + n ≤ 262144) (hq : ax_H) (hk : ∀ h2, mR m (c.1, va_up c.2.1 8 (mZ F A n), c.2.2) h2 → mFr m hq h2 → AW G x Y_M_unit 1 20 h0 P h2 208 [some (.ref m), some (.int lb), some (.int (nI t)), some (.int (nI r)), some (.int (nI d)), some (.int (nI b)), some (.int (nI U)), some (.int (nI i)), some (.int (nI n)), some (.int (nI n))] []) : ∀ q k h, k + q = n → mR m (c.1, va_up c.2.1 8 (mZ F A k), c.2.2) h → mFr m hq h → AW G x Y_M_unit 1 20 h0 P h 176 [some (.ref m), some (.int lb), some (.int (nI t)), some (.int (nI r)), some (.int (nI d)), some (.int (nI b)), some (.int (nI U)), some (.int (nI i)), some (.int (nI n)), some (.int (nI k))] [] := by
  intro q
  induction q with
  | zero =>
    intro k h hkn hR hF
    have hkk : k = n := by omega
    subst hkk
    refine aw_iload d_M_unit_176 rfl ?_
    refine aw_iload d_M_unit_178 rfl ?_
    refine aw_icmp_ge (tgt := 208) d_M_unit_180 (by decide) (fun c180 => ?_) (fun c180 => ?_)
    · exact hk _ hR hF
    · exact absurd (nI_le (Nat.le_refl _) (by omega)) c180
  | succ q ih =>
    intro k h hkn hR hF
    refine aw_iload d_M_unit_176 rfl ?_
    refine aw_iload d_M_unit_178 rfl ?_
    refine aw_icmp_ge (tgt := 208) d_M_unit_180 (by decide) (fun c180 => ?_) (fun c180 => ?_)
    · exact absurd c180 (nI_ge (by omega) (by omega))
    · refine aw_iload d_M_unit_183 rfl ?_
      refine aw_iconst (v := 3) d_M_unit_185 (by decide) ?_
      refine aw_icmp_ge (tgt := 208) d_M_unit_186 (by decide) (fun c186 => ?_) (fun c186 => ?_)
      · exact absurd c186 (nI_ge (a := i) (b := 3) hi (by decide))
      · first | refine aw_aload_n d_M_unit_189 rfl rfl ?_ | refine aw_aload_nQ d_M_unit_189 rfl rfl ?_ | refine aw_aload_nN d_M_unit_189 rfl rfl ?_
        refine aM_get (by assumption) fl_M_33 (by decide) rfl d_M_unit_190 ?_
        first | refine aw_aload_n d_M_unit_193 rfl rfl ?_ | refine aw_aload_nQ d_M_unit_193 rfl rfl ?_ | refine aw_aload_nN d_M_unit_193 rfl rfl ?_
        refine aM_get (by assumption) fl_M_138 (by decide) rfl d_M_unit_194 ?_
        refine aw_iload d_M_unit_197 rfl ?_
        refine aw_iadd d_M_unit_199 ?_
        refine aw_iconst (v := 0) d_M_unit_200 (by decide) ?_
        have ek : c.1 5 + nI k = nI (A + k) := by rw [hA, nI_add]
        refine aM_bast (by assumption) (by decide) rfl ek (show A + k < 262144 by omega) (by decide) d_M_unit_201 (fun g201 hR201 hF201 => ?_)
        refine aw_iinc (v := nI (k + 1)) d_M_unit_202 rfl (ax_inc k) (by decide) rfl ?_
        refine aw_goto (tgt := 176) d_M_unit_205 (by decide) ?_
        refine ih (k + 1) _ (by omega) ?_ (hF.tr hF201)
        have hR201 : mR m (c.1, va_up (va_up c.2.1 8 (mZ F A k)) 8 (va_up (mZ F A k) (A + k) 0), c.2.2) g201 := hR201
        rw [bx_uu, mZ_s] at hR201
        exact hR201
set_option maxRecDepth 20000 in
theorem t_M_unit {G : ax_G} {x : ax_X} {h0 : ax_H} {P : Option Value → ax_H → Prop} {m : Nat} (c : mSt) (lb : Int32) (t r d b U i B : Nat) (q9 : Option Value) (hi : i < 4) (hU : U < 32) (hB : c.1 5 = nI (mBg B (mSz t r d b) i)) (hz : B + t + r + d ≤ 262144) (hbb : b ≤ 65536) (h : ax_H) (hR : mR m c h) (hk : ∀ h2, mR m (mUStep U B (mSz t r d b) i c) h2 → mFr m h h2 → ∀ o9, AW G x Y_M_unit 1 20 h0 P h2 229 [some (.ref m), some (.int lb), some (.int (nI t)), some (.int (nI r)), some (.int (nI d)), some (.int (nI b)), some (.int (nI U)), some (.int (nI i)), some (.int (nI (mSz t r d b i))), o9] []) : AW G x Y_M_unit 1 20 h0 P h 130 [some (.ref m), some (.int lb), some (.int (nI t)), some (.int (nI r)), some (.int (nI d)), some (.int (nI b)), some (.int (nI U)), some (.int (nI i)), some (.int (nI (mSz t r d b i))), q9] [] := by
  have hbl := mBg_le B (mSz t r d b) hz i (by omega)
  have hzi : mSz t r d b i ≤ 262144 := by
    match i, hi with
    | 0, _ => show t ≤ _; omega
    | 1, _ => show r ≤ _; omega
    | 2, _ => show d ≤ _; omega
    | 3, _ => show b ≤ _; omega
  first | refine aw_aload_n d_M_unit_130 rfl rfl ?_ | refine aw_aload_nQ d_M_unit_130 rfl rfl ?_ | refine aw_aload_nN d_M_unit_130 rfl rfl ?_
  refine aM_get (by assumption) fl_M_22 (by decide) rfl d_M_unit_131 ?_
  refine aw_iconst (v := 4) d_M_unit_134 (by decide) ?_
  refine aw_iload d_M_unit_135 rfl ?_
  refine aw_imul d_M_unit_137 ?_
  refine aw_iload d_M_unit_138 rfl ?_
  refine aw_iadd d_M_unit_140 ?_
  refine aw_iload d_M_unit_141 rfl ?_
  refine aM_iast (by assumption) (by decide) rfl (ax_row U i) (show 4 * U + i < 128 by omega) (by decide) d_M_unit_143 (fun g143 hR143 hF143 => ?_)
  first | refine aw_aload_n d_M_unit_144 rfl rfl ?_ | refine aw_aload_nQ d_M_unit_144 rfl rfl ?_ | refine aw_aload_nN d_M_unit_144 rfl rfl ?_
  refine aM_get (by assumption) fl_M_26 (by decide) rfl d_M_unit_145 ?_
  refine aw_iconst (v := 4) d_M_unit_148 (by decide) ?_
  refine aw_iload d_M_unit_149 rfl ?_
  refine aw_imul d_M_unit_151 ?_
  refine aw_iload d_M_unit_152 rfl ?_
  refine aw_iadd d_M_unit_154 ?_
  first | refine aw_aload_n d_M_unit_155 rfl rfl ?_ | refine aw_aload_nQ d_M_unit_155 rfl rfl ?_ | refine aw_aload_nN d_M_unit_155 rfl rfl ?_
  refine aM_get (by assumption) fl_M_138 (by decide) rfl d_M_unit_156 ?_
  refine aM_iast (by assumption) (by decide) rfl (ax_row U i) (show 4 * U + i < 128 by omega) (by decide) d_M_unit_159 (fun g159 hR159 hF159 => ?_)
  first | refine aw_aload_n d_M_unit_160 rfl rfl ?_ | refine aw_aload_nQ d_M_unit_160 rfl rfl ?_ | refine aw_aload_nN d_M_unit_160 rfl rfl ?_
  refine aM_get (by assumption) fl_M_13 (by decide) rfl d_M_unit_161 ?_
  refine aw_iconst (v := 4) d_M_unit_164 (by decide) ?_
  refine aw_iload d_M_unit_165 rfl ?_
  refine aw_imul d_M_unit_167 ?_
  refine aw_iload d_M_unit_168 rfl ?_
  refine aw_iadd d_M_unit_170 ?_
  refine aw_iconst (v := 0) d_M_unit_171 (by decide) ?_
  refine aM_zast (by assumption) (by decide) rfl (ax_row U i) (show 4 * U + i < 128 by omega) (by decide) d_M_unit_172 (fun g172 hR172 hF172 => ?_)
  refine aw_iconst (v := 0) d_M_unit_173 (by decide) ?_
  refine aw_istore d_M_unit_174 (by decide) rfl ?_
  have hR172 : mR m (c.1, va_up (va_up (va_up c.2.1 5 (va_up (c.2.1 5) (4 * U + i) (nI (mSz t r d b i)))) 6 (va_up (c.2.1 6) (4 * U + i) (c.1 5))) 2 (va_up (c.2.1 2) (4 * U + i) 0), c.2.2) g172 := hR172
  rw [hB] at hR172
  have hF2 := (hF143.tr hF159).tr hF172
  by_cases h3 : i < 3
  · refine l_M_unitz (c.1, va_up (va_up (va_up c.2.1 5 (va_up (c.2.1 5) (4 * U + i) (nI (mSz t r d b i)))) 6 (va_up (c.2.1 6) (4 * U + i) (nI (mBg B (mSz t r d b) i)))) 2 (va_up (c.2.1 2) (4 * U + i) 0), c.2.2) (c.2.1 8) lb t r d b U i (mBg B (mSz t r d b) i) (mSz t r d b i) h3 hB (hbl.2 h3) h ?_ (mSz t r d b i) 0 _ (by omega) ?_ hF2
    · intro h2 hR hF
      first | refine aw_aload_n d_M_unit_208 rfl rfl ?_ | refine aw_aload_nQ d_M_unit_208 rfl rfl ?_ | refine aw_aload_nN d_M_unit_208 rfl rfl ?_
      refine aw_dup d_M_unit_209 rfl ?_
      refine aM_get (by assumption) fl_M_138 (by decide) rfl d_M_unit_210 ?_
      refine aw_iload d_M_unit_213 rfl ?_
      refine aw_iconst (v := 3) d_M_unit_215 (by decide) ?_
      refine aw_icmp_ge (tgt := 224) d_M_unit_216 (by decide) (fun c216 => ?_) (fun c216 => ?_)
      · exact absurd c216 (nI_ge (a := i) (b := 3) h3 (by decide))
      · refine aw_iload d_M_unit_219 rfl ?_
        refine aw_goto (tgt := 225) d_M_unit_221 (by decide) ?_
        refine aw_iadd d_M_unit_225 ?_
        have eb : c.1 5 + nI (mSz t r d b i) = nI (mBg B (mSz t r d b) (i + 1)) := by rw [hB, nI_add, mBg, if_pos h3]
        refine aM_put (by assumption) fl_M_138 (by decide) rfl rfl rfl rfl d_M_unit_226 (fun g226 hR226 hF226 => ?_)
        refine hk _ ?_ (hF.tr hF226) _
        have hR226 : mR m (va_up c.1 5 (c.1 5 + nI (mSz t r d b i)), va_up (va_up (va_up (va_up c.2.1 5 (va_up (c.2.1 5) (4 * U + i) (nI (mSz t r d b i)))) 6 (va_up (c.2.1 6) (4 * U + i) (nI (mBg B (mSz t r d b) i)))) 2 (va_up (c.2.1 2) (4 * U + i) 0)) 8 (mZ (c.2.1 8) (mBg B (mSz t r d b) i) (mSz t r d b i)), c.2.2) g226 := hR226
        rw [eb] at hR226
        rw [mUStep, if_pos h3]
        exact hR226
    · rw [mZ_0]
      refine hR172.same (fun k => ?_) (fun k => rfl)
      by_cases hk8 : k = 8
      · subst hk8; exact va_up_self _ _ _
      · exact va_up_ne _ _ hk8
  · have hi3 : i = 3 := by omega
    subst hi3
    refine aw_iload d_M_unit_176 rfl ?_
    refine aw_iload d_M_unit_178 rfl ?_
    refine aw_icmp_ge (tgt := 208) d_M_unit_180 (by decide) (fun c180 => ?_) (fun c180 => ?_)
    · first | refine aw_aload_n d_M_unit_208 rfl rfl ?_ | refine aw_aload_nQ d_M_unit_208 rfl rfl ?_ | refine aw_aload_nN d_M_unit_208 rfl rfl ?_
      refine aw_dup d_M_unit_209 rfl ?_
      refine aM_get (by assumption) fl_M_138 (by decide) rfl d_M_unit_210 ?_
      refine aw_iload d_M_unit_213 rfl ?_
      refine aw_iconst (v := 3) d_M_unit_215 (by decide) ?_
      refine aw_icmp_ge (tgt := 224) d_M_unit_216 (by decide) (fun c216 => ?_) (fun c216 => ?_)
      · refine aw_iconst (v := 0) d_M_unit_224 (by decide) ?_
        refine aw_iadd d_M_unit_225 ?_
        have eb : c.1 5 + 0 = nI (mBg B (mSz t r d b) (3 + 1)) := by rw [hB, show (0 : Int32) = nI 0 from rfl, nI_add]; rfl
        refine aM_put (by assumption) fl_M_138 (by decide) rfl rfl rfl rfl d_M_unit_226 (fun g226 hR226 hF226 => ?_)
        refine hk _ ?_ (hF2.tr hF226) _
        have hR226 : mR m (va_up c.1 5 (c.1 5 + 0), va_up (va_up (va_up c.2.1 5 (va_up (c.2.1 5) (4 * U + 3) (nI (mSz t r d b 3)))) 6 (va_up (c.2.1 6) (4 * U + 3) (nI (mBg B (mSz t r d b) 3)))) 2 (va_up (c.2.1 2) (4 * U + 3) 0), c.2.2) g226 := hR226
        rw [eb] at hR226
        rw [mUStep, if_neg (by decide)]
        refine hR226.same (fun k => ?_) (fun k => rfl)
        by_cases hk8 : k = 8
        · subst hk8; exact va_up_self _ _ _
        · exact va_up_ne _ _ hk8
      · exact absurd (by decide) c216
    · refine aw_iload d_M_unit_183 rfl ?_
      refine aw_iconst (v := 3) d_M_unit_185 (by decide) ?_
      refine aw_icmp_ge (tgt := 208) d_M_unit_186 (by decide) (fun c186 => ?_) (fun c186 => ?_)
      · first | refine aw_aload_n d_M_unit_208 rfl rfl ?_ | refine aw_aload_nQ d_M_unit_208 rfl rfl ?_ | refine aw_aload_nN d_M_unit_208 rfl rfl ?_
        refine aw_dup d_M_unit_209 rfl ?_
        refine aM_get (by assumption) fl_M_138 (by decide) rfl d_M_unit_210 ?_
        refine aw_iload d_M_unit_213 rfl ?_
        refine aw_iconst (v := 3) d_M_unit_215 (by decide) ?_
        refine aw_icmp_ge (tgt := 224) d_M_unit_216 (by decide) (fun c216 => ?_) (fun c216 => ?_)
        · refine aw_iconst (v := 0) d_M_unit_224 (by decide) ?_
          refine aw_iadd d_M_unit_225 ?_
          have eb : c.1 5 + 0 = nI (mBg B (mSz t r d b) (3 + 1)) := by rw [hB, show (0 : Int32) = nI 0 from rfl, nI_add]; rfl
          refine aM_put (by assumption) fl_M_138 (by decide) rfl rfl rfl rfl d_M_unit_226 (fun g226 hR226 hF226 => ?_)
          refine hk _ ?_ (hF2.tr hF226) _
          have hR226 : mR m (va_up c.1 5 (c.1 5 + 0), va_up (va_up (va_up c.2.1 5 (va_up (c.2.1 5) (4 * U + 3) (nI (mSz t r d b 3)))) 6 (va_up (c.2.1 6) (4 * U + 3) (nI (mBg B (mSz t r d b) 3)))) 2 (va_up (c.2.1 2) (4 * U + 3) 0), c.2.2) g226 := hR226
          rw [eb] at hR226
          rw [mUStep, if_neg (by decide)]
          refine hR226.same (fun k => ?_) (fun k => rfl)
          by_cases hk8 : k = 8
          · subst hk8; exact va_up_self _ _ _
          · exact va_up_ne _ _ hk8
        · exact absurd (by decide) c216
      · exact absurd (by decide) c186

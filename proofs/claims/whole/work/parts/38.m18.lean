theorem mAl {n k : Nat} {m : Int32} (hn : n < 2 ^ 32) (hk : k ≤ 32) (hm : m.toBitVec.toNat = (2 ^ (32 - k) - 1) * 2 ^ k) : nI n &&& m = nI (n / 2 ^ k * 2 ^ k) := by
  have hle : n / 2 ^ k * 2 ^ k ≤ n := Nat.div_mul_le_self _ _
  apply Int32.toBitVec_inj.mp
  apply BitVec.eq_of_toNat_eq
  rw [Int32.toBitVec_and, BitVec.toNat_and, pk_tn hn, pk_tn (Nat.lt_of_le_of_lt hle hn), hm]
  apply Nat.eq_of_testBit_eq
  intro i
  rw [Nat.testBit_and, Nat.testBit_mul_two_pow, Nat.testBit_two_pow_sub_one, Nat.testBit_mul_two_pow, Nat.testBit_div_two_pow]
  by_cases h1 : k ≤ i
  · rw [Nat.sub_add_cancel h1]
    by_cases h2 : i < 32
    · simp [h1, show i - k < 32 - k by omega]
    · rw [Nat.testBit_lt_two_pow (Nat.lt_of_lt_of_le hn (Nat.pow_le_pow_right (by decide) (by omega)))]
      simp
  · simp [h1]
theorem mUp16_n {a : Nat} (h : a + 15 < 2 ^ 32) : mUp16 (nI a) = nI ((a + 15) / 16 * 16) := by
  show (nI a + nI 15) &&& (-16) = _
  rw [nI_add]
  exact mAl (k := 4) h (by decide) (by decide)
theorem mUp4k_n {a : Nat} (h : a + 4095 < 2 ^ 32) : mUp4k (nI a) = nI ((a + 4095) / 4096 * 4096) := by
  show (nI a + nI 4095) &&& (-4096) = _
  rw [nI_add]
  exact mAl (k := 12) h (by decide) (by decide)
/-- the sections of D that are needed stand below the end -/
def mLyOk (nd : Nat → Int32) (z : Nat → Nat) (D : Nat → Prop) (B : Nat) (L : mLy) : Prop := ∃ a en : Nat, L.1 = nI a ∧ L.2.1 = nI en ∧ en ≤ a ∧ a ≤ B ∧ ∀ q, D q → ¬ nd q = 0 → ∃ b, L.2.2 q = nI b ∧ b + z q ≤ en
theorem mLyOk.w {nd : Nat → Int32} {z : Nat → Nat} {D D2 : Nat → Prop} {B B2 : Nat} {L : mLy} (h : mLyOk nd z D B L) (hD : ∀ q, D2 q → D q) (hB : B ≤ B2) : mLyOk nd z D2 B2 L := by
  obtain ⟨a, en, h1, h2, h3, h4, h5⟩ := h
  exact ⟨a, en, h1, h2, h3, Nat.le_trans h4 hB, fun q hq => h5 q (hD q hq)⟩
theorem mLayL_ok {sz nd : Nat → Int32} {z : Nat → Nat} {U c : Nat} (hc : c < 4) (hz : ∀ q, q < 4 * U → sz q = nI (z q) ∧ z q ≤ 65536) : ∀ r u B L, u + r = U → B + 65551 * r < 2 ^ 31 → mLyOk nd z (fun q => q % 4 < c ∧ q < 4 * U ∨ q % 4 = c ∧ q / 4 < u) B L → mLyOk nd z (fun q => q % 4 < c + 1 ∧ q < 4 * U) (B + 65551 * r) (mLayL sz nd c r u L) := by
  intro r
  induction r with
  | zero =>
    intro u B L hu hB h
    exact h.w (fun q hq => by omega) (by omega)
  | succ r ih =>
    intro u B L hu hB h
    rw [mLayL]
    have hq : 4 * u + c < 4 * U := by omega
    obtain ⟨z1, z2⟩ := hz _ hq
    have hw : B + 65551 * (r + 1) = B + 65551 + 65551 * r := by omega
    rw [hw]
    by_cases h0 : nd (4 * u + c) = 0
    · rw [if_pos h0]
      refine ih (u + 1) (B + 65551) L (by omega) (by omega) ?_
      obtain ⟨a, en, h1, h2, h3, h4, h5⟩ := h
      refine ⟨a, en, h1, h2, h3, by omega, fun q hD hn => ?_⟩
      by_cases e : q = 4 * u + c
      · exact absurd (e ▸ h0) hn
      · exact h5 q (by omega) hn
    · rw [if_neg h0]
      refine ih (u + 1) (B + 65551) _ (by omega) (by omega) ?_
      obtain ⟨a, en, h1, h2, h3, h4, h5⟩ := h
      have e1 : mUp16 L.1 = nI ((a + 15) / 16 * 16) := by
        rw [h1]
        exact mUp16_n (by omega)
      refine ⟨(a + 15) / 16 * 16 + z (4 * u + c), (a + 15) / 16 * 16 + z (4 * u + c), ?_, ?_, Nat.le_refl _, by omega, fun q hD hn => ?_⟩
      · rw [e1, z1, nI_add]
      · rw [e1, z1, nI_add]
      · by_cases e : q = 4 * u + c
        · subst e
          exact ⟨(a + 15) / 16 * 16, by rw [e1]; exact va_up_self _ _ _, Nat.le_refl _⟩
        · obtain ⟨b, b1, b2⟩ := h5 q (by omega) hn
          exact ⟨b, (va_up_ne _ _ e).trans b1, by omega⟩
theorem mLyOk.page {nd : Nat → Int32} {z : Nat → Nat} {D : Nat → Prop} {B : Nat} {L : mLy} (h : mLyOk nd z D B L) (hB : B + 4095 < 2 ^ 31) : mLyOk nd z D (B + 4095) (mUp4k L.1, L.2) := by
  obtain ⟨a, en, h1, h2, h3, h4, h5⟩ := h
  refine ⟨(a + 4095) / 4096 * 4096, en, ?_, h2, by omega, by omega, h5⟩
  rw [h1]
  exact mUp4k_n (by omega)
/-- the whole lay-out -/
theorem mLay4_ok {sz nd ad : Nat → Int32} {z : Nat → Nat} {U : Nat} (hU : U ≤ 32) (hz : ∀ q, q < 4 * U → sz q = nI (z q) ∧ z q ≤ 65536) : ∃ en : Nat, en < 2 ^ 24 ∧ (mLay4 sz nd ad U).2.1 = nI en ∧ ∀ q, q < 4 * U → ¬ nd q = 0 → ∃ b, (mLay4 sz nd ad U).2.2 q = nI b ∧ b + z q ≤ en := by
  have h1 : mLyOk nd z (fun q => q % 4 < 0 + 1 ∧ q < 4 * U) (0 + 65551 * U) (mLay1 sz nd ad U) := mLayL_ok (by decide) hz U 0 0 _ (by omega) (by omega) ⟨0, 0, rfl, rfl, Nat.le_refl _, Nat.le_refl _, fun q hq => by omega⟩
  have h2 : mLyOk nd z (fun q => q % 4 < 1 + 1 ∧ q < 4 * U) (0 + 65551 * U + 4095 + 65551 * U) (mLay2 sz nd ad U) := mLayL_ok (by decide) hz U 0 _ _ (by omega) (by omega) ((h1.page (by omega)).w (fun q hq => by omega) (Nat.le_refl _))
  have h3 : mLyOk nd z (fun q => q % 4 < 2 + 1 ∧ q < 4 * U) (0 + 65551 * U + 4095 + 65551 * U + 4095 + 65551 * U) (mLay3 sz nd ad U) := mLayL_ok (by decide) hz U 0 _ _ (by omega) (by omega) ((h2.page (by omega)).w (fun q hq => by omega) (Nat.le_refl _))
  have h4 : mLyOk nd z (fun q => q % 4 < 3 + 1 ∧ q < 4 * U) (0 + 65551 * U + 4095 + 65551 * U + 4095 + 65551 * U + 65551 * U) (mLay4 sz nd ad U) := mLayL_ok (by decide) hz U 0 _ _ (by omega) (by omega) (h3.w (fun q hq => by omega) (Nat.le_refl _))
  obtain ⟨a, en, q1, q2, q3, q4, q5⟩ := h4
  exact ⟨en, by omega, q2, fun q hq hn => q5 q (by omega) hn⟩

section MINW
variable {s : mSt} {e : Nat → Nat → Nat} {U S W T B : Nat}
/-- what is waited for, as a number -/
def mWk (F : Nat) (wh : Int32) : Nat := if wh = -1 then 0 else if wh < 0 then iN (-2 - wh) + 1 else F + iN wh + 5
theorem mWk_ok {F S : Nat} {wh : Int32} (hFS : F ≤ S) (hS : S ≤ 2048) (h1 : -5 ≤ wh) (h2 : wh < 0 ∨ wh < nI S - nI F) : (mWk F wh = 0 ∧ (if wh < 0 then wh else nI F + wh) = -1) ∨ (∃ c, c < 4 ∧ mWk F wh = c + 1 ∧ (if wh < 0 then wh else nI F + wh) = -2 - nI c) ∨ ∃ k, k < S ∧ mWk F wh = k + 5 ∧ (if wh < 0 then wh else nI F + wh) = nI k := by
  by_cases h : wh < 0
  · have hc : wh = -5 ∨ wh = -4 ∨ wh = -3 ∨ wh = -2 ∨ wh = -1 := by
      have g1 := Int32.le_iff_toInt_le.mp h1
      have g2 := Int32.lt_iff_toInt_lt.mp h
      have e1 : (-5 : Int32).toInt = -5 := by decide
      have e2 : (0 : Int32).toInt = 0 := by decide
      have e3 : (-4 : Int32).toInt = -4 := by decide
      have e4 : (-3 : Int32).toInt = -3 := by decide
      have e5 : (-2 : Int32).toInt = -2 := by decide
      have e6 : (-1 : Int32).toInt = -1 := by decide
      rcases (show wh.toInt = -5 ∨ wh.toInt = -4 ∨ wh.toInt = -3 ∨ wh.toInt = -2 ∨ wh.toInt = -1 by omega) with g | g | g | g | g
      · exact Or.inl (Int32.toInt_inj.mp (g.trans e1.symm))
      · exact Or.inr (Or.inl (Int32.toInt_inj.mp (g.trans e3.symm)))
      · exact Or.inr (Or.inr (Or.inl (Int32.toInt_inj.mp (g.trans e4.symm))))
      · exact Or.inr (Or.inr (Or.inr (Or.inl (Int32.toInt_inj.mp (g.trans e5.symm)))))
      · exact Or.inr (Or.inr (Or.inr (Or.inr (Int32.toInt_inj.mp (g.trans e6.symm)))))
    rcases hc with rfl | rfl | rfl | rfl | rfl
    · exact Or.inr (Or.inl ⟨3, by decide, rfl, (if_pos h).trans (by decide)⟩)
    · exact Or.inr (Or.inl ⟨2, by decide, rfl, (if_pos h).trans (by decide)⟩)
    · exact Or.inr (Or.inl ⟨1, by decide, rfl, (if_pos h).trans (by decide)⟩)
    · exact Or.inr (Or.inl ⟨0, by decide, rfl, (if_pos h).trans (by decide)⟩)
    · exact Or.inl ⟨rfl, if_pos h⟩
  · refine Or.inr (Or.inr ?_)
    obtain ⟨j, j1, rfl⟩ := nI_of h
    have h2 := h2.resolve_left h
    rw [pk_sub hFS] at h2
    have h2 := (nI_ltI j1 (by omega)).mp h2
    refine ⟨F + j, by omega, ?_, ?_⟩
    · rw [mWk, if_neg (i_m1 j1), if_neg h, iN, nI_clamp j1]
    · rw [if_neg h, nI_add]
theorem mInv.await (h : mInv s e U S W T B) {F : Nat} (hFS : F ≤ S) (a p n nx wh : Int32) (z : Int64) (l : Int32) (hk : mAwOk s U S F W a p n nx wh l) : mInv (mAwS s F W a p n nx wh z l) (va_up (va_up (va_up (va_up (va_up e 17 (va_up (e 17) W (U - 1))) 18 (va_up (e 18) W (iN a))) 19 (va_up (e 19) W (iN p))) 20 (va_up (e 20) W (iN n))) 22 (va_up (e 22) W (mWk F wh))) U S (W + 1) T B := by
  obtain ⟨k1, ⟨k2, k3, k4, k5, k6⟩, k7, k8, k9, k10, k11⟩ := hk
  have hWb := h.1.hWb
  have e1 : s.1 1 - 1 = nI (U - 1) := by rw [h.1.hU, show (1 : Int32) = nI 1 from rfl, pk_sub k2]
  obtain ⟨ja, ja1, ja2⟩ := nI_of2 (M := 2) (n := 2) (by decide) (Int32.not_lt.mpr k3) (by
    have q := Int32.lt_iff_toInt_lt.mp k4
    have q3 : (3 : Int32).toInt = 3 := by decide
    have q2 : (2 : Int32).toInt = 2 := by decide
    exact Int32.le_iff_toInt_le.mpr (by omega))
  obtain ⟨jp, jp1, jp2⟩ := nI_of (Int32.not_lt.mpr k5)
  have ia : iN a = ja := by rw [ja2, iN, nI_clamp (by omega)]
  have ip : iN p = jp := by rw [jp2, iN, nI_clamp jp1]
  obtain ⟨jn, jn1, jn2⟩ : ∃ j, j ≤ 8 ∧ n = nI j := by
    rcases k1 with k1 | k1
    · exact ⟨4, by decide, k1⟩
    · exact ⟨8, by decide, k1⟩
  have inn : iN n = jn := by rw [jn2, iN, nI_clamp (by omega)]
  have hq : 4 * (U - 1) + ja < 4 * U := by omega
  obtain ⟨⟨z1, z2⟩, -⟩ := h.1.i1 _ hq
  have hle : jp + jn ≤ e 5 (4 * (U - 1) + ja) := by
    have k6 : p ≤ s.2.1 5 (4 * (U - 1) + iN a) - n := k6
    rw [ia, z1, jp2, jn2] at k6
    exact ax_le3 jp1 (by omega) z2 k6
  refine ⟨⟨h.1.hU, h.1.hUb, h.1.hS, h.1.hSb, ?_, by omega, h.1.hT, h.1.hTb, h.1.hB, h.1.i1, h.1.i2, h.1.i3, ?_, h.1.i5, ?_, h.1.i7⟩, h.2⟩
  · show s.1 3 + 1 = _
    rw [h.1.hW, nI_1]
  · intro w hw
    show (va_up (s.2.1 17) W (s.1 1 - 1) w = nI (va_up (e 17) W (U - 1) w) ∧ va_up (e 17) W (U - 1) w < U) ∧ (va_up (s.2.1 18) W a w = nI (va_up (e 18) W (iN a) w) ∧ va_up (e 18) W (iN a) w < 3) ∧ ((va_up (e 22) W (mWk F wh) w = 0 ∧ va_up (s.2.1 22) W (if wh < 0 then wh else nI F + wh) w = -1) ∨ (∃ c, c < 4 ∧ va_up (e 22) W (mWk F wh) w = c + 1 ∧ va_up (s.2.1 22) W (if wh < 0 then wh else nI F + wh) w = -2 - nI c) ∨ ∃ k, k < S ∧ va_up (e 22) W (mWk F wh) w = k + 5 ∧ va_up (s.2.1 22) W (if wh < 0 then wh else nI F + wh) w = nI k)
    by_cases q : w = W
    · subst q
      rw [va_up_self, va_up_self, va_up_self, va_up_self, va_up_self, va_up_self]
      exact ⟨⟨e1, by omega⟩, ⟨by rw [ia]; exact ja2, by omega⟩, mWk_ok hFS h.1.hSb k10 k11⟩
    · rw [va_up_ne _ _ q, va_up_ne _ _ q, va_up_ne _ _ q, va_up_ne _ _ q, va_up_ne _ _ q, va_up_ne _ _ q]
      exact h.1.i4 w (by omega)
  · intro w hw
    show va_up (s.2.1 19) W p w = nI (va_up (e 19) W (iN p) w) ∧ va_up (s.2.1 20) W n w = nI (va_up (e 20) W (iN n) w) ∧ va_up (e 19) W (iN p) w + va_up (e 20) W (iN n) w ≤ e 5 (4 * va_up (e 17) W (U - 1) w + va_up (e 18) W (iN a) w)
    by_cases q : w = W
    · subst q
      rw [va_up_self, va_up_self, va_up_self, va_up_self, va_up_self, va_up_self, ia, ip, inn]
      exact ⟨jp2, jn2, hle⟩
    · rw [va_up_ne _ _ q, va_up_ne _ _ q, va_up_ne _ _ q, va_up_ne _ _ q, va_up_ne _ _ q, va_up_ne _ _ q]
      exact h.1.i6 w (by omega)
theorem mUS_a5 (s : mSt) (U B : Nat) (z : Nat → Nat) (l : Int32) : ∀ i, i ≤ 4 → ∀ q, (mUS s U B z l i).2.1 5 q = if q / 4 = U ∧ q % 4 < i then nI (z (q % 4)) else s.2.1 5 q
  | 0, _ => fun q => (if_neg (by omega)).symm
  | i + 1, hi => fun q => by
    show va_up ((mUS s U B z l i).2.1 5) (4 * U + i) (nI (z i)) q = _
    by_cases h : q = 4 * U + i
    · subst h
      rw [va_up_self, if_pos (by omega), show (4 * U + i) % 4 = i by omega]
    · rw [va_up_ne _ _ h, mUS_a5 s U B z l i (by omega) q]
      by_cases h2 : q / 4 = U ∧ q % 4 < i
      · rw [if_pos h2, if_pos (by omega)]
      · rw [if_neg h2, if_neg (by omega)]
theorem mUS_a6 (s : mSt) (U B : Nat) (z : Nat → Nat) (l : Int32) : ∀ i, i ≤ 4 → ∀ q, (mUS s U B z l i).2.1 6 q = if q / 4 = U ∧ q % 4 < i then nI (mBg B z (q % 4)) else s.2.1 6 q
  | 0, _ => fun q => (if_neg (by omega)).symm
  | i + 1, hi => fun q => by
    show va_up ((mUS s U B z l i).2.1 6) (4 * U + i) (nI (mBg B z i)) q = _
    by_cases h : q = 4 * U + i
    · subst h
      rw [va_up_self, if_pos (by omega), show (4 * U + i) % 4 = i by omega]
    · rw [va_up_ne _ _ h, mUS_a6 s U B z l i (by omega) q]
      by_cases h2 : q / 4 = U ∧ q % 4 < i
      · rw [if_pos h2, if_pos (by omega)]
      · rw [if_neg h2, if_neg (by omega)]
def mE5 (e : Nat → Nat) (U : Nat) (z : Nat → Nat) : Nat → Nat := fun q => if q / 4 = U then z (q % 4) else e q
theorem mInv.unit (h : mInv s e U S W T B) (z : Nat → Nat) (l : Int32) (hU : U < 32) (hz : ∀ i, z i ≤ 65536) (hB : B + z 0 + z 1 + z 2 ≤ 262144) : mInv (va_up (mUS s U B z l 4).1 1 (nI (U + 1)), (mUS s U B z l 4).2) (va_up (va_up (va_up e 5 (mE5 (e 5) U z)) 6 (mE5 (e 6) U (mBg B z))) 16 (va_up (e 16) U S)) (U + 1) S W T (B + z 0 + z 1 + z 2) := by
  have e0 : mBg B z 0 = B := rfl
  have e1 : mBg B z 1 = B + z 0 := rfl
  have e2 : mBg B z 2 = B + z 0 + z 1 := rfl
  have e3 : mBg B z 3 = B + z 0 + z 1 + z 2 := rfl
  refine ⟨⟨rfl, hU, h.1.hS, h.1.hSb, h.1.hW, h.1.hWb, h.1.hT, h.1.hTb, hB, ?_, ?_, h.1.i3, ?_, ?_, ?_, ?_⟩, rfl, h.2.2⟩
  · intro q hq
    show ((mUS s U B z l 4).2.1 5 q = nI (mE5 (e 5) U z q) ∧ mE5 (e 5) U z q ≤ 65536) ∧ (mUS s U B z l 4).2.1 6 q = nI (mE5 (e 6) U (mBg B z) q) ∧ mE5 (e 6) U (mBg B z) q + (if q % 4 < 3 then mE5 (e 5) U z q else 0) ≤ B + z 0 + z 1 + z 2
    rw [mUS_a5 s U B z l 4 (by omega), mUS_a6 s U B z l 4 (by omega)]
    by_cases hq4 : q / 4 = U
    · have e5 : mE5 (e 5) U z q = z (q % 4) := if_pos hq4
      have e6 : mE5 (e 6) U (mBg B z) q = mBg B z (q % 4) := if_pos hq4
      rw [if_pos ⟨hq4, by omega⟩, if_pos ⟨hq4, by omega⟩, e5, e6]
      refine ⟨⟨rfl, hz _⟩, rfl, ?_⟩
      rcases (show q % 4 = 0 ∨ q % 4 = 1 ∨ q % 4 = 2 ∨ q % 4 = 3 by omega) with g | g | g | g
      · rw [g, e0, if_pos (by decide)]; omega
      · rw [g, e1, if_pos (by decide)]; omega
      · rw [g, e2, if_pos (by decide)]; omega
      · rw [g, e3, if_neg (by decide)]; omega
    · have e5 : mE5 (e 5) U z q = e 5 q := if_neg hq4
      have e6 : mE5 (e 6) U (mBg B z) q = e 6 q := if_neg hq4
      rw [if_neg (fun g => hq4 g.1), if_neg (fun g => hq4 g.1), e5, e6]
      obtain ⟨b1, b2, b3⟩ := h.1.i1 q (by omega)
      exact ⟨b1, b2, by omega⟩
  · intro k hk
    obtain ⟨b1, b2⟩ := h.1.i2 k hk
    exact ⟨b1, Nat.lt_succ_of_lt b2⟩
  · intro w hw
    obtain ⟨⟨b1, b2⟩, b3⟩ := h.1.i4 w hw
    exact ⟨⟨b1, Nat.lt_succ_of_lt b2⟩, b3⟩
  · intro k hk
    obtain ⟨b1, b2⟩ := h.1.i5 k hk
    exact ⟨b1, Nat.lt_succ_of_lt b2⟩
  · intro w hw
    obtain ⟨⟨b1, b2⟩, ⟨b3, b4⟩, -⟩ := h.1.i4 w hw
    obtain ⟨c1, c2, c3⟩ := h.1.i6 w hw
    refine ⟨c1, c2, ?_⟩
    show e 19 w + e 20 w ≤ mE5 (e 5) U z (4 * e 17 w + e 18 w)
    rw [mE5, if_neg (by omega)]
    exact c3
  · intro u hu
    show va_up (s.2.1 16) U (s.1 2) u = nI (va_up (e 16) U S u) ∧ va_up (e 16) U S u ≤ S
    by_cases q : u = U
    · subst q
      rw [va_up_self, va_up_self]
      exact ⟨h.1.hS, Nat.le_refl _⟩
    · rw [va_up_ne _ _ q, va_up_ne _ _ q]
      exact h.1.i7 u (by omega)
end MINW

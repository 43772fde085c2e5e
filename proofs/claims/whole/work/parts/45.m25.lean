/-- what holds of the reference's state between calls -/
def mInv (s : mSt) (e : Nat → Nat → Nat) (U S W T B : Nat) : Prop := mHy s e U S W T B ∧ s.1 5 = nI B ∧ (∃ n, n ≤ 262144 ∧ s.1 39 = nI n) ∧ (∃ n, n ≤ 2048 ∧ s.1 42 = nI n) ∧ ∃ n, n ≤ 8192 ∧ s.1 43 = nI n
theorem mInv.new (e : Nat → Nat → Nat) : mInv mNew e 0 0 0 0 0 := ⟨⟨rfl, by decide, rfl, by decide, rfl, by decide, rfl, by decide, by decide, fun q hq => absurd hq (by omega), fun q hq => absurd hq (by omega), fun q hq => absurd hq (by omega), fun q hq => absurd hq (by omega), fun q hq => absurd hq (by omega), fun q hq => absurd hq (by omega), fun q hq => absurd hq (by omega)⟩, rfl, ⟨0, by decide, rfl⟩, ⟨0, by decide, rfl⟩, ⟨0, by decide, rfl⟩⟩
section MINV
variable {s : mSt} {e : Nat → Nat → Nat} {U S W T B : Nat}
theorem mInv.ret (h : mInv s e U S W T B) (c : Int32) : mInv (va_up s.1 0 c, s.2) e U S W T B := h
theorem mInv.clear (h : mInv s e U S W T B) : mInv (va_up (va_up (va_up (va_up (va_up (va_up (va_up s.1 0 0) 1 0) 2 0) 3 0) 4 0) 5 0) 36 0, s.2) e 0 0 0 0 0 := ⟨⟨rfl, by decide, rfl, by decide, rfl, by decide, rfl, by decide, by decide, fun q hq => absurd hq (by omega), fun q hq => absurd hq (by omega), fun q hq => absurd hq (by omega), fun q hq => absurd hq (by omega), fun q hq => absurd hq (by omega), fun q hq => absurd hq (by omega), fun q hq => absurd hq (by omega)⟩, rfl, h.2.2⟩
theorem mInv.put (h : mInv s e U S W T B) (a p : Int32) (v : Int64) (n : Int32) : mInv (mPut s U a p v n) e U S W T B := by
  rw [mPut]
  by_cases q : mPutOk s U a p n
  · rw [if_pos q]
    exact h
  · rw [if_neg q]
    exact h
theorem mInv.keep (h : mInv s e U S W T B) (a : Int32) : mInv (va_up s.1 0 0, (if mKeepOk U a then va_up s.2.1 2 (va_up (s.2.1 2) (4 * (U - 1) + a.toNatClampNeg) 1) else s.2.1), s.2.2) e U S W T B := by
  by_cases q : mKeepOk U a
  · rw [if_pos q]
    exact h
  · rw [if_neg q]
    exact h
/-- one more at the end -/
theorem mApp {f : Nat → Int32} {g : Nat → Nat} {n : Nat} {x : Int32} {y : Nat} {Q : Nat → Prop} (h : ∀ k, k < n → f k = nI (g k) ∧ Q (g k)) (hx : x = nI y) (hy : Q y) : ∀ k, k < n + 1 → va_up f n x k = nI (va_up g n y k) ∧ Q (va_up g n y k) := by
  intro k hk
  by_cases q : k = n
  · subst q
    rw [va_up_self, va_up_self]
    exact ⟨hx, hy⟩
  · rw [va_up_ne _ _ q, va_up_ne _ _ q]
    exact h k (by omega)
theorem mInv.start (h : mInv s e U S W T B) (p l : Int32) (hk : mStartOk s U T p l) : mInv (mStart s U T p l) (va_up e 25 (va_up (e 25) T (U - 1))) U S W (T + 1) B := by
  rw [mStart, if_pos hk]
  have e1 : s.1 1 - 1 = nI (U - 1) := by rw [h.1.hU, show (1 : Int32) = nI 1 from rfl, pk_sub hk.1]
  have hT := h.1.hTb
  refine ⟨⟨h.1.hU, h.1.hUb, h.1.hS, h.1.hSb, h.1.hW, h.1.hWb, ?_, ?_, h.1.hB, h.1.i1, h.1.i2, h.1.i3, h.1.i4, ?_, h.1.i6, h.1.i7⟩, h.2⟩
  · show s.1 4 + 1 = _
    rw [h.1.hT, nI_1]
  · have := hk.2.2.2.2
    omega
  · exact mApp (Q := fun y => y < U) h.1.i5 e1 (by have := hk.1; omega)
theorem i_sec {a : Int32} (h1 : -1 ≤ a) (h2 : a ≤ 3) : a = -1 ∨ (iN a < 4 ∧ a = nI (iN a)) := by
  by_cases h : a < 0
  · refine Or.inl ?_
    have h1 := Int32.le_iff_toInt_le.mp h1
    have h := Int32.lt_iff_toInt_lt.mp h
    apply Int32.toInt_inj.mp
    have e1 : (-1 : Int32).toInt = -1 := by decide
    have e2 : (0 : Int32).toInt = 0 := by decide
    omega
  · obtain ⟨j, j1, j2⟩ := nI_of2 (M := 3) (n := 3) (by decide) h h2
    rw [j2, iN, nI_clamp (by omega)]
    exact Or.inr ⟨by omega, rfl⟩
theorem mInv.symbol (h : mInv s e U S W T B) {F : Nat} (w : Int64) (n mk a p l : Int32) (hk : mSymOk s U S F w n mk a p l) : mInv (mSymS s S w n mk a p l) (va_up (va_up e 11 (va_up (e 11) S (U - 1))) 13 (va_up (e 13) S (iN a))) U (S + 1) W T B := by
  obtain ⟨⟨k1, k2, k3, k4, k5, k6⟩, k7, k8⟩ := hk
  have e1 : s.1 1 - 1 = nI (U - 1) := by rw [h.1.hU, show (1 : Int32) = nI 1 from rfl, pk_sub k1]
  refine ⟨⟨h.1.hU, h.1.hUb, ?_, k6, h.1.hW, h.1.hWb, h.1.hT, h.1.hTb, h.1.hB, h.1.i1, ?_, ?_, ?_, h.1.i5, h.1.i6, ?_⟩, h.2⟩
  · show s.1 2 + 1 = _
    rw [h.1.hS, nI_1]
  · exact mApp (Q := fun y => y < U) h.1.i2 e1 (by omega)
  · intro k hk
    show va_up (s.2.1 13) S a k = -1 ∨ (va_up (e 13) S (iN a) k < 4 ∧ va_up (s.2.1 13) S a k = nI (va_up (e 13) S (iN a) k))
    by_cases q : k = S
    · subst q
      rw [va_up_self, va_up_self]
      exact i_sec k4.1 k4.2
    · rw [va_up_ne _ _ q, va_up_ne _ _ q]
      exact h.1.i3 k (by omega)
  · intro w hw
    obtain ⟨b1, b2, b3⟩ := h.1.i4 w hw
    refine ⟨b1, b2, ?_⟩
    rcases b3 with b3 | b3 | ⟨k, c1, c2, c3⟩
    · exact Or.inl b3
    · exact Or.inr (Or.inl b3)
    · exact Or.inr (Or.inr ⟨k, by omega, c2, c3⟩)
  · intro u hu
    obtain ⟨b1, b2⟩ := h.1.i7 u hu
    exact ⟨b1, Nat.le_succ_of_le b2⟩
end MINV

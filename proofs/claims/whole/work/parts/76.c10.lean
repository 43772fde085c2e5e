theorem cR.ext1 {o : Nat} {c c2 : cSt} {h : ax_H} {E : ax_E} {n K J : Nat} (hR : cR o c h) (hK : 17 ≤ K) (ht : c2.2.2.2.2.2 5 = h.1 + 1) (hn : cAd o c2.2.2.2.2 K J = h.1) (hE : cE o c2 K J = E) (hc : ∀ k i, cV c2.2.2.2.2 k i → (cV c.2.2.2.2 k i ∧ cAd o c2.2.2.2.2 k i = cAd o c.2.2.2.2 k i ∧ cE o c2 k i = cE o c k i) ∨ (k = K ∧ i = J)) (hx : (∀ i, i < c2.2.2.2.2.2 2 → c2.2.2.2.2.1 5 i < c2.2.2.2.2.2 1) ∧ (∀ i, i < c2.2.2.2.2.2 3 → c2.2.2.2.2.1 6 i < 4 * c2.2.2.2.2.2 0) ∧ (∀ i, i < c2.2.2.2.2.2 4 → c2.2.2.2.2.1 7 i < 4 * c2.2.2.2.2.2 0)) : cR o c2 (ax_new h E n) := by
  have h1 := hR.2.1
  refine hR.ext (fun a ha => ax_new_ne _ _ (by omega)) (by rw [ht]; omega) (by rw [ht]; exact Nat.le_refl _) (fun k i hv => ?_) (fun k i k2 i2 v1 v2 q1 q2 => ?_) hx
  · rcases hc k i hv with q | ⟨rfl, rfl⟩
    · exact Or.inl q
    · refine Or.inr ⟨hK, by rw [hn]; exact h1, by rw [hn, ht]; omega, ?_⟩
      rw [hn, hE]
      exact ax_new_self _ _
  · have old : ∀ k i, cV c.2.2.2.2 k i → cAd o c.2.2.2.2 k i < c.2.2.2.2.2 5 := fun k i hv => Nat.lt_of_not_le (fun q => hR.out hv (Or.inr q) rfl)
    have new : ∀ k i, cV c2.2.2.2.2 k i → c.2.2.2.2.2 5 ≤ cAd o c2.2.2.2.2 k i → k = K ∧ i = J := by
      intro k i v q
      rcases hc k i v with ⟨a1, a2, a3⟩ | z
      · rw [a2] at q
        exact absurd (old k i a1) (by omega)
      · exact z
    have z1 := new k i v1 q1
    have z2 := new k2 i2 v2 (by rw [← q2]; exact q1)
    exact ⟨z1.1.trans z2.1.symm, z1.2.trans z2.2.symm⟩
theorem va_up_lt {f : Nat → Nat} {J q B : Nat} (hf : ∀ i, i < J → f i < B) (hq : q < B) : ∀ i, i < J + 1 → va_up f J q i < B := by
  intro i hi
  by_cases e : i = J
  · rw [e, va_up_self]
    exact hq
  · rw [va_up_ne _ _ e]
    exact hf i (by omega)
theorem cFr.lawN {o t n : Nat} {h h2 : ax_H} {E : ax_E} (f : cFr o t (ax_new h E n) h2) (h54 : o + 54 ≤ h.1) : lawF (o + 17) (o + 53) h h2 := ⟨fun k hk => (f.2.2 _ (Or.inl (by omega))).trans (ax_new_ne _ _ (by omega)), (f.2.2 _ (Or.inl (by omega))).trans (ax_new_ne _ _ (by omega))⟩
theorem cRm.frN {o t n k : Nat} {h h2 : ax_H} {E : ax_E} (r : cRm o (n + 1) h) (f : cFr o t (ax_new h E k) h2) (hk : k ≤ 40) : cRm o n h2 := by
  have e1 : h2.1 = h.1 + 1 := f.1
  have e2 : h2.2.1 = h.2.1 + k := f.2.1
  unfold cRm at r ⊢
  rw [e1, e2]
  omega
theorem cR.h54 {o : Nat} {c : cSt} {h : ax_H} (hR : cR o c h) : o + 54 ≤ h.1 := Nat.le_trans hR.1.2.2.1 hR.2.1
abbrev cAddT (c : cSt) (h : ax_H) (q : Nat) (p l : Int32) : cSt := (c.1, va_up (va_up c.2.1 40 (va_up (c.2.1 40) (c.2.2.2.2.2 4) p)) 41 (va_up (c.2.1 41) (c.2.2.2.2.2 4) l), c.2.2.1, c.2.2.2.1, (va_up (va_up c.2.2.2.2.1 4 (va_up (c.2.2.2.2.1 4) (c.2.2.2.2.2 4) h.1)) 7 (va_up (c.2.2.2.2.1 7) (c.2.2.2.2.2 4) q), va_up (va_up c.2.2.2.2.2 4 (c.2.2.2.2.2 4 + 1)) 5 (h.1 + 1)))
set_option maxRecDepth 20000 in
theorem cR.addT {o n : Nat} {c : cSt} {h : ax_H} (hR : cR o c h) (q : Nat) (p l : Int32) (hq : q < 4 * c.2.2.2.2.2 0) : cR o (cAddT c h q p l) (ax_new h (.inr (8, [.ref (cQ c.2.2.2.2 q), .int (p), .int (l)])) n) := by
  have hS := hR.1
  refine hR.ext1 (K := 22) (J := (c.2.2.2.2.2 4)) (by decide) rfl ?_ ?_ (fun k i hv => ?_) ?_
  · show (va_up (va_up c.2.2.2.2.1 4 (va_up (c.2.2.2.2.1 4) (c.2.2.2.2.2 4) h.1)) 7 (va_up (c.2.2.2.2.1 7) (c.2.2.2.2.2 4) q)) 4 (c.2.2.2.2.2 4) = h.1
    show va_up (c.2.2.2.2.1 4) (c.2.2.2.2.2 4) h.1 (c.2.2.2.2.2 4) = h.1
    rw [va_up_self]
  · show (Sum.inr (8, [.ref (cQ c.2.2.2.2 (va_up (c.2.2.2.2.1 7) (c.2.2.2.2.2 4) q (c.2.2.2.2.2 4))), .int (va_up (c.2.1 40) (c.2.2.2.2.2 4) p (c.2.2.2.2.2 4)), .int (va_up (c.2.1 41) (c.2.2.2.2.2 4) l (c.2.2.2.2.2 4))]) : ax_E) = _
    rw [va_up_self, va_up_self, va_up_self]
  · obtain ⟨v1, v2⟩ := hv
    match k, v1, v2 with
    | 0, v1, v2 => exact Or.inl ⟨⟨v1, v2⟩, rfl, rfl⟩
    | 1, v1, v2 => exact Or.inl ⟨⟨v1, v2⟩, rfl, rfl⟩
    | 2, v1, v2 => exact Or.inl ⟨⟨v1, v2⟩, rfl, rfl⟩
    | 3, v1, v2 => exact Or.inl ⟨⟨v1, v2⟩, rfl, rfl⟩
    | 4, v1, v2 => exact Or.inl ⟨⟨v1, v2⟩, rfl, rfl⟩
    | 5, v1, v2 => exact Or.inl ⟨⟨v1, v2⟩, rfl, rfl⟩
    | 6, v1, v2 => exact Or.inl ⟨⟨v1, v2⟩, rfl, rfl⟩
    | 7, v1, v2 => exact Or.inl ⟨⟨v1, v2⟩, rfl, rfl⟩
    | 8, v1, v2 => exact Or.inl ⟨⟨v1, v2⟩, rfl, rfl⟩
    | 9, v1, v2 => exact Or.inl ⟨⟨v1, v2⟩, rfl, rfl⟩
    | 10, v1, v2 => exact Or.inl ⟨⟨v1, v2⟩, rfl, rfl⟩
    | 11, v1, v2 => exact Or.inl ⟨⟨v1, v2⟩, rfl, rfl⟩
    | 12, v1, v2 => exact Or.inl ⟨⟨v1, v2⟩, rfl, rfl⟩
    | 13, v1, v2 => exact Or.inl ⟨⟨v1, v2⟩, rfl, rfl⟩
    | 14, v1, v2 => exact Or.inl ⟨⟨v1, v2⟩, rfl, rfl⟩
    | 15, v1, v2 => exact Or.inl ⟨⟨v1, v2⟩, rfl, rfl⟩
    | 16, v1, v2 => exact Or.inl ⟨⟨v1, v2⟩, rfl, rfl⟩
    | 17, v1, v2 => exact Or.inl ⟨⟨v1, v2⟩, rfl, rfl⟩
    | 18, v1, v2 => exact Or.inl ⟨⟨v1, v2⟩, rfl, rfl⟩
    | 19, v1, v2 => exact Or.inl ⟨⟨v1, v2⟩, rfl, rfl⟩
    | 20, v1, v2 => exact Or.inl ⟨⟨v1, v2⟩, rfl, rfl⟩
    | 21, v1, v2 => exact Or.inl ⟨⟨v1, v2⟩, rfl, rfl⟩
    | 22, v1, v2 =>
      have v2 : i < (c.2.2.2.2.2 4) + 1 := v2
      by_cases hi : i = (c.2.2.2.2.2 4)
      · exact Or.inr ⟨rfl, hi⟩
      · refine Or.inl ⟨⟨v1, show i < (c.2.2.2.2.2 4) by omega⟩, ?_, ?_⟩
        · show va_up (c.2.2.2.2.1 4) (c.2.2.2.2.2 4) h.1 i = c.2.2.2.2.1 4 i
          rw [va_up_ne _ _ hi]
        · show (Sum.inr (8, [.ref (cQ c.2.2.2.2 (va_up (c.2.2.2.2.1 7) (c.2.2.2.2.2 4) q i)), .int (va_up (c.2.1 40) (c.2.2.2.2.2 4) p i), .int (va_up (c.2.1 41) (c.2.2.2.2.2 4) l i)]) : ax_E) = Sum.inr (8, [.ref (cQ c.2.2.2.2 (c.2.2.2.2.1 7 i)), .int (c.2.1 40 i), .int (c.2.1 41 i)])
          rw [va_up_ne _ _ hi, va_up_ne _ _ hi, va_up_ne _ _ hi]
    | 23, v1, v2 => exact Or.inl ⟨⟨v1, v2⟩, rfl, rfl⟩
    | k + 24, v1, _ => exact absurd v1 (by omega)
  · refine ⟨hS.2.2.2.1, hS.2.2.2.2.1, va_up_lt hS.2.2.2.2.2 hq⟩
abbrev cAddN (c : cSt) (h : ax_H) (w : Int64) (z : Int32) : cSt := (c.1, va_up (va_up (va_up c.2.1 29 (va_up (c.2.1 29) (c.2.2.2.2.2 1) z)) 30 (va_up (c.2.1 30) (c.2.2.2.2.2 1) 0)) 31 (va_up (c.2.1 31) (c.2.2.2.2.2 1) 0), va_up c.2.2.1 42 (va_up (c.2.2.1 42) (c.2.2.2.2.2 1) w), va_up (va_up c.2.2.2.1 44 (va_up (c.2.2.2.1 44) (c.2.2.2.2.2 1) none)) 45 (va_up (c.2.2.2.1 45) (c.2.2.2.2.2 1) none), (va_up c.2.2.2.2.1 1 (va_up (c.2.2.2.2.1 1) (c.2.2.2.2.2 1) h.1), va_up (va_up c.2.2.2.2.2 1 (c.2.2.2.2.2 1 + 1)) 5 (h.1 + 1)))
set_option maxRecDepth 20000 in
theorem cR.addN {o n : Nat} {c : cSt} {h : ax_H} (hR : cR o c h) (w : Int64) (z : Int32)  : cR o (cAddN c h w z) (ax_new h (.inr (5, [.long (w), .int (z), .int (0), .int (0), va_rf (none), va_rf (none)])) n) := by
  have hS := hR.1
  refine hR.ext1 (K := 19) (J := (c.2.2.2.2.2 1)) (by decide) rfl ?_ ?_ (fun k i hv => ?_) ?_
  · show (va_up c.2.2.2.2.1 1 (va_up (c.2.2.2.2.1 1) (c.2.2.2.2.2 1) h.1)) 1 (c.2.2.2.2.2 1) = h.1
    show va_up (c.2.2.2.2.1 1) (c.2.2.2.2.2 1) h.1 (c.2.2.2.2.2 1) = h.1
    rw [va_up_self]
  · show (Sum.inr (5, [.long (va_up (c.2.2.1 42) (c.2.2.2.2.2 1) w (c.2.2.2.2.2 1)), .int (va_up (c.2.1 29) (c.2.2.2.2.2 1) z (c.2.2.2.2.2 1)), .int (va_up (c.2.1 30) (c.2.2.2.2.2 1) 0 (c.2.2.2.2.2 1)), .int (va_up (c.2.1 31) (c.2.2.2.2.2 1) 0 (c.2.2.2.2.2 1)), va_rf (va_up (c.2.2.2.1 44) (c.2.2.2.2.2 1) none (c.2.2.2.2.2 1)), va_rf (va_up (c.2.2.2.1 45) (c.2.2.2.2.2 1) none (c.2.2.2.2.2 1))]) : ax_E) = _
    rw [va_up_self, va_up_self, va_up_self, va_up_self, va_up_self, va_up_self]
  · obtain ⟨v1, v2⟩ := hv
    match k, v1, v2 with
    | 0, v1, v2 => exact Or.inl ⟨⟨v1, v2⟩, rfl, rfl⟩
    | 1, v1, v2 => exact Or.inl ⟨⟨v1, v2⟩, rfl, rfl⟩
    | 2, v1, v2 => exact Or.inl ⟨⟨v1, v2⟩, rfl, rfl⟩
    | 3, v1, v2 => exact Or.inl ⟨⟨v1, v2⟩, rfl, rfl⟩
    | 4, v1, v2 => exact Or.inl ⟨⟨v1, v2⟩, rfl, rfl⟩
    | 5, v1, v2 => exact Or.inl ⟨⟨v1, v2⟩, rfl, rfl⟩
    | 6, v1, v2 => exact Or.inl ⟨⟨v1, v2⟩, rfl, rfl⟩
    | 7, v1, v2 => exact Or.inl ⟨⟨v1, v2⟩, rfl, rfl⟩
    | 8, v1, v2 => exact Or.inl ⟨⟨v1, v2⟩, rfl, rfl⟩
    | 9, v1, v2 => exact Or.inl ⟨⟨v1, v2⟩, rfl, rfl⟩
    | 10, v1, v2 => exact Or.inl ⟨⟨v1, v2⟩, rfl, rfl⟩
    | 11, v1, v2 => exact Or.inl ⟨⟨v1, v2⟩, rfl, rfl⟩
    | 12, v1, v2 => exact Or.inl ⟨⟨v1, v2⟩, rfl, rfl⟩
    | 13, v1, v2 => exact Or.inl ⟨⟨v1, v2⟩, rfl, rfl⟩
    | 14, v1, v2 => exact Or.inl ⟨⟨v1, v2⟩, rfl, rfl⟩
    | 15, v1, v2 => exact Or.inl ⟨⟨v1, v2⟩, rfl, rfl⟩
    | 16, v1, v2 => exact Or.inl ⟨⟨v1, v2⟩, rfl, rfl⟩
    | 17, v1, v2 => exact Or.inl ⟨⟨v1, v2⟩, rfl, rfl⟩
    | 18, v1, v2 => exact Or.inl ⟨⟨v1, v2⟩, rfl, rfl⟩
    | 19, v1, v2 =>
      have v2 : i < (c.2.2.2.2.2 1) + 1 := v2
      by_cases hi : i = (c.2.2.2.2.2 1)
      · exact Or.inr ⟨rfl, hi⟩
      · refine Or.inl ⟨⟨v1, show i < (c.2.2.2.2.2 1) by omega⟩, ?_, ?_⟩
        · show va_up (c.2.2.2.2.1 1) (c.2.2.2.2.2 1) h.1 i = c.2.2.2.2.1 1 i
          rw [va_up_ne _ _ hi]
        · show (Sum.inr (5, [.long (va_up (c.2.2.1 42) (c.2.2.2.2.2 1) w i), .int (va_up (c.2.1 29) (c.2.2.2.2.2 1) z i), .int (va_up (c.2.1 30) (c.2.2.2.2.2 1) 0 i), .int (va_up (c.2.1 31) (c.2.2.2.2.2 1) 0 i), va_rf (va_up (c.2.2.2.1 44) (c.2.2.2.2.2 1) none i), va_rf (va_up (c.2.2.2.1 45) (c.2.2.2.2.2 1) none i)]) : ax_E) = Sum.inr (5, [.long (c.2.2.1 42 i), .int (c.2.1 29 i), .int (c.2.1 30 i), .int (c.2.1 31 i), va_rf (c.2.2.2.1 44 i), va_rf (c.2.2.2.1 45 i)])
          rw [va_up_ne _ _ hi, va_up_ne _ _ hi, va_up_ne _ _ hi, va_up_ne _ _ hi, va_up_ne _ _ hi, va_up_ne _ _ hi]
    | 20, v1, v2 =>
      have hlt : c.2.2.2.2.1 5 i < c.2.2.2.2.2 1 := hS.2.2.2.1 i v2
      refine Or.inl ⟨⟨v1, v2⟩, rfl, ?_⟩
      show (Sum.inr (6, [.ref (va_up (c.2.2.2.2.1 1) (c.2.2.2.2.2 1) h.1 (c.2.2.2.2.1 5 i)), .int (c.2.1 32 i), .int (c.2.1 33 i), va_rf (c.2.2.2.1 46 i), .int (c.2.1 34 i), .int (c.2.1 35 i)]) : ax_E) = Sum.inr (6, [.ref (c.2.2.2.2.1 1 (c.2.2.2.2.1 5 i)), .int (c.2.1 32 i), .int (c.2.1 33 i), va_rf (c.2.2.2.1 46 i), .int (c.2.1 34 i), .int (c.2.1 35 i)])
      rw [va_up_ne _ _ (by omega)]
    | 21, v1, v2 => exact Or.inl ⟨⟨v1, v2⟩, rfl, rfl⟩
    | 22, v1, v2 => exact Or.inl ⟨⟨v1, v2⟩, rfl, rfl⟩
    | 23, v1, v2 => exact Or.inl ⟨⟨v1, v2⟩, rfl, rfl⟩
    | k + 24, v1, _ => exact absurd v1 (by omega)
  · refine ⟨fun i hi => ?_, hS.2.2.2.2.1, hS.2.2.2.2.2⟩
    have := hS.2.2.2.1 i hi
    show _ < c.2.2.2.2.2 1 + 1
    exact Nat.lt_succ_of_lt this
abbrev cAddS (c : cSt) (h : ax_H) (q : Nat) (gl wk p l : Int32) (r : Option Nat) : cSt := (c.1, va_up (va_up (va_up (va_up c.2.1 32 (va_up (c.2.1 32) (c.2.2.2.2.2 2) gl)) 33 (va_up (c.2.1 33) (c.2.2.2.2.2 2) wk)) 34 (va_up (c.2.1 34) (c.2.2.2.2.2 2) p)) 35 (va_up (c.2.1 35) (c.2.2.2.2.2 2) l), c.2.2.1, va_up c.2.2.2.1 46 (va_up (c.2.2.2.1 46) (c.2.2.2.2.2 2) r), (va_up (va_up c.2.2.2.2.1 2 (va_up (c.2.2.2.2.1 2) (c.2.2.2.2.2 2) h.1)) 5 (va_up (c.2.2.2.2.1 5) (c.2.2.2.2.2 2) q), va_up (va_up c.2.2.2.2.2 2 (c.2.2.2.2.2 2 + 1)) 5 (h.1 + 1)))
set_option maxRecDepth 20000 in
theorem cR.addS {o n : Nat} {c : cSt} {h : ax_H} (hR : cR o c h) (q : Nat) (gl wk p l : Int32) (r : Option Nat) (hq : q < c.2.2.2.2.2 1) : cR o (cAddS c h q gl wk p l r) (ax_new h (.inr (6, [.ref (c.2.2.2.2.1 1 q), .int (gl), .int (wk), va_rf (r), .int (p), .int (l)])) n) := by
  have hS := hR.1
  refine hR.ext1 (K := 20) (J := (c.2.2.2.2.2 2)) (by decide) rfl ?_ ?_ (fun k i hv => ?_) ?_
  · show (va_up (va_up c.2.2.2.2.1 2 (va_up (c.2.2.2.2.1 2) (c.2.2.2.2.2 2) h.1)) 5 (va_up (c.2.2.2.2.1 5) (c.2.2.2.2.2 2) q)) 2 (c.2.2.2.2.2 2) = h.1
    show va_up (c.2.2.2.2.1 2) (c.2.2.2.2.2 2) h.1 (c.2.2.2.2.2 2) = h.1
    rw [va_up_self]
  · show (Sum.inr (6, [.ref (c.2.2.2.2.1 1 (va_up (c.2.2.2.2.1 5) (c.2.2.2.2.2 2) q (c.2.2.2.2.2 2))), .int (va_up (c.2.1 32) (c.2.2.2.2.2 2) gl (c.2.2.2.2.2 2)), .int (va_up (c.2.1 33) (c.2.2.2.2.2 2) wk (c.2.2.2.2.2 2)), va_rf (va_up (c.2.2.2.1 46) (c.2.2.2.2.2 2) r (c.2.2.2.2.2 2)), .int (va_up (c.2.1 34) (c.2.2.2.2.2 2) p (c.2.2.2.2.2 2)), .int (va_up (c.2.1 35) (c.2.2.2.2.2 2) l (c.2.2.2.2.2 2))]) : ax_E) = _
    rw [va_up_self, va_up_self, va_up_self, va_up_self, va_up_self, va_up_self]
  · obtain ⟨v1, v2⟩ := hv
    match k, v1, v2 with
    | 0, v1, v2 => exact Or.inl ⟨⟨v1, v2⟩, rfl, rfl⟩
    | 1, v1, v2 => exact Or.inl ⟨⟨v1, v2⟩, rfl, rfl⟩
    | 2, v1, v2 => exact Or.inl ⟨⟨v1, v2⟩, rfl, rfl⟩
    | 3, v1, v2 => exact Or.inl ⟨⟨v1, v2⟩, rfl, rfl⟩
    | 4, v1, v2 => exact Or.inl ⟨⟨v1, v2⟩, rfl, rfl⟩
    | 5, v1, v2 => exact Or.inl ⟨⟨v1, v2⟩, rfl, rfl⟩
    | 6, v1, v2 => exact Or.inl ⟨⟨v1, v2⟩, rfl, rfl⟩
    | 7, v1, v2 => exact Or.inl ⟨⟨v1, v2⟩, rfl, rfl⟩
    | 8, v1, v2 => exact Or.inl ⟨⟨v1, v2⟩, rfl, rfl⟩
    | 9, v1, v2 => exact Or.inl ⟨⟨v1, v2⟩, rfl, rfl⟩
    | 10, v1, v2 => exact Or.inl ⟨⟨v1, v2⟩, rfl, rfl⟩
    | 11, v1, v2 => exact Or.inl ⟨⟨v1, v2⟩, rfl, rfl⟩
    | 12, v1, v2 => exact Or.inl ⟨⟨v1, v2⟩, rfl, rfl⟩
    | 13, v1, v2 => exact Or.inl ⟨⟨v1, v2⟩, rfl, rfl⟩
    | 14, v1, v2 => exact Or.inl ⟨⟨v1, v2⟩, rfl, rfl⟩
    | 15, v1, v2 => exact Or.inl ⟨⟨v1, v2⟩, rfl, rfl⟩
    | 16, v1, v2 => exact Or.inl ⟨⟨v1, v2⟩, rfl, rfl⟩
    | 17, v1, v2 => exact Or.inl ⟨⟨v1, v2⟩, rfl, rfl⟩
    | 18, v1, v2 => exact Or.inl ⟨⟨v1, v2⟩, rfl, rfl⟩
    | 19, v1, v2 => exact Or.inl ⟨⟨v1, v2⟩, rfl, rfl⟩
    | 20, v1, v2 =>
      have v2 : i < (c.2.2.2.2.2 2) + 1 := v2
      by_cases hi : i = (c.2.2.2.2.2 2)
      · exact Or.inr ⟨rfl, hi⟩
      · refine Or.inl ⟨⟨v1, show i < (c.2.2.2.2.2 2) by omega⟩, ?_, ?_⟩
        · show va_up (c.2.2.2.2.1 2) (c.2.2.2.2.2 2) h.1 i = c.2.2.2.2.1 2 i
          rw [va_up_ne _ _ hi]
        · show (Sum.inr (6, [.ref (c.2.2.2.2.1 1 (va_up (c.2.2.2.2.1 5) (c.2.2.2.2.2 2) q i)), .int (va_up (c.2.1 32) (c.2.2.2.2.2 2) gl i), .int (va_up (c.2.1 33) (c.2.2.2.2.2 2) wk i), va_rf (va_up (c.2.2.2.1 46) (c.2.2.2.2.2 2) r i), .int (va_up (c.2.1 34) (c.2.2.2.2.2 2) p i), .int (va_up (c.2.1 35) (c.2.2.2.2.2 2) l i)]) : ax_E) = Sum.inr (6, [.ref (c.2.2.2.2.1 1 (c.2.2.2.2.1 5 i)), .int (c.2.1 32 i), .int (c.2.1 33 i), va_rf (c.2.2.2.1 46 i), .int (c.2.1 34 i), .int (c.2.1 35 i)])
          rw [va_up_ne _ _ hi, va_up_ne _ _ hi, va_up_ne _ _ hi, va_up_ne _ _ hi, va_up_ne _ _ hi, va_up_ne _ _ hi]
    | 21, v1, v2 => exact Or.inl ⟨⟨v1, v2⟩, rfl, rfl⟩
    | 22, v1, v2 => exact Or.inl ⟨⟨v1, v2⟩, rfl, rfl⟩
    | 23, v1, v2 => exact Or.inl ⟨⟨v1, v2⟩, rfl, rfl⟩
    | k + 24, v1, _ => exact absurd v1 (by omega)
  · refine ⟨va_up_lt hS.2.2.2.1 hq, hS.2.2.2.2.1, hS.2.2.2.2.2⟩
abbrev cAddW (c : cSt) (h : ax_H) (q : Nat) (p z l nx : Int32) (w : Int64) (r1 r2 : Option Nat) : cSt := (c.1, va_up (va_up (va_up (va_up c.2.1 36 (va_up (c.2.1 36) (c.2.2.2.2.2 3) p)) 37 (va_up (c.2.1 37) (c.2.2.2.2.2 3) z)) 38 (va_up (c.2.1 38) (c.2.2.2.2.2 3) l)) 39 (va_up (c.2.1 39) (c.2.2.2.2.2 3) nx), va_up c.2.2.1 43 (va_up (c.2.2.1 43) (c.2.2.2.2.2 3) w), va_up (va_up c.2.2.2.1 47 (va_up (c.2.2.2.1 47) (c.2.2.2.2.2 3) r1)) 48 (va_up (c.2.2.2.1 48) (c.2.2.2.2.2 3) r2), (va_up (va_up c.2.2.2.2.1 3 (va_up (c.2.2.2.2.1 3) (c.2.2.2.2.2 3) h.1)) 6 (va_up (c.2.2.2.2.1 6) (c.2.2.2.2.2 3) q), va_up (va_up c.2.2.2.2.2 3 (c.2.2.2.2.2 3 + 1)) 5 (h.1 + 1)))
set_option maxRecDepth 20000 in
theorem cR.addW {o n : Nat} {c : cSt} {h : ax_H} (hR : cR o c h) (q : Nat) (p z l nx : Int32) (w : Int64) (r1 r2 : Option Nat) (hq : q < 4 * c.2.2.2.2.2 0) : cR o (cAddW c h q p z l nx w r1 r2) (ax_new h (.inr (7, [.ref (cQ c.2.2.2.2 q), .int (p), .int (z), .long (w), .int (l), .int (nx), va_rf (r1), va_rf (r2)])) n) := by
  have hS := hR.1
  refine hR.ext1 (K := 21) (J := (c.2.2.2.2.2 3)) (by decide) rfl ?_ ?_ (fun k i hv => ?_) ?_
  · show (va_up (va_up c.2.2.2.2.1 3 (va_up (c.2.2.2.2.1 3) (c.2.2.2.2.2 3) h.1)) 6 (va_up (c.2.2.2.2.1 6) (c.2.2.2.2.2 3) q)) 3 (c.2.2.2.2.2 3) = h.1
    show va_up (c.2.2.2.2.1 3) (c.2.2.2.2.2 3) h.1 (c.2.2.2.2.2 3) = h.1
    rw [va_up_self]
  · show (Sum.inr (7, [.ref (cQ c.2.2.2.2 (va_up (c.2.2.2.2.1 6) (c.2.2.2.2.2 3) q (c.2.2.2.2.2 3))), .int (va_up (c.2.1 36) (c.2.2.2.2.2 3) p (c.2.2.2.2.2 3)), .int (va_up (c.2.1 37) (c.2.2.2.2.2 3) z (c.2.2.2.2.2 3)), .long (va_up (c.2.2.1 43) (c.2.2.2.2.2 3) w (c.2.2.2.2.2 3)), .int (va_up (c.2.1 38) (c.2.2.2.2.2 3) l (c.2.2.2.2.2 3)), .int (va_up (c.2.1 39) (c.2.2.2.2.2 3) nx (c.2.2.2.2.2 3)), va_rf (va_up (c.2.2.2.1 47) (c.2.2.2.2.2 3) r1 (c.2.2.2.2.2 3)), va_rf (va_up (c.2.2.2.1 48) (c.2.2.2.2.2 3) r2 (c.2.2.2.2.2 3))]) : ax_E) = _
    rw [va_up_self, va_up_self, va_up_self, va_up_self, va_up_self, va_up_self, va_up_self, va_up_self]
  · obtain ⟨v1, v2⟩ := hv
    match k, v1, v2 with
    | 0, v1, v2 => exact Or.inl ⟨⟨v1, v2⟩, rfl, rfl⟩
    | 1, v1, v2 => exact Or.inl ⟨⟨v1, v2⟩, rfl, rfl⟩
    | 2, v1, v2 => exact Or.inl ⟨⟨v1, v2⟩, rfl, rfl⟩
    | 3, v1, v2 => exact Or.inl ⟨⟨v1, v2⟩, rfl, rfl⟩
    | 4, v1, v2 => exact Or.inl ⟨⟨v1, v2⟩, rfl, rfl⟩
    | 5, v1, v2 => exact Or.inl ⟨⟨v1, v2⟩, rfl, rfl⟩
    | 6, v1, v2 => exact Or.inl ⟨⟨v1, v2⟩, rfl, rfl⟩
    | 7, v1, v2 => exact Or.inl ⟨⟨v1, v2⟩, rfl, rfl⟩
    | 8, v1, v2 => exact Or.inl ⟨⟨v1, v2⟩, rfl, rfl⟩
    | 9, v1, v2 => exact Or.inl ⟨⟨v1, v2⟩, rfl, rfl⟩
    | 10, v1, v2 => exact Or.inl ⟨⟨v1, v2⟩, rfl, rfl⟩
    | 11, v1, v2 => exact Or.inl ⟨⟨v1, v2⟩, rfl, rfl⟩
    | 12, v1, v2 => exact Or.inl ⟨⟨v1, v2⟩, rfl, rfl⟩
    | 13, v1, v2 => exact Or.inl ⟨⟨v1, v2⟩, rfl, rfl⟩
    | 14, v1, v2 => exact Or.inl ⟨⟨v1, v2⟩, rfl, rfl⟩
    | 15, v1, v2 => exact Or.inl ⟨⟨v1, v2⟩, rfl, rfl⟩
    | 16, v1, v2 => exact Or.inl ⟨⟨v1, v2⟩, rfl, rfl⟩
    | 17, v1, v2 => exact Or.inl ⟨⟨v1, v2⟩, rfl, rfl⟩
    | 18, v1, v2 => exact Or.inl ⟨⟨v1, v2⟩, rfl, rfl⟩
    | 19, v1, v2 => exact Or.inl ⟨⟨v1, v2⟩, rfl, rfl⟩
    | 20, v1, v2 => exact Or.inl ⟨⟨v1, v2⟩, rfl, rfl⟩
    | 21, v1, v2 =>
      have v2 : i < (c.2.2.2.2.2 3) + 1 := v2
      by_cases hi : i = (c.2.2.2.2.2 3)
      · exact Or.inr ⟨rfl, hi⟩
      · refine Or.inl ⟨⟨v1, show i < (c.2.2.2.2.2 3) by omega⟩, ?_, ?_⟩
        · show va_up (c.2.2.2.2.1 3) (c.2.2.2.2.2 3) h.1 i = c.2.2.2.2.1 3 i
          rw [va_up_ne _ _ hi]
        · show (Sum.inr (7, [.ref (cQ c.2.2.2.2 (va_up (c.2.2.2.2.1 6) (c.2.2.2.2.2 3) q i)), .int (va_up (c.2.1 36) (c.2.2.2.2.2 3) p i), .int (va_up (c.2.1 37) (c.2.2.2.2.2 3) z i), .long (va_up (c.2.2.1 43) (c.2.2.2.2.2 3) w i), .int (va_up (c.2.1 38) (c.2.2.2.2.2 3) l i), .int (va_up (c.2.1 39) (c.2.2.2.2.2 3) nx i), va_rf (va_up (c.2.2.2.1 47) (c.2.2.2.2.2 3) r1 i), va_rf (va_up (c.2.2.2.1 48) (c.2.2.2.2.2 3) r2 i)]) : ax_E) = Sum.inr (7, [.ref (cQ c.2.2.2.2 (c.2.2.2.2.1 6 i)), .int (c.2.1 36 i), .int (c.2.1 37 i), .long (c.2.2.1 43 i), .int (c.2.1 38 i), .int (c.2.1 39 i), va_rf (c.2.2.2.1 47 i), va_rf (c.2.2.2.1 48 i)])
          rw [va_up_ne _ _ hi, va_up_ne _ _ hi, va_up_ne _ _ hi, va_up_ne _ _ hi, va_up_ne _ _ hi, va_up_ne _ _ hi, va_up_ne _ _ hi, va_up_ne _ _ hi]
    | 22, v1, v2 => exact Or.inl ⟨⟨v1, v2⟩, rfl, rfl⟩
    | 23, v1, v2 => exact Or.inl ⟨⟨v1, v2⟩, rfl, rfl⟩
    | k + 24, v1, _ => exact absurd v1 (by omega)
  · refine ⟨hS.2.2.2.1, va_up_lt hS.2.2.2.2.1 hq, hS.2.2.2.2.2⟩

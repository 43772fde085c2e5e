def cUp4 (f : Nat → Int32) (U : Nat) (z : Nat → Int32) : Nat → Int32 := fun q => if q / 4 = U then z (q % 4) else f q
abbrev cAddU (c : cSt) (a : Nat) (lb sb : Int32) (z b : Nat → Int32) : cSt := (c.1, va_up (va_up (va_up (va_up (va_up (va_up (va_up (va_up (va_up c.2.1 20 (va_up (c.2.1 20) (c.2.2.2.2.2 0) lb)) 21 (va_up (c.2.1 21) (c.2.2.2.2.2 0) sb)) 22 (va_up (c.2.1 22) (c.2.2.2.2.2 0) sb)) 23 (va_up (c.2.1 23) (c.2.2.2.2.2 0) 0)) 24 (cUp4 (c.2.1 24) (c.2.2.2.2.2 0) z)) 25 (cUp4 (c.2.1 25) (c.2.2.2.2.2 0) b)) 26 (cUp4 (c.2.1 26) (c.2.2.2.2.2 0) (fun _ => 0))) 27 (cUp4 (c.2.1 27) (c.2.2.2.2.2 0) (fun _ => 0))) 28 (cUp4 (c.2.1 28) (c.2.2.2.2.2 0) (fun _ => 0)), c.2.2.1, c.2.2.2.1, (va_up c.2.2.2.2.1 0 (va_up (c.2.2.2.2.1 0) (c.2.2.2.2.2 0) a), va_up (va_up c.2.2.2.2.2 0 (c.2.2.2.2.2 0 + 1)) 5 (a + 6)))
set_option maxRecDepth 20000 in
theorem cR.addU {o : Nat} {c : cSt} {h : ax_H} (hR : cR o c h) {a : Nat} (lb sb : Int32) (z b : Nat → Int32) (hat : c.2.2.2.2.2 5 ≤ a) (hl : a + 6 ≤ h.1) (hu : h.2.2 a = some (.inr (3, [.int (nI (c.2.2.2.2.2 0)), .int lb, .ref (a + 1), .ref (o + 3), .int sb, .int sb, .int 0]))) (h1 : h.2.2 (a + 1) = some (.inl (.object "SymbolLinker$Section", 4, .inr (.inr (.inr (.inr (fun k => if k < 4 then some (a + 2 + k) else none))))))) (hs : ∀ j, j < 4 → h.2.2 (a + 2 + j) = some (.inr (4, [.ref a, .int (z j), .int (b j), .int 0, .int 0, .int 0]))) : cR o (cAddU c a lb sb z b) h := by
  have hS := hR.1
  have aQ : ∀ i, ¬ i / 4 = c.2.2.2.2.2 0 → cQ (cAddU c a lb sb z b).2.2.2.2 i = cQ c.2.2.2.2 i := by
    intro i hi
    show va_up (c.2.2.2.2.1 0) (c.2.2.2.2.2 0) a (i / 4) + 2 + i % 4 = c.2.2.2.2.1 0 (i / 4) + 2 + i % 4
    rw [va_up_ne _ _ hi]
  have aN : ∀ i, i / 4 = c.2.2.2.2.2 0 → cQ (cAddU c a lb sb z b).2.2.2.2 i = a + 2 + i % 4 := by
    intro i hi
    show va_up (c.2.2.2.2.1 0) (c.2.2.2.2.2 0) a (i / 4) + 2 + i % 4 = _
    rw [hi, va_up_self]
  have a0 : va_up (c.2.2.2.2.1 0) (c.2.2.2.2.2 0) a (c.2.2.2.2.2 0) = a := va_up_self _ _ _
  have key : ∀ k i, cV (cAddU c a lb sb z b).2.2.2.2 k i → (cV c.2.2.2.2 k i ∧ cAd o (cAddU c a lb sb z b).2.2.2.2 k i = cAd o c.2.2.2.2 k i ∧ cE o (cAddU c a lb sb z b) k i = cE o c k i) ∨ ((k = 17 ∧ i = c.2.2.2.2.2 0 ∧ cAd o (cAddU c a lb sb z b).2.2.2.2 k i = a) ∨ (k = 23 ∧ i = c.2.2.2.2.2 0 ∧ cAd o (cAddU c a lb sb z b).2.2.2.2 k i = a + 1) ∨ (k = 18 ∧ i / 4 = c.2.2.2.2.2 0 ∧ cAd o (cAddU c a lb sb z b).2.2.2.2 k i = a + 2 + i % 4)) := by
    intro k i hv
    obtain ⟨v1, v2⟩ := hv
    match k, v1, v2 with
    | 0, v1, v2 => exact Or.inl ⟨⟨v1, v2⟩, rfl, rfl⟩
    | 1, v1, v2 => exact Or.inl ⟨⟨v1, v2⟩, rfl, rfl⟩
    | 2, v1, v2 => exact Or.inl ⟨⟨v1, v2⟩, rfl, rfl⟩
    | 3, v1, v2 => exact Or.inl ⟨⟨v1, v2⟩, rfl, rfl⟩
    | 4, v1, v2 => exact Or.inl ⟨⟨v1, v2⟩, rfl, rfl⟩
    | 5, v1, v2 => exact Or.inl ⟨⟨v1, v2⟩, rfl, rfl⟩
    | 6, v1, v2 => exact Or.inl ⟨⟨v1, v2⟩, rfl, rfl⟩
    | 7, v1, v2 => exact Or.inl ⟨⟨v1, v2⟩, rfl, rfl⟩
    | 8, v1, v2 => exact Or.inl ⟨⟨v1, v2⟩, rfl, rfl⟩
    | 9, v1, v2 => exact Or.inl ⟨⟨v1, v2⟩, rfl, rfl⟩
    | 10, v1, v2 => exact Or.inl ⟨⟨v1, v2⟩, rfl, rfl⟩
    | 11, v1, v2 => exact Or.inl ⟨⟨v1, v2⟩, rfl, rfl⟩
    | 12, v1, v2 => exact Or.inl ⟨⟨v1, v2⟩, rfl, rfl⟩
    | 13, v1, v2 => exact Or.inl ⟨⟨v1, v2⟩, rfl, rfl⟩
    | 14, v1, v2 => exact Or.inl ⟨⟨v1, v2⟩, rfl, rfl⟩
    | 15, v1, v2 => exact Or.inl ⟨⟨v1, v2⟩, rfl, rfl⟩
    | 16, v1, v2 => exact Or.inl ⟨⟨v1, v2⟩, rfl, rfl⟩
    | 17, v1, v2 =>
      have v2 : i < (c.2.2.2.2.2 0) + 1 := v2
      by_cases hi : i = (c.2.2.2.2.2 0)
      · exact Or.inr (Or.inl ⟨rfl, hi, by show va_up (c.2.2.2.2.1 0) (c.2.2.2.2.2 0) a i = a; rw [hi, a0]⟩)
      · refine Or.inl ⟨⟨v1, show i < (c.2.2.2.2.2 0) by omega⟩, ?_, ?_⟩
        · show va_up (c.2.2.2.2.1 0) (c.2.2.2.2.2 0) a i = _
          rw [va_up_ne _ _ hi]
          rfl
        · show (Sum.inr (3, [.int (nI i), .int (va_up (c.2.1 20) (c.2.2.2.2.2 0) lb i), .ref (va_up (c.2.2.2.2.1 0) (c.2.2.2.2.2 0) a i + 1), .ref (o + 3), .int (va_up (c.2.1 21) (c.2.2.2.2.2 0) sb i), .int (va_up (c.2.1 22) (c.2.2.2.2.2 0) sb i), .int (va_up (c.2.1 23) (c.2.2.2.2.2 0) 0 i)]) : ax_E) = Sum.inr (3, [.int (nI i), .int (c.2.1 20 i), .ref (c.2.2.2.2.1 0 i + 1), .ref (o + 3), .int (c.2.1 21 i), .int (c.2.1 22 i), .int (c.2.1 23 i)])
          simp only [va_up_ne _ _ hi]
    | 18, v1, v2 =>
      have v2 : i < 4 * ((c.2.2.2.2.2 0) + 1) := v2
      by_cases hi : i / 4 = (c.2.2.2.2.2 0)
      · exact Or.inr (Or.inr (Or.inr ⟨rfl, hi, aN i hi⟩))
      · refine Or.inl ⟨⟨v1, show i < 4 * (c.2.2.2.2.2 0) by omega⟩, aQ i hi, ?_⟩
        show (Sum.inr (4, [.ref (va_up (c.2.2.2.2.1 0) (c.2.2.2.2.2 0) a (i / 4)), .int (cUp4 (c.2.1 24) (c.2.2.2.2.2 0) z i), .int (cUp4 (c.2.1 25) (c.2.2.2.2.2 0) b i), .int (cUp4 (c.2.1 26) (c.2.2.2.2.2 0) (fun _ => 0) i), .int (cUp4 (c.2.1 27) (c.2.2.2.2.2 0) (fun _ => 0) i), .int (cUp4 (c.2.1 28) (c.2.2.2.2.2 0) (fun _ => 0) i)]) : ax_E) = Sum.inr (4, [.ref (c.2.2.2.2.1 0 (i / 4)), .int (c.2.1 24 i), .int (c.2.1 25 i), .int (c.2.1 26 i), .int (c.2.1 27 i), .int (c.2.1 28 i)])
        simp only [va_up_ne _ _ hi, cUp4, if_neg hi]
    | 19, v1, v2 => exact Or.inl ⟨⟨v1, v2⟩, rfl, rfl⟩
    | 20, v1, v2 => exact Or.inl ⟨⟨v1, v2⟩, rfl, rfl⟩
    | 21, v1, v2 =>
      refine Or.inl ⟨⟨v1, v2⟩, rfl, ?_⟩
      have hlt := hS.2.2.2.2.1 i v2
      show (Sum.inr (7, [.ref (cQ (cAddU c a lb sb z b).2.2.2.2 (c.2.2.2.2.1 6 i)), .int (c.2.1 36 i), .int (c.2.1 37 i), .long (c.2.2.1 43 i), .int (c.2.1 38 i), .int (c.2.1 39 i), va_rf (c.2.2.2.1 47 i), va_rf (c.2.2.2.1 48 i)]) : ax_E) = Sum.inr (7, [.ref (cQ c.2.2.2.2 (c.2.2.2.2.1 6 i)), .int (c.2.1 36 i), .int (c.2.1 37 i), .long (c.2.2.1 43 i), .int (c.2.1 38 i), .int (c.2.1 39 i), va_rf (c.2.2.2.1 47 i), va_rf (c.2.2.2.1 48 i)])
      rw [aQ _ (by omega)]
    | 22, v1, v2 =>
      refine Or.inl ⟨⟨v1, v2⟩, rfl, ?_⟩
      have hlt := hS.2.2.2.2.2 i v2
      show (Sum.inr (8, [.ref (cQ (cAddU c a lb sb z b).2.2.2.2 (c.2.2.2.2.1 7 i)), .int (c.2.1 40 i), .int (c.2.1 41 i)]) : ax_E) = Sum.inr (8, [.ref (cQ c.2.2.2.2 (c.2.2.2.2.1 7 i)), .int (c.2.1 40 i), .int (c.2.1 41 i)])
      rw [aQ _ (by omega)]
    | 23, v1, v2 =>
      have v2 : i < (c.2.2.2.2.2 0) + 1 := v2
      by_cases hi : i = (c.2.2.2.2.2 0)
      · exact Or.inr (Or.inr (Or.inl ⟨rfl, hi, by show va_up (c.2.2.2.2.1 0) (c.2.2.2.2.2 0) a i + 1 = a + 1; rw [hi, a0]⟩))
      · refine Or.inl ⟨⟨v1, show i < (c.2.2.2.2.2 0) by omega⟩, ?_, ?_⟩
        · show va_up (c.2.2.2.2.1 0) (c.2.2.2.2.2 0) a i + 1 = _
          rw [va_up_ne _ _ hi]
          rfl
        · show (Sum.inl (.object "SymbolLinker$Section", 4, .inr (.inr (.inr (.inr (fun k => if k < 4 then some (va_up (c.2.2.2.2.1 0) (c.2.2.2.2.2 0) a i + 2 + k) else none))))) : ax_E) = Sum.inl (.object "SymbolLinker$Section", 4, .inr (.inr (.inr (.inr (fun k => if k < 4 then some (c.2.2.2.2.1 0 i + 2 + k) else none)))))
          rw [va_up_ne _ _ hi]
    | k + 24, v1, _ => exact absurd v1 (by omega)
  have old : ∀ k i, cV c.2.2.2.2 k i → cAd o c.2.2.2.2 k i < c.2.2.2.2.2 5 := fun k i hv => Nat.lt_of_not_le (fun q => hR.out hv (Or.inr q) rfl)
  refine hR.ext (fun _ _ => rfl) (show c.2.2.2.2.2 5 ≤ a + 6 by omega) hl (fun k i hv => ?_) (fun k i k2 i2 v1 v2 q1 q2 => ?_) ⟨hS.2.2.2.1, fun i hi => ?_, fun i hi => ?_⟩
  · rcases key k i hv with q | ⟨rfl, rfl, e1⟩ | ⟨rfl, rfl, e1⟩ | ⟨rfl, hi, e1⟩
    · exact Or.inl q
    · refine Or.inr ⟨by decide, by rw [e1]; exact hat, by rw [e1]; show a < a + 6; omega, ?_⟩
      rw [e1, hu]
      show _ = some (Sum.inr (3, [.int (nI (c.2.2.2.2.2 0)), .int (va_up (c.2.1 20) (c.2.2.2.2.2 0) lb (c.2.2.2.2.2 0)), .ref (va_up (c.2.2.2.2.1 0) (c.2.2.2.2.2 0) a (c.2.2.2.2.2 0) + 1), .ref (o + 3), .int (va_up (c.2.1 21) (c.2.2.2.2.2 0) sb (c.2.2.2.2.2 0)), .int (va_up (c.2.1 22) (c.2.2.2.2.2 0) sb (c.2.2.2.2.2 0)), .int (va_up (c.2.1 23) (c.2.2.2.2.2 0) 0 (c.2.2.2.2.2 0))]) : ax_E)
      simp only [va_up_self]
    · refine Or.inr ⟨by decide, by rw [e1]; omega, by rw [e1]; show a + 1 < a + 6; omega, ?_⟩
      rw [e1, h1]
      show _ = some (Sum.inl (.object "SymbolLinker$Section", 4, .inr (.inr (.inr (.inr (fun k => if k < 4 then some (va_up (c.2.2.2.2.1 0) (c.2.2.2.2.2 0) a (c.2.2.2.2.2 0) + 2 + k) else none))))) : ax_E)
      simp only [va_up_self]
    · refine Or.inr ⟨by decide, by rw [e1]; omega, by rw [e1]; show a + 2 + i % 4 < a + 6; omega, ?_⟩
      rw [e1, hs _ (by omega)]
      show _ = some (Sum.inr (4, [.ref (va_up (c.2.2.2.2.1 0) (c.2.2.2.2.2 0) a (i / 4)), .int (cUp4 (c.2.1 24) (c.2.2.2.2.2 0) z i), .int (cUp4 (c.2.1 25) (c.2.2.2.2.2 0) b i), .int (cUp4 (c.2.1 26) (c.2.2.2.2.2 0) (fun _ => 0) i), .int (cUp4 (c.2.1 27) (c.2.2.2.2.2 0) (fun _ => 0) i), .int (cUp4 (c.2.1 28) (c.2.2.2.2.2 0) (fun _ => 0) i)]) : ax_E)
      simp only [hi, va_up_self, cUp4, if_pos]
  · have n1 := (key k i v1).resolve_left (fun q => by rw [q.2.1] at q1; exact absurd (old k i q.1) (by omega))
    have n2 := (key k2 i2 v2).resolve_left (fun q => by rw [q2, q.2.1] at q1; exact absurd (old k2 i2 q.1) (by omega))
    rcases n1 with ⟨rfl, x1, e1⟩ | ⟨rfl, x1, e1⟩ | ⟨rfl, x1, e1⟩ <;> rcases n2 with ⟨rfl, x2, e2⟩ | ⟨rfl, x2, e2⟩ | ⟨rfl, x2, e2⟩ <;> rw [e1, e2] at q2 <;> first | exact ⟨rfl, by omega⟩ | omega
  · have := hS.2.2.2.2.1 i hi
    show _ < 4 * (c.2.2.2.2.2 0 + 1)
    exact Nat.lt_of_lt_of_le this (by omega)
  · have := hS.2.2.2.2.2 i hi
    show _ < 4 * (c.2.2.2.2.2 0 + 1)
    exact Nat.lt_of_lt_of_le this (by omega)

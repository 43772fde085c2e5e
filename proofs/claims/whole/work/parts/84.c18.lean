theorem mUS_a2 (s : mSt) (U B : Nat) (z : Nat → Nat) (l : Int32) (q : Nat) : (mUS s U B z l 4).2.1 2 q = if q / 4 = U then 0 else s.2.1 2 q := by
  show va_up (va_up (va_up (va_up (s.2.1 2) (4 * U + 0) 0) (4 * U + 1) 0) (4 * U + 2) 0) (4 * U + 3) 0 q = _
  by_cases h3 : q = 4 * U + 3
  · rw [h3, va_up_self, if_pos (by omega)]
  · rw [va_up_ne _ _ h3]
    by_cases h2 : q = 4 * U + 2
    · rw [h2, va_up_self, if_pos (by omega)]
    · rw [va_up_ne _ _ h2]
      by_cases h1 : q = 4 * U + 1
      · rw [h1, va_up_self, if_pos (by omega)]
      · rw [va_up_ne _ _ h1]
        by_cases h0 : q = 4 * U + 0
        · rw [h0, va_up_self, if_pos (by omega)]
        · rw [va_up_ne _ _ h0, if_neg (by omega)]
theorem cJ.addU {c : cSt} {s : mSt} {e : Nat → Nat → Nat} {U S W T B : Nat} (h : cJ c s e U S W T) (hy : mHy s e U S W T B) (a : Nat) (lb : Int32) (hlb : lb = 0 ∨ lb = 1) (z : Nat → Nat) (zt bt : Nat → Int32) (hz : ∀ i, i < 4 → zt i = nI (z i)) (hb : ∀ i, i < 3 → bt i = nI (mBg B z i)) (z1 : Nat → Int32) (E5 E6 : Nat → Nat) : cJ (va_up c.1 9 (nI U + 1), (cAddU c a lb (nI S) zt bt).2.1, c.2.2.1, va_up c.2.2.2.1 1 (va_up (c.2.2.2.1 1) U (some a)), (cAddU c a lb (nI S) zt bt).2.2.2.2) (z1, (mUS s U B z lb 4).2) (va_up (va_up (va_up e 5 E5) 6 E6) 16 (va_up (e 16) U S)) (U + 1) S W T := by
  have hU := h.nU
  have heb := fun j hj => h.eb (j := j) hj
  have hee := fun j hj => h.ee (j := j) hj
  have i2 := hy.i2
  have i3 := hy.2.2.2.2.2.2.2.2.2.2.2.1
  have i4 := hy.2.2.2.2.2.2.2.2.2.2.2.2.1
  obtain ⟨h1, h2, h3, h4, h5, h6, h7⟩ := h
  have ce : ∀ j, j < U → cEnd (va_up (va_up (va_up e 5 E5) 6 E6) 16 (va_up (e 16) U S)) (U + 1) S j = cEnd e U S j := by
    intro j hj
    rw [cEnd, cEnd, if_pos (by omega)]
    show va_up (e 16) U S (j + 1) = _
    by_cases hj2 : j + 1 = U
    · rw [hj2, va_up_self, if_neg (by omega)]
    · rw [va_up_ne _ _ hj2, if_pos (by omega)]
  have cl : cEnd (va_up (va_up (va_up e 5 E5) 6 E6) 16 (va_up (e 16) U S)) (U + 1) S U = S := by rw [cEnd, if_neg (by omega)]
  have aQ : ∀ i, ¬ i / 4 = U → cQ (cAddU c a lb (nI S) zt bt).2.2.2.2 i = cQ c.2.2.2.2 i := by
    intro i hi
    show va_up (c.2.2.2.2.1 0) (c.2.2.2.2.2 0) a (i / 4) + 2 + i % 4 = c.2.2.2.2.1 0 (i / 4) + 2 + i % 4
    rw [va_up_ne _ _ (by rw [hU]; exact hi)]
  refine ⟨⟨?_, h1.2.1, h1.2.2.1, h1.2.2.2.1, h1.2.2.2.2.1, nI_1 U, h1.2.2.2.2.2.2⟩, ?_, ?_, h4, ?_, ?_, h7⟩
  · show c.2.2.2.2.2 0 + 1 = U + 1
    rw [hU]
  · intro j hj
    show va_up (c.2.2.2.1 1) U (some a) j = some (va_up (c.2.2.2.2.1 0) (c.2.2.2.2.2 0) a j) ∧ (va_up (c.2.1 20) (c.2.2.2.2.2 0) lb j = 0 ↔ va_up (s.2.1 1) U (lb &&& 1) j = 0) ∧ va_up (c.2.1 21) (c.2.2.2.2.2 0) (nI S) j = nI (va_up (e 16) U S j) ∧ va_up (c.2.1 22) (c.2.2.2.2.2 0) (nI S) j = nI (cEnd _ (U + 1) S j) ∧ va_up (e 16) U S j ≤ cEnd _ (U + 1) S j ∧ cEnd _ (U + 1) S j ≤ S
    rw [hU]
    by_cases e0 : j = U
    · subst e0
      rw [cl]
      simp only [va_up_self]
      refine ⟨trivial, ?_, trivial, trivial, Nat.le_refl _, Nat.le_refl _⟩
      rcases hlb with rfl | rfl <;> decide
    · have hj2 : j < U := by omega
      rw [ce j hj2]
      simp only [va_up_ne _ _ e0]
      exact h2 j hj2
  · intro j hj
    have e5 := mUS_a5 s U B z lb 4 (by decide) j
    have e6 := mUS_a6 s U B z lb 4 (by decide) j
    have e2 := mUS_a2 s U B z lb j
    show cUp4 (c.2.1 24) (c.2.2.2.2.2 0) zt j = (mUS s U B z lb 4).2.1 5 j ∧ (j % 4 < 3 → cUp4 (c.2.1 25) (c.2.2.2.2.2 0) bt j = (mUS s U B z lb 4).2.1 6 j) ∧ cUp4 (c.2.1 26) (c.2.2.2.2.2 0) (fun _ => 0) j = (mUS s U B z lb 4).2.1 2 j
    rw [e5, e6, e2, hU, cUp4, cUp4, cUp4]
    by_cases e0 : j / 4 = U
    · rw [if_pos e0, if_pos e0, if_pos e0, if_pos ⟨e0, by omega⟩, if_pos ⟨e0, by omega⟩, if_pos e0]
      exact ⟨hz _ (by omega), fun q => hb _ q, rfl⟩
    · rw [if_neg e0, if_neg e0, if_neg e0, if_neg (fun q => e0 q.1), if_neg (fun q => e0 q.1), if_neg e0]
      exact h3 j (by omega)
  · intro j hj
    have y := h5 j hj
    have l1 := (i2 j hj).2
    refine ⟨y.1, y.2.1, y.2.2.1, y.2.2.2.1, y.2.2.2.2.1, ?_, y.2.2.2.2.2.2.1, y.2.2.2.2.2.2.2.1, fun u hu => ?_, y.2.2.2.2.2.2.2.2.2⟩
    · refine y.2.2.2.2.2.1.trans ?_
      show _ = (if s.2.1 13 j < 0 then none else some (cQ (cAddU c a lb (nI S) zt bt).2.2.2.2 (4 * e 11 j + e 13 j)))
      by_cases q : s.2.1 13 j < 0
      · rw [if_pos q, if_pos q]
      · rw [if_neg q, if_neg q]
        have l2 := ((i3 j hj).resolve_left (fun q2 => q (by rw [q2]; decide))).1
        rw [aQ _ (by omega)]
    · show e 11 j = u ↔ va_up (e 16) U S u ≤ j ∧ j < cEnd _ (U + 1) S u
      by_cases e0 : u = U
      · rw [e0, cl, va_up_self]
        exact ⟨fun q => absurd q (by omega), fun q => absurd q.1 (by omega)⟩
      · rw [ce u (by omega), va_up_ne _ _ e0]
        exact y.2.2.2.2.2.2.2.2.1 u (by omega)
  · intro j hj
    have y := h6 j hj
    have l1 := i4 j hj
    refine ⟨y.1, y.2.1, y.2.2.1, y.2.2.2.1, y.2.2.2.2.1, y.2.2.2.2.2.1, y.2.2.2.2.2.2.1, y.2.2.2.2.2.2.2.1, y.2.2.2.2.2.2.2.2.1, ?_⟩
    refine y.2.2.2.2.2.2.2.2.2.trans ?_
    show _ = (if 1 ≤ e 22 j ∧ e 22 j < 5 then some (cQ (cAddU c a lb (nI S) zt bt).2.2.2.2 (4 * e 17 j + (e 22 j - 1))) else none)
    by_cases q : 1 ≤ e 22 j ∧ e 22 j < 5
    · rw [if_pos q, if_pos q, aQ _ (by have := l1.1.2; omega)]
    · rw [if_neg q, if_neg q]
theorem mZ_fits {f : Nat → Int32} (a n : Nat) (hf : ∀ i, fits .byte (.int (f i)) = true) : ∀ i, fits .byte (.int (mZ f a n i)) = true := by
  intro i
  rw [mZ]
  by_cases q : a ≤ i ∧ i < a + n
  · rw [if_pos q]
    decide
  · rw [if_neg q]
    exact hf i
theorem mZ_eq {f g : Nat → Int32} {B n : Nat} (hf : ∀ i, i < B → f i = g i) : ∀ i, i < B + n → mZ f B n i = mZ g B n i := by
  intro i hi
  rw [mZ, mZ]
  by_cases q : B ≤ i ∧ i < B + n
  · rw [if_pos q, if_pos q]
  · rw [if_neg q, if_neg q]
    exact hf i (by omega)
theorem cSA (a : Nat) : va_up (va_up (va_up (va_up (fun _ => none) 0 (some (a + 2))) 1 (some (a + 3))) 2 (some (a + 4))) 3 (some (a + 5)) = fun k => if k < 4 then some (a + 2 + k) else none := by
  funext k
  match k with
  | 0 => rfl
  | 1 => rfl
  | 2 => rfl
  | 3 => rfl
  | k + 4 => rw [va_up_ne _ _ (by omega), va_up_ne _ _ (by omega), va_up_ne _ _ (by omega), va_up_ne _ _ (by omega), if_neg (by omega)]

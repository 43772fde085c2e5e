theorem mFind_congr {Q Q2 : Nat → Prop} : ∀ r a, (∀ k, a ≤ k → k < a + r → (Q k ↔ Q2 k)) → mFind Q r a = mFind Q2 r a := by
  intro r
  induction r with
  | zero => exact fun _ _ => rfl
  | succ r ih =>
    intro a h
    by_cases q : Q a
    · rw [mFind_t q, mFind_t ((h a (Nat.le_refl _) (by omega)).mp q)]
    · rw [mFind_f q, mFind_f (fun z => q ((h a (Nat.le_refl _) (by omega)).mpr z)), ih (a + 1) (fun k k1 k2 => h k (by omega) (by omega))]
theorem mFind_some {Q : Nat → Prop} : ∀ r a j, mFind Q r a = some j → a ≤ j ∧ j < a + r ∧ Q j ∧ ∀ i, a ≤ i → i < j → ¬ Q i := by
  intro r
  induction r with
  | zero => exact fun a j h => by cases h
  | succ r ih =>
    intro a j h
    by_cases q : Q a
    · rw [mFind_t q] at h
      cases h
      exact ⟨Nat.le_refl _, by omega, q, fun i i1 i2 => absurd i1 (by omega)⟩
    · rw [mFind_f q] at h
      obtain ⟨b1, b2, b3, b4⟩ := ih _ _ h
      refine ⟨by omega, by omega, b3, fun i i1 i2 z => ?_⟩
      by_cases e : i = a
      · rw [e] at z
        exact q z
      · exact b4 i (by omega) i2 z
theorem mFind_none {Q : Nat → Prop} : ∀ r a, mFind Q r a = none ↔ ∀ i, a ≤ i → i < a + r → ¬ Q i := by
  intro r
  induction r with
  | zero => exact fun a => ⟨fun _ i i1 i2 => absurd i1 (by omega), fun _ => rfl⟩
  | succ r ih =>
    intro a
    by_cases q : Q a
    · rw [mFind_t q]
      exact ⟨fun h => (by cases h), fun h => absurd q (h a (Nat.le_refl _) (by omega))⟩
    · rw [mFind_f q, ih]
      constructor
      · intro h i i1 i2
        by_cases e : i = a
        · rw [e]; exact q
        · exact h i (by omega) (by omega)
      · exact fun h i i1 i2 => h i (by omega) (by omega)
theorem mFind_ex {Q : Nat → Prop} {r a : Nat} (h : ¬ mFind Q r a = none) : ∃ j, mFind Q r a = some j := by
  cases e : mFind Q r a with
  | none => exact absurd e h
  | some j => exact ⟨j, rfl⟩
/-- what meant answers, by two searches -/
theorem mMeantL_find (tk : Nat → Int32) (g : mTab) (w : Int64) (n : Int32) : ∀ r k z, k + r < 2 ^ 31 → mMeantL tk g w n r k z = match mFind (fun k => mHit tk g w n k ∧ mGlob g k) r k with
    | some j => nI j
    | none => if z < 0 then (match mFind (fun k => mHit tk g w n k ∧ mWeak g k) r k with
      | some j => nI j
      | none => z) else z := by
  intro r
  induction r with
  | zero =>
    intro k z hk
    show z = if z < 0 then z else z
    by_cases q : z < 0
    · rw [if_pos q]
    · rw [if_neg q]
  | succ r ih =>
    intro k z hk
    rw [mMeantL]
    by_cases h1 : mHit tk g w n k
    · rw [if_pos h1]
      by_cases h2 : mGlob g k
      · rw [if_pos h2, mFind_t (Q := fun k => mHit tk g w n k ∧ mGlob g k) ⟨h1, h2⟩]
      · rw [if_neg h2, mFind_f (Q := fun k => mHit tk g w n k ∧ mGlob g k) (fun q => h2 q.2), ih _ _ (by omega)]
        cases mFind (fun k => mHit tk g w n k ∧ mGlob g k) r (k + 1) with
        | some j => rfl
        | none =>
          by_cases h3 : mWeak g k
          · by_cases h4 : z < 0
            · have ez : (if mWeak g k ∧ z < 0 then nI k else z) = nI k := if_pos ⟨h3, h4⟩
              rw [ez, mFind_t (Q := fun k => mHit tk g w n k ∧ mWeak g k) ⟨h1, h3⟩]
              show (if nI k < 0 then _ else nI k) = (if z < 0 then nI k else z)
              rw [if_neg (nI_pos (by omega)), if_pos h4]
            · have ez : (if mWeak g k ∧ z < 0 then nI k else z) = z := if_neg (fun q => h4 q.2)
              rw [ez]
              show (if z < 0 then _ else z) = (if z < 0 then _ else z)
              rw [if_neg h4, if_neg h4]
          · have ez : (if mWeak g k ∧ z < 0 then nI k else z) = z := if_neg (fun q => h3 q.1)
            rw [ez, mFind_f (Q := fun k => mHit tk g w n k ∧ mWeak g k) (fun q => h3 q.2)]
    · rw [if_neg h1, ih _ _ (by omega), mFind_f (Q := fun k => mHit tk g w n k ∧ mGlob g k) (fun q => h1 q.1), mFind_f (Q := fun k => mHit tk g w n k ∧ mWeak g k) (fun q => h1 q.1)]
/-- symbol k, of a unit that is taken, is of name i -/
def cOf (e : Nat → Nat → Nat) (A : cG) (tk : Nat → Int32) (i k : Nat) : Prop := ¬ tk (e 11 k) = 0 ∧ A.1 5 k = i
def cGl (s : mSt) (e : Nat → Nat → Nat) (S : Nat) (A : cG) (tk : Nat → Int32) (i k : Nat) : Prop := cOf e A tk i k ∧ mGlob (mT s e S) k
def cWk (s : mSt) (e : Nat → Nat → Nat) (S : Nat) (A : cG) (tk : Nat → Int32) (i k : Nat) : Prop := cOf e A tk i k ∧ mWeak (mT s e S) k
def cMi (s : mSt) (e : Nat → Nat → Nat) (A : cG) (tk : Nat → Int32) (i k : Nat) : Prop := cOf e A tk i k ∧ s.2.1 13 k < 0 ∧ s.2.1 12 k < 2
/-- the flags of the names, for the units that are taken -/
def cFl (s : mSt) (e : Nat → Nat → Nat) (S : Nat) (A : cG) (I : Nat → Nat → Int32) (tk : Nat → Int32) : Prop := ∀ i, i < A.2 1 → I 31 i = zP (∃ k, k < S ∧ cOf e A tk i k ∧ (mGlob (mT s e S) k ∨ mWeak (mT s e S) k)) ∧ I 30 i = zP (∃ k, k < S ∧ cMi s e A tk i k)
theorem cGW (s : mSt) (e : Nat → Nat → Nat) (S : Nat) (A : cG) (tk : Nat → Int32) (i : Nat) : (∃ k, k < S ∧ (cGl s e S A tk i k ∨ cWk s e S A tk i k)) ↔ ∃ k, k < S ∧ cOf e A tk i k ∧ (mGlob (mT s e S) k ∨ mWeak (mT s e S) k) := by
  constructor
  · rintro ⟨k, k1, k2 | k2⟩
    · exact ⟨k, k1, k2.1, Or.inl k2.2⟩
    · exact ⟨k, k1, k2.1, Or.inr k2.2⟩
  · rintro ⟨k, k1, k2, k3 | k3⟩
    · exact ⟨k, k1, Or.inl ⟨k2, k3⟩⟩
    · exact ⟨k, k1, Or.inr ⟨k2, k3⟩⟩
theorem cJ.hit {o : Nat} {c : cSt} {s : mSt} {e : Nat → Nat → Nat} {U S W T : Nat} {h : ax_H} (hJ : cJ c s e U S W T) (hR : cR o c h) (tk : Nat → Int32) {i k : Nat} (hi : i < c.2.2.2.2.2 1) (hk : k < S) : mHit tk (mT s e S) (c.2.2.1 42 i) (c.2.1 29 i) k ↔ cOf e c.2.2.2.2 tk i k := by
  have h5 := hR.1.2.2.2.1 k (hJ.hk hk)
  have hw := hJ.word hk
  have hl := hJ.len hk
  constructor
  · rintro ⟨a1, a2, a3⟩
    have a2 : s.2.1 10 k = c.2.1 29 i := a2
    have a3 : s.2.2 9 k = c.2.2.1 42 i := a3
    exact ⟨a1, hJ.uni hi _ h5 (by rw [hw, a3]) (by rw [hl, a2])⟩
  · rintro ⟨a1, rfl⟩
    exact ⟨a1, hl.symm, hw.symm⟩
/-- what name i means to the reference -/
theorem cJ.meant {o : Nat} {c : cSt} {s : mSt} {e : Nat → Nat → Nat} {U S W T : Nat} {h : ax_H} (hJ : cJ c s e U S W T) (hR : cR o c h) (hSb : S ≤ 2048) (tk : Nat → Int32) {i : Nat} (hi : i < c.2.2.2.2.2 1) : mMeant tk (mT s e S) (c.2.2.1 42 i) (c.2.1 29 i) = match mFind (cGl s e S c.2.2.2.2 tk i) S 0 with
    | some j => nI j
    | none => match mFind (cWk s e S c.2.2.2.2 tk i) S 0 with
      | some j => nI j
      | none => -1 := by
  rw [mMeant, mMeantL_find tk _ _ _ S 0 (-1) (by omega), if_pos (by decide)]
  rw [mFind_congr (Q2 := cGl s e S c.2.2.2.2 tk i) S 0 (fun k _ k2 => and_congr_left' (hJ.hit hR tk hi (by omega)))]
  rw [mFind_congr (Q2 := cWk s e S c.2.2.2.2 tk i) S 0 (fun k _ k2 => and_congr_left' (hJ.hit hR tk hi (by omega)))]
theorem cJ.meant0 {o : Nat} {c : cSt} {s : mSt} {e : Nat → Nat → Nat} {U S W T : Nat} {h : ax_H} (hJ : cJ c s e U S W T) (hR : cR o c h) (hSb : S ≤ 2048) (tk : Nat → Int32) {i : Nat} (hi : i < c.2.2.2.2.2 1) : mMeant tk (mT s e S) (c.2.2.1 42 i) (c.2.1 29 i) < 0 ↔ ¬ ∃ k, k < S ∧ (cGl s e S c.2.2.2.2 tk i k ∨ cWk s e S c.2.2.2.2 tk i k) := by
  rw [hJ.meant hR hSb tk hi]
  cases e1 : mFind (cGl s e S c.2.2.2.2 tk i) S 0 with
  | some j =>
    obtain ⟨b1, b2, b3, -⟩ := mFind_some _ _ _ e1
    exact ⟨fun q => absurd q (nI_pos (by omega)), fun q => absurd ⟨j, by omega, Or.inl b3⟩ q⟩
  | none =>
    have n1 := (mFind_none _ _).mp e1
    cases e2 : mFind (cWk s e S c.2.2.2.2 tk i) S 0 with
    | some j =>
      obtain ⟨b1, b2, b3, -⟩ := mFind_some _ _ _ e2
      exact ⟨fun q => absurd q (nI_pos (by omega)), fun q => absurd ⟨j, by omega, Or.inr b3⟩ q⟩
    | none =>
      have n2 := (mFind_none _ _).mp e2
      refine ⟨fun _ ⟨k, k1, k2⟩ => k2.elim (n1 k (by omega) (by omega)) (n2 k (by omega) (by omega)), fun _ => by decide⟩
/-- which unit helps, by the flags -/
theorem cJ.helps {o : Nat} {c : cSt} {s : mSt} {e : Nat → Nat → Nat} {U S W T : Nat} {h : ax_H} (hJ : cJ c s e U S W T) (hR : cR o c h) (hSb : S ≤ 2048) (tk : Nat → Int32) {u : Nat} (hu : u < U) : mHelps tk (mT s e S) (e 16) u ↔ ∃ k, e 16 u ≤ k ∧ k < cEnd e U S u ∧ (mGlob (mT s e S) k ∨ mWeak (mT s e S) k) ∧ (∃ j, j < S ∧ cMi s e c.2.2.2.2 tk (c.2.2.2.2.1 5 k) j) ∧ ¬ ∃ j, j < S ∧ (cGl s e S c.2.2.2.2 tk (c.2.2.2.2.1 5 k) j ∨ cWk s e S c.2.2.2.2 tk (c.2.2.2.2.1 5 k) j) := by
  have hee := hJ.ee hu
  have heb := hJ.eb hu
  have hK : ∀ k, k < S → (mHelpK tk (mT s e S) k ↔ ((mGlob (mT s e S) k ∨ mWeak (mT s e S) k) ∧ (∃ j, j < S ∧ cMi s e c.2.2.2.2 tk (c.2.2.2.2.1 5 k) j) ∧ ¬ ∃ j, j < S ∧ (cGl s e S c.2.2.2.2 tk (c.2.2.2.2.1 5 k) j ∨ cWk s e S c.2.2.2.2 tk (c.2.2.2.2.1 5 k) j))) := by
    intro k hk
    have h5 := hR.1.2.2.2.1 k (hJ.hk hk)
    have hw := hJ.word hk
    have hl := hJ.len hk
    have m0 := hJ.meant0 hR hSb tk h5
    rw [hw, hl] at m0
    have same : ∀ j, j < S → (mSame tk (mT s e S) k j ↔ cMi s e c.2.2.2.2 tk (c.2.2.2.2.1 5 k) j) := by
      intro j hj
      have hh := hJ.hit hR tk h5 hj
      rw [hw, hl] at hh
      constructor
      · rintro ⟨⟨a1, a2, a3⟩, a4, a5⟩
        exact ⟨hh.mp ⟨a1, a4, a5⟩, a2, a3⟩
      · rintro ⟨a1, a2, a3⟩
        obtain ⟨b1, b2, b3⟩ := hh.mpr a1
        exact ⟨⟨b1, a2, a3⟩, b2, b3⟩
    constructor
    · rintro ⟨⟨a1, a2⟩, j, a3, a4⟩
      exact ⟨a1, ⟨j, a3, (same j a3).mp a4⟩, m0.mp a2⟩
    · rintro ⟨a1, ⟨j, a3, a4⟩, a2⟩
      exact ⟨⟨a1, m0.mpr a2⟩, j, a3, (same j a3).mpr a4⟩
  have key : ∀ r k, k + r = S → e 16 u ≤ k → (mHelpsL tk (mT s e S) u r k ↔ ∃ j, k ≤ j ∧ j < cEnd e U S u ∧ mHelpK tk (mT s e S) j) := by
    intro r
    induction r with
    | zero => exact fun k hk hb => ⟨fun q => q.elim, fun ⟨j, j1, j2, _⟩ => absurd j1 (by omega)⟩
    | succ r ih =>
      intro k hk hb
      have ord := hJ.ord (j := k) (by omega) u hu
      rw [mHelpsL, ih (k + 1) (by omega) (by omega)]
      constructor
      · rintro ⟨a1, a2 | ⟨j, j1, j2, j3⟩⟩
        · exact ⟨k, Nat.le_refl _, (ord.mp a1).2, a2⟩
        · exact ⟨j, by omega, j2, j3⟩
      · rintro ⟨j, j1, j2, j3⟩
        refine ⟨ord.mpr ⟨hb, by omega⟩, ?_⟩
        by_cases ej : j = k
        · subst ej
          exact Or.inl j3
        · exact Or.inr ⟨j, by omega, j2, j3⟩
  show mHelpsL tk (mT s e S) u (S - e 16 u) (e 16 u) ↔ _
  rw [key _ _ (by omega) (Nat.le_refl _)]
  constructor
  · rintro ⟨j, j1, j2, j3⟩
    exact ⟨j, j1, j2, (hK j (by omega)).mp j3⟩
  · rintro ⟨j, j1, j2, j3⟩
    exact ⟨j, j1, j2, (hK j (by omega)).mpr j3⟩

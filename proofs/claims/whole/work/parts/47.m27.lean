/-- arrays that link leaves as they are -/
abbrev mSk (k : Nat) : Prop := k = 5 ∨ k = 6 ∨ k = 11 ∨ k = 13 ∨ (16 ≤ k ∧ k < 23) ∨ k = 25
def mSm (t t2 : mSt) : Prop := (∀ k, 0 < k → k < 6 → t2.1 k = t.1 k) ∧ ∀ k, mSk k → t2.2.1 k = t.2.1 k
def mSq (t t2 : mSt) : Prop := t2.1 39 = t.1 39 ∧ t2.1 42 = t.1 42 ∧ t2.1 43 = t.1 43
theorem mSm.rf (t : mSt) : mSm t t := ⟨fun _ _ _ => rfl, fun _ _ => rfl⟩
theorem mSq.rf (t : mSt) : mSq t t := ⟨rfl, rfl, rfl⟩
theorem mSm.tr {a b c : mSt} (h : mSm a b) (g : mSm b c) : mSm a c := ⟨fun k h1 h2 => (g.1 k h1 h2).trans (h.1 k h1 h2), fun k h1 => (g.2 k h1).trans (h.2 k h1)⟩
theorem mSq.tr {a b c : mSt} (h : mSq a b) (g : mSq b c) : mSq a c := ⟨g.1.trans h.1, g.2.1.trans h.2.1, g.2.2.trans h.2.2⟩
theorem mSm.f (t : mSt) (q : Nat) (v : Int32) (hq : q = 0 ∨ 6 ≤ q) : mSm t (va_up t.1 q v, t.2) := ⟨fun k h1 h2 => va_up_ne _ _ (by omega), fun _ _ => rfl⟩
theorem mSm.a (t : mSt) (q : Nat) (F : Nat → Int32) (hq : ¬ mSk q) : mSm t (t.1, va_up t.2.1 q F, t.2.2) := ⟨fun _ _ _ => rfl, fun k hk => va_up_ne _ _ (fun g => hq (g ▸ hk))⟩
theorem mSm.l (t : mSt) (X : Nat → Nat → Int64) : mSm t (t.1, t.2.1, X) := ⟨fun _ _ _ => rfl, fun _ _ => rfl⟩
theorem mSq.f (t : mSt) (q : Nat) (v : Int32) (hq : ¬ q = 39 ∧ ¬ q = 42 ∧ ¬ q = 43) : mSq t (va_up t.1 q v, t.2) := ⟨va_up_ne _ _ (fun g => hq.1 g.symm), va_up_ne _ _ (fun g => hq.2.1 g.symm), va_up_ne _ _ (fun g => hq.2.2 g.symm)⟩
theorem mSm.fail (t : mSt) (k u l : Int32) : mSm t (mFail t k u l) := by
  rw [mFail]
  by_cases h : t.1 33 = 0
  · rw [if_pos h]
    exact ((mSm.f t 33 k (by decide)).tr (mSm.f _ 35 u (by decide))).tr (mSm.f _ 34 l (by decide))
  · rw [if_neg h]
    exact mSm.rf t
theorem mSq.fail (t : mSt) (k u l : Int32) : mSq t (mFail t k u l) := by
  rw [mFail]
  by_cases h : t.1 33 = 0
  · rw [if_pos h]
    exact ⟨rfl, rfl, rfl⟩
  · rw [if_neg h]
    exact mSq.rf t
theorem mSm.s3 (t : mSt) (e : Nat → Nat → Nat) (S : Nat) : mSm t (mS3 t e S) ∧ mSq t (mS3 t e S) := by
  rw [mS3]
  by_cases h : 0 ≤ mEnt t e S ∧ mGlob (mT t e S) (iN (mEnt t e S))
  · rw [if_pos h, mTwice]
    by_cases h1 : (mTw t e S).1 < 32
    · rw [if_pos h1]
      exact ⟨mSm.fail _ _ _ _, mSq.fail _ _ _ _⟩
    · rw [if_neg h1]
      exact ⟨mSm.rf _, mSq.rf _⟩
  · rw [if_neg h]
    exact ⟨mSm.fail _ _ _ _, mSq.fail _ _ _ _⟩
theorem mSm.wrong (t : mSt) (e : Nat → Nat → Nat) (S W : Nat) : mSm t (mWrong t e S W) ∧ mSq t (mWrong t e S W) := by
  rw [mWrong]
  by_cases h : (mWrL t e S W 0 (-1, 0)).1 < 0
  · rw [if_pos h]
    exact ⟨mSm.rf _, mSq.rf _⟩
  · rw [if_neg h]
    exact ⟨mSm.fail _ _ _ _, mSq.fail _ _ _ _⟩
theorem mSm.s8 (t : mSt) : mSm t (mS8 t) ∧ mSq t (mS8 t) := by
  rw [mS8]
  by_cases h : t.1 39 ≤ 262144
  · rw [if_pos h]
    exact ⟨mSm.rf _, mSq.rf _⟩
  · rw [if_neg h]
    exact ⟨mSm.fail _ _ _ _, mSq.fail _ _ _ _⟩
theorem mSm.layOut (t : mSt) (U : Nat) : mSm t (mLayOut t U) := ((mSm.f t 39 _ (by decide)).tr (mSm.a _ 30 _ (by decide))).tr (mSm.a _ 7 _ (by decide))
theorem mSm.s5 (t : mSt) : mSm t (mS5 t) := (mSm.f t 36 _ (by decide)).tr (mSm.a _ 28 _ (by decide))
theorem mSm.s9 (t : mSt) (e : Nat → Nat → Nat) (U S W : Nat) : mSm t (mS9 t e U S W) := (((mSm.s5 t).tr (mSm.layOut _ U)).tr (mSm.wrong _ e S W).1).tr (mSm.s8 _).1
theorem mSm.done (t : mSt) (e : Nat → Nat → Nat) (U S W T E : Nat) : mSm t (mDone t e U S W T E) := by
  have h1 : mSm t (mMade t e E) := (mSm.f t 38 1 (by decide)).tr (mSm.a _ 30 _ (by decide))
  have h2 : mSm (mMade t e E) (mIm (mMade t e E) (mImg (mMade t e E) e U S W)) := mSm.a _ 29 _ (by decide)
  have h3 : ∀ (a : mSt) (K : mKn), mSm a (mKs a K) := fun a K => (((mSm.f a 42 _ (by decide)).tr (mSm.a _ 32 _ (by decide))).tr (mSm.a _ 33 _ (by decide))).tr (mSm.l _ _)
  have h4 : ∀ (a : mSt) (K : mKl), mSm a (mKt a K) := fun a K => ((mSm.f a 43 _ (by decide)).tr (mSm.a _ 34 _ (by decide))).tr (mSm.a _ 35 _ (by decide))
  exact ((h1.tr h2).tr (h3 _ _)).tr (h4 _ _)
theorem mKnL_le (tk nd ad pl : Nat → Int32) (g : mTab) (e : Nat → Nat → Nat) : ∀ r k K, (mKnL tk nd ad pl g e r k K).1 ≤ K.1 + r := by
  intro r
  induction r with
  | zero => exact fun k K => Nat.le_refl _
  | succ r ih =>
    intro k K
    rw [mKnL]
    by_cases h : mKeep tk nd g e k
    · rw [if_pos h]
      exact Nat.le_trans (ih (k + 1) _) (show K.1 + 1 + r ≤ _ by omega)
    · rw [if_neg h]
      exact Nat.le_trans (ih (k + 1) _) (by omega)
theorem mKlL_le (nd ad su sp sl : Nat → Int32) (e : Nat → Nat → Nat) : ∀ r k K, (mKlL nd ad su sp sl e r k K).1 ≤ K.1 + r := by
  intro r
  induction r with
  | zero => exact fun k K => Nat.le_refl _
  | succ r ih =>
    intro k K
    rw [mKlL]
    by_cases h : nd (4 * e 25 k) = 0
    · rw [if_pos h]
      exact Nat.le_trans (ih (k + 1) _) (by omega)
    · rw [if_neg h]
      exact Nat.le_trans (ih (k + 1) _) (show K.1 + 1 + r ≤ _ by omega)
section MINL
variable {s t : mSt} {e : Nat → Nat → Nat} {U S W T B : Nat}
theorem mHy.sm {t2 : mSt} (h : mHy t e U S W T B) (g : mSm t t2) : mHy t2 e U S W T B := h.tr (fun k h1 h2 => g.1 k h2 (by omega)) g.2
theorem mInv.sm {t2 : mSt} (h : mInv t e U S W T B) (g : mSm t t2) (g2 : mSq t t2) : mInv t2 e U S W T B := by
  refine ⟨h.1.sm g, (g.1 5 (by decide) (by decide)).trans h.2.1, ?_, ?_, ?_⟩
  · rw [g2.1]; exact h.2.2.1
  · rw [g2.2.1]; exact h.2.2.2.1
  · rw [g2.2.2]; exact h.2.2.2.2
theorem mInv.linkA (h : mInv t e U S W T B) (E : Nat) : mInv (mLinkA t e U S W T E).1 e U S W T B := by
  have g1 : mSm t (mS9 (mNd t (mNeed t e U S W E)) e U S W) := (mSm.a t 4 _ (by decide)).tr (mSm.s9 _ e U S W)
  have q1 : mSq (mLayOut (mS5 (mNd t (mNeed t e U S W E))) U) (mS9 (mNd t (mNeed t e U S W E)) e U S W) := (mSm.wrong _ e S W).2.tr (mSm.s8 _).2
  rw [mLinkA]
  by_cases h0 : (mS9 (mNd t (mNeed t e U S W E)) e U S W).1 33 = 0
  · rw [if_pos h0]
    refine ⟨h.1.sm ((g1.tr (mSm.done _ e U S W T E)).tr (mSm.f _ 0 _ (by decide))), ((g1.tr (mSm.done _ e U S W T E)).1 5 (by decide) (by decide)).trans h.2.1, ?_, ?_, ?_⟩
    · have e8 := mS8_33 (t := mWrong (mLayOut (mS5 (mNd t (mNeed t e U S W E))) U) e S W) h0
      have e9 := e8.2
      rw [(mSm.wrong (mLayOut (mS5 (mNd t (mNeed t e U S W E))) U) e S W).2.1] at e9
      obtain ⟨en, n1, n2, n3⟩ := mLay4_ok (sz := t.2.1 5) (nd := mNeed t e U S W E) (ad := t.2.1 7) (z := e 5) h.1.hUb (fun q hq => (h.1.i1 q hq).1)
      have e7 : (mLayOut (mS5 (mNd t (mNeed t e U S W E))) U).1 39 = nI en := n2
      rw [e7] at e9
      refine ⟨en, (nI_leI (b := 262144) (by omega) (by decide)).mp e9, ?_⟩
      show (mS9 (mNd t (mNeed t e U S W E)) e U S W).1 39 = nI en
      rw [q1.1, e7]
    · have := mKnL_le ((mIm (mMade (mS9 (mNd t (mNeed t e U S W E)) e U S W) e E) (mImg (mMade (mS9 (mNd t (mNeed t e U S W E)) e U S W) e E) e U S W)).2.1 3) ((mIm (mMade (mS9 (mNd t (mNeed t e U S W E)) e U S W) e E) (mImg (mMade (mS9 (mNd t (mNeed t e U S W E)) e U S W) e E) e U S W)).2.1 4) ((mIm (mMade (mS9 (mNd t (mNeed t e U S W E)) e U S W) e E) (mImg (mMade (mS9 (mNd t (mNeed t e U S W E)) e U S W) e E) e U S W)).2.1 7) ((mIm (mMade (mS9 (mNd t (mNeed t e U S W E)) e U S W) e E) (mImg (mMade (mS9 (mNd t (mNeed t e U S W E)) e U S W) e E) e U S W)).2.1 14) (mT (mIm (mMade (mS9 (mNd t (mNeed t e U S W E)) e U S W) e E) (mImg (mMade (mS9 (mNd t (mNeed t e U S W E)) e U S W) e E) e U S W)) e S) e S 0 (0, (mIm (mMade (mS9 (mNd t (mNeed t e U S W E)) e U S W) e E) (mImg (mMade (mS9 (mNd t (mNeed t e U S W E)) e U S W) e E) e U S W)).2.2 31, (mIm (mMade (mS9 (mNd t (mNeed t e U S W E)) e U S W) e E) (mImg (mMade (mS9 (mNd t (mNeed t e U S W E)) e U S W) e E) e U S W)).2.1 32, (mIm (mMade (mS9 (mNd t (mNeed t e U S W E)) e U S W) e E) (mImg (mMade (mS9 (mNd t (mNeed t e U S W E)) e U S W) e E) e U S W)).2.1 33)
      have hSb := h.1.hSb
      exact ⟨_, Nat.le_trans this (show 0 + S ≤ 2048 by omega), rfl⟩
    · have hTb := h.1.hTb
      exact ⟨_, Nat.le_trans (mKlL_le _ _ _ _ _ e T 0 (0, _, _)) (show 0 + T ≤ 8192 by omega), rfl⟩
  · rw [if_neg h0]
    refine ⟨h.1.sm ((g1.tr ((mSm.f _ 39 _ (by decide)).tr (mSm.a _ 30 _ (by decide)))).tr (mSm.f _ 0 _ (by decide))), (g1.1 5 (by decide) (by decide)).trans h.2.1, h.2.2.1, ?_, ?_⟩
    · show ∃ n, n ≤ 2048 ∧ (mS9 (mNd t (mNeed t e U S W E)) e U S W).1 42 = nI n
      rw [q1.2.1]
      exact h.2.2.2.1
    · show ∃ n, n ≤ 8192 ∧ (mS9 (mNd t (mNeed t e U S W E)) e U S W).1 43 = nI n
      rw [q1.2.2]
      exact h.2.2.2.2
theorem mInv.link (h : mInv s e U S W T B) : mInv (mLink s e U S W T).1 e U S W T B := by
  have h2 : mInv (mS2 s e U S) e U S W T B := h
  have h3 : mInv (mS3 (mS2 s e U S) e S) e U S W T B := h2.sm (mSm.s3 _ e S).1 (mSm.s3 _ e S).2
  rw [mLink, mLinkB]
  by_cases h0 : (mS3 (mS2 s e U S) e S).1 33 = 0
  · rw [if_pos h0]
    exact h3.linkA _
  · rw [if_neg h0]
    exact h3
end MINL

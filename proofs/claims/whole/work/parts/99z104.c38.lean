theorem cKi.to {c c2 : cSt} {s s2 : mSt} (h : cKi c s) (e9 : c2.2.1 9 = c.2.1 9) (e10 : c2.2.1 10 = c.2.1 10) (e12 : c2.2.1 12 = c.2.1 12) (e13 : c2.2.1 13 = c.2.1 13) (e14 : c2.2.1 14 = c.2.1 14) (e15 : c2.2.1 15 = c.2.1 15) (l11 : c2.2.2.1 11 = c.2.2.1 11) (v53 : c2.1 53 = c.1 53) (v54 : c2.1 54 = c.1 54) (s38 : s2.1 38 = s.1 38) (s39 : s2.1 39 = s.1 39) (s42 : s2.1 42 = s.1 42) (s43 : s2.1 43 = s.1 43) (p30 : ∀ k, k < 7 → s2.2.1 30 k = s.2.1 30 k) (a29 : s2.2.1 29 = s.2.1 29) (a32 : s2.2.1 32 = s.2.1 32) (a33 : s2.2.1 33 = s.2.1 33) (a34 : s2.2.1 34 = s.2.1 34) (a35 : s2.2.1 35 = s.2.1 35) (l31 : s2.2.2 31 = s.2.2 31) : cKi c2 s2 := by
  obtain ⟨h1, h2, h3, h4, h5⟩ := h
  unfold cKi
  rw [e9, e10, e12, e13, e14, e15, l11, v53, v54, s38, s39, s42, s43, a29, a32, a33, a34, a35, l31]
  exact ⟨fun k hk => by rw [p30 k hk]; exact h1 k hk, h2, h3, h4, h5⟩
theorem mFail_1 (t : mSt) (k u l : Int32) {j : Nat} (h : ¬ j = 33 ∧ ¬ j = 34 ∧ ¬ j = 35) : (mFail t k u l).1 j = t.1 j := by
  rw [mFail]
  by_cases q : t.1 33 = 0
  · rw [if_pos q]
    show va_up (va_up (va_up t.1 33 k) 35 u) 34 l j = _
    rw [va_up_ne _ _ h.2.1, va_up_ne _ _ h.2.2, va_up_ne _ _ h.1]
  · rw [if_neg q]
theorem mS3_1 (t : mSt) (e : Nat → Nat → Nat) (S : Nat) {j : Nat} (h : ¬ j = 33 ∧ ¬ j = 34 ∧ ¬ j = 35) : (mS3 t e S).1 j = t.1 j := by
  rw [mS3]
  by_cases q : 0 ≤ mEnt t e S ∧ mGlob (mT t e S) (iN (mEnt t e S))
  · rw [if_pos q, mTwice]
    by_cases q2 : (mTw t e S).1 < 32
    · rw [if_pos q2]; exact mFail_1 _ _ _ _ h
    · rw [if_neg q2]
  · rw [if_neg q]; exact mFail_1 _ _ _ _ h
theorem mWrL_k (s : mSt) (e : Nat → Nat → Nat) (S : Nat) : ∀ r w a, (a.1 < 0 ∨ a.2 = 3 ∨ a.2 = 4) → ((mWrL s e S r w a).1 < 0 ∨ (mWrL s e S r w a).2 = 3 ∨ (mWrL s e S r w a).2 = 4) := by
  intro r
  induction r with
  | zero => exact fun w a h => h
  | succ r ih =>
    intro w a h
    rw [mWrL]
    refine ih (w + 1) _ ?_
    by_cases q : ¬ s.2.1 4 (mSrc e w) = 0 ∧ mWg s e S w ∧ mEar (s.2.1 17) (s.2.1 23) a.1 w
    · rw [if_pos q]
      by_cases q2 : mMs (s.2.1 3) (mT s e S) e w
      · exact Or.inr (Or.inl (if_pos q2))
      · exact Or.inr (Or.inr (if_neg q2))
    · rw [if_neg q]; exact h
/-- no fault: nothing was wrong, and the image is small enough -/
theorem mS9_ok {s : mSt} {e : Nat → Nat → Nat} {S W : Nat} (h0 : s.1 33 = 0) (h : (mS8 (mWrong s e S W)).1 33 = 0) : mS8 (mWrong s e S W) = s ∧ s.1 39 ≤ 262144 := by
  have hw : mWrong s e S W = s := by
    by_cases q : (mWrL s e S W 0 (-1, 0)).1 < 0
    · rw [mWrong, if_pos q]
    · exfalso
      have e1 : mWrong s e S W = mFail s (mWrL s e S W 0 (-1, 0)).2 (s.2.1 17 (iN (mWrL s e S W 0 (-1, 0)).1)) (s.2.1 23 (iN (mWrL s e S W 0 (-1, 0)).1)) := by rw [mWrong, if_neg q]
      have e2 := (mFail_0 (t := s) (k := (mWrL s e S W 0 (-1, 0)).2) (u := s.2.1 17 (iN (mWrL s e S W 0 (-1, 0)).1)) (l := s.2.1 23 (iN (mWrL s e S W 0 (-1, 0)).1)) h0).1
      have e3 : ¬ (mWrong s e S W).1 33 = 0 := by
        rw [e1, e2]
        rcases (mWrL_k s e S W 0 (-1, 0) (Or.inl (show (-1 : Int32) < 0 by decide))).resolve_left q with z | z
        · rw [z]; decide
        · rw [z]; decide
      rw [mS8] at h
      by_cases q2 : (mWrong s e S W).1 39 ≤ 262144
      · rw [if_pos q2] at h; exact e3 h
      · rw [if_neg q2, mFail_n e3] at h; exact e3 h
  rw [hw] at h ⊢
  rw [mS8] at h ⊢
  by_cases q2 : s.1 39 ≤ 262144
  · rw [if_pos q2]; exact ⟨rfl, q2⟩
  · rw [if_neg q2, (mFail_0 (k := 5) (u := -1) (l := 0) h0).1] at h
    exact absurd h (by decide)
theorem mPassL_v {tq src : Nat → Nat} : ∀ r w a, (∀ q, q < 128 → a.1 q = 0 ∨ a.1 q = 1) → ∀ q, q < 128 → (mPassL tq src r w a).1 q = 0 ∨ (mPassL tq src r w a).1 q = 1 := by
  intro r
  induction r with
  | zero => exact fun w a h => h
  | succ r ih =>
    intro w a h
    rw [mPassL]
    refine ih (w + 1) _ (fun q hq => ?_)
    by_cases z : mHit2 tq src w a.1
    · rw [if_pos z]
      show va_up a.1 (tq w) 1 q = 0 ∨ va_up a.1 (tq w) 1 q = 1
      by_cases eq : q = tq w
      · rw [eq, va_up_self]; exact Or.inr rfl
      · rw [va_up_ne _ _ eq]; exact h q hq
    · rw [if_neg z]; exact h q hq
theorem mTurns_v {tq src : Nat → Nat} {W : Nat} : ∀ t a, (∀ q, q < 128 → a q = 0 ∨ a q = 1) → ∀ q, q < 128 → mTurns tq src W t a q = 0 ∨ mTurns tq src W t a q = 1 := by
  intro t
  induction t with
  | zero => exact fun a h => h
  | succ t ih =>
    intro a h
    have h1 := mPassL_v (tq := tq) (src := src) W 0 (a, 0) h
    rw [mTurns]
    by_cases g : (mPassL tq src W 0 (a, 0)).2 = 0
    · rw [if_pos g]; exact h1
    · rw [if_neg g]; exact ih _ h1
theorem lkN_v (s : mSt) (e : Nat → Nat → Nat) (U S W E : Nat) (a : Nat → Int32) : ∀ q, q < 128 → lkN s e U S W E a q = 0 ∨ lkN s e U S W E a q = 1 := by
  refine mTurns_v 129 _ (fun q hq => ?_)
  show va_up (mNd0 U (mTake s e U S) (s.2.1 2) (s.2.1 4) 128) (4 * e 11 E + e 13 E) 1 q = 0 ∨ va_up (mNd0 U (mTake s e U S) (s.2.1 2) (s.2.1 4) 128) (4 * e 11 E + e 13 E) 1 q = 1
  by_cases eq : q = 4 * e 11 E + e 13 E
  · rw [eq, va_up_self]; exact Or.inr rfl
  · rw [va_up_ne _ _ eq, mNd0, if_pos hq]
    by_cases z : q < 4 * U ∧ ¬ mTake s e U S (q / 4) = 0 ∧ ¬ s.2.1 2 q = 0
    · rw [if_pos z]; exact Or.inr rfl
    · rw [if_neg z]; exact Or.inl rfl
/-- what the latest link needed, as both keep it -/
theorem lk_need {s : mSt} {e : Nat → Nat → Nat} {U S W E : Nat} {a : Nat → Int32} (hUb : U ≤ 32) {q : Nat} (hq : q < 4 * U) (old : Nat → Int32) : lkN s e U S W E a q = zI (nI (q / 4) < nI U ∧ ¬ mFill (fun q => lkN s e U S W E a q &&& 1) old 128 q = 0) := by
  have h1 : nI (q / 4) < nI U := nI_lt (by omega) (by omega)
  rw [mFill, if_pos (show q < 128 by omega)]
  rcases lkN_v s e U S W E a q (by omega) with z | z
  · have z2 : ¬ (nI (q / 4) < nI U ∧ ¬ lkN s e U S W E a q &&& 1 = 0) := fun y => y.2 (by rw [z]; rfl)
    rw [zI_0 z2, z]
  · have z2 : nI (q / 4) < nI U ∧ ¬ lkN s e U S W E a q &&& 1 = 0 := ⟨h1, by rw [z]; decide⟩
    rw [zI_1 z2, z]
theorem sub16 : ∀ k ∈ [23, 30, 31, 44, 45, 150, 151, 152], k ∈ cMu := by decide
theorem sub17 : ∀ k ∈ [16, 27, 28, 115, 150, 151, 152], k ∈ cMu := by decide
theorem sub18 : ∀ k ∈ [9, 10, 11, 12, 13, 14, 15, 153, 154], k ∈ cMu := by decide

/-- the state of the reference after a good link, and the class's: the picture between calls -/
theorem lk_good {c c6 c7 : cSt} {s : mSt} {e : Nat → Nat → Nat} {U S W T B E en : Nat} {a : Nat → Int32} (hJ : cJ c7 s e U S W T) (hKb : cKb c s B) (hNS : c7.2.2.2.2.2 1 ≤ S) (hSb : S ≤ 2048) (hUb : U ≤ 32) (h1 : a 1 = nI U) (hf : c7.1 50 = a 33 ∧ c7.1 51 = a 34 ∧ c7.1 52 = a 35) (hn : ∀ q, q < 4 * U → c7.2.1 27 q = lkN s e U S W E a q) (h14 : c7.1 14 = c.1 14) (h6 : c7.2.1 6 = c.2.1 6) (hen : (lkL s e U S W E a).1 39 = nI en) (henb : en ≤ 262144) (hI : cIm c7 (mMade (lkL s e U S W E a) e E) e U S W T en (lkP c6 s e U E (lkN s e U S W E a))) : cJ c7 (va_up (mDone (lkL s e U S W E a) e U S W T E).1 0 0, (mDone (lkL s e U S W E a) e U S W T E).2) e U S W T ∧ cKi c7 (va_up (mDone (lkL s e U S W E a) e U S W T E).1 0 0, (mDone (lkL s e U S W E a) e U S W T E).2) ∧ cKn c7 (va_up (mDone (lkL s e U S W E a) e U S W T E).1 0 0, (mDone (lkL s e U S W E a) e U S W T E).2) U S ∧ cKf c7 (va_up (mDone (lkL s e U S W E a) e U S W T E).1 0 0, (mDone (lkL s e U S W E a) e U S W T E).2) ∧ cKb c7 (va_up (mDone (lkL s e U S W E a) e U S W T E).1 0 0, (mDone (lkL s e U S W E a) e U S W T E).2) B := by
  obtain ⟨p1, p2, ⟨K, k1, k2, k3⟩, t1, t2, t3⟩ := hI
  have one : ¬ (1 : Int32) = 0 := by decide
  refine ⟨hJ, ⟨fun k hk => ?_, ?_, fun _ i hi => ?_, ⟨K, k1, k2, fun w b => ?_⟩, ⟨_, t1, t2, fun q => absurd q one, fun _ => rfl, t3⟩⟩, ⟨⟨U, Nat.le_refl _, h1⟩, fun q hq => ?_, hNS⟩, hf, ⟨h14.trans hKb.1, fun i hi => ?_, fun i => ?_⟩⟩
  · rw [p1 k hk]
    show _ = if (1 : Int32) = 0 then 0 else _
    rw [if_neg one]
    match k, hk with
    | 0, _ => rfl
    | 1, _ => rfl
    | 2, _ => rfl
    | 3, _ => rfl
    | 4, _ => rfl
    | 5, _ => rfl
    | 6, _ => rfl
    | k + 7, hk => exact absurd hk (by omega)
  · rw [p1 6 (by decide)]
    show _ = if (1 : Int32) = 0 then 0 else _
    rw [if_neg one]
    rfl
  · have hi : i < iN ((lkL s e U S W E a).1 39) := hi
    rw [hen, iN, nI_clamp (by omega)] at hi
    rw [p2 i hi]
    rfl
  · rw [k3 w b]
    show _ = if (1 : Int32) = 0 then none else _
    rw [if_neg one]
    have le := mKnL_le (s.2.1 3) (s.2.1 4) (s.2.1 7) (s.2.1 14) (mT s e S) e S 0 (0, s.2.2 31, s.2.1 32, s.2.1 33)
    have look := mKnL_look (s := mMade (lkL s e U S W E a) e E) (e := e) hSb S 0 (0, s.2.2 31, s.2.1 32, s.2.1 33) (by omega) (fun w b => by rw [mAddrL, cLk, pIf_f (fun q => absurd q.2 (Nat.not_lt_zero _))]) w b
    have le2 : (mKN (mIm (mMade (lkL s e U S W E a) e E) (mImg (mMade (lkL s e U S W E a) e E) e U S W)) e S).1 ≤ 0 + S := mKnL_le _ _ _ _ _ _ S 0 _
    have ek : iN (nI (mKN (mIm (mMade (lkL s e U S W E a) e E) (mImg (mMade (lkL s e U S W E a) e E) e U S W)) e S).1) = (mKN (mIm (mMade (lkL s e U S W E a) e E) (mImg (mMade (lkL s e U S W E a) e E) e U S W)) e S).1 := nI_clamp (by omega)
    show _ = mAddrL (mKN (mIm (mMade (lkL s e U S W E a) e E) (mImg (mMade (lkL s e U S W E a) e E) e U S W)) e S).2.2.1 (mKN (mIm (mMade (lkL s e U S W E a) e E) (mImg (mMade (lkL s e U S W E a) e E) e U S W)) e S).2.1 (mKN (mIm (mMade (lkL s e U S W E a) e E) (mImg (mMade (lkL s e U S W E a) e E) e U S W)) e S).2.2.2 w b 0 (iN (nI (mKN (mIm (mMade (lkL s e U S W E a) e E) (mImg (mMade (lkL s e U S W E a) e E) e U S W)) e S).1))
    rw [ek]
    exact look.symm
  · rw [hn q hq]
    show _ = zI (nI (q / 4) < a 1 ∧ ¬ mFill (fun q => lkN s e U S W E a q &&& 1) (s.2.1 28) 128 q = 0)
    rw [h1]
    exact lk_need hUb hq _
  · rw [h6]
    exact hKb.2.1 i hi
  · rw [h6]
    exact hKb.2.2 i

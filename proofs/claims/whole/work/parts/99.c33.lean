def oOr (x y : Option Int32) : Option Int32 := match x with
  | some z => some z
  | none => y
theorem pIf_i {A : Type} {p q : Prop} {a b : A} (h : p ↔ q) : pIf p a b = pIf q a b := by rw [propext h]
theorem mAddrL_snoc (f : Nat → Int32) (g : Nat → Int64) (r : Nat → Int32) (w : Int64) (a : Int32) : ∀ n k, mAddrL f g r w a k (n + 1) = oOr (mAddrL f g r w a k n) (if f (k + n) = a ∧ g (k + n) = w then some (r (k + n)) else none) := by
  intro n
  induction n with
  | zero =>
    intro k
    rw [mAddrL]
    rfl
  | succ n ih =>
    intro k
    rw [mAddrL]
    by_cases q : f k = a ∧ g k = w
    · rw [if_pos q, mAddrL, if_pos q]
      rfl
    · rw [if_neg q, ih (k + 1)]
      have e : mAddrL f g r w a k (n + 1) = mAddrL f g r w a (k + 1) n := by rw [mAddrL, if_neg q]
      rw [e, show k + 1 + n = k + (n + 1) by omega]
theorem mAddrL_congr {f f2 : Nat → Int32} {g g2 : Nat → Int64} {r r2 : Nat → Int32} (w : Int64) (a : Int32) : ∀ n k, (∀ i, k ≤ i → i < k + n → f i = f2 i ∧ g i = g2 i ∧ r i = r2 i) → mAddrL f g r w a k n = mAddrL f2 g2 r2 w a k n := by
  intro n
  induction n with
  | zero => exact fun _ _ => rfl
  | succ n ih =>
    intro k h
    obtain ⟨h1, h2, h3⟩ := h k (Nat.le_refl _) (by omega)
    rw [mAddrL, mAddrL, h1, h2, h3, ih (k + 1) (fun i i1 i2 => h i (by omega) (by omega))]
theorem mAddrL_add (f : Nat → Int32) (g : Nat → Int64) (r : Nat → Int32) (K : Nat) (a2 : Int32) (w2 : Int64) (z2 : Int32) (w : Int64) (a : Int32) : mAddrL (va_up f K a2) (va_up g K w2) (va_up r K z2) w a 0 (K + 1) = oOr (mAddrL f g r w a 0 K) (if a2 = a ∧ w2 = w then some z2 else none) := by
  rw [mAddrL_snoc, Nat.zero_add, va_up_self, va_up_self, va_up_self]
  rw [mAddrL_congr (f2 := f) (g2 := g) (r2 := r) w a K 0 (fun i i1 i2 => ⟨va_up_ne _ _ (by omega), va_up_ne _ _ (by omega), va_up_ne _ _ (by omega)⟩)]
/-- what a name's address is: p says that it is kept -/
noncomputable def cLk (s : mSt) (e : Nat → Nat → Nat) (S : Nat) (w : Int64) (a : Int32) (p : Prop) : Option Int32 := pIf p (some (mLab1 (s.2.1 7) (s.2.1 14) e (iN (mMeant (s.2.1 3) (mT s e S) w a)))) none
abbrev cKp (s : mSt) (e : Nat → Nat → Nat) (S : Nat) (w : Int64) (a : Int32) : Prop := 0 ≤ mMeant (s.2.1 3) (mT s e S) w a ∧ ¬ s.2.1 4 (4 * e 11 (iN (mMeant (s.2.1 3) (mT s e S) w a)) + e 13 (iN (mMeant (s.2.1 3) (mT s e S) w a))) = 0
theorem cLk_step {s : mSt} {e : Nat → Nat → Nat} {S : Nat} {w : Int64} {a : Int32} {p q : Prop} {x : Option Int32} {a2 : Int32} {w2 : Int64} {z2 : Int32} (hx : x = cLk s e S w a p) (hne : ¬ (a2 = a ∧ w2 = w) → (q ↔ p)) (heq : a2 = a ∧ w2 = w → ¬ p ∧ q ∧ z2 = mLab1 (s.2.1 7) (s.2.1 14) e (iN (mMeant (s.2.1 3) (mT s e S) w a))) : oOr x (if a2 = a ∧ w2 = w then some z2 else none) = cLk s e S w a q := by
  rw [hx]
  by_cases h : a2 = a ∧ w2 = w
  · obtain ⟨h1, h2, h3⟩ := heq h
    rw [cLk, cLk, pIf_f h1, pIf_t h2, if_pos h, h3]
    rfl
  · rw [cLk, cLk, pIf_i (hne h)]
    by_cases hp : p
    · rw [pIf_t hp]
      rfl
    · rw [pIf_f hp, if_neg h]
      rfl
theorem mKnL_look {s : mSt} {e : Nat → Nat → Nat} {S : Nat} (hSb : S ≤ 2048) : ∀ r k (K : mKn), k + r = S → (∀ w a, mAddrL K.2.2.1 K.2.1 K.2.2.2 w a 0 K.1 = cLk s e S w a (cKp s e S w a ∧ iN (mMeant (s.2.1 3) (mT s e S) w a) < k)) → ∀ w a, mAddrL (mKnL (s.2.1 3) (s.2.1 4) (s.2.1 7) (s.2.1 14) (mT s e S) e r k K).2.2.1 (mKnL (s.2.1 3) (s.2.1 4) (s.2.1 7) (s.2.1 14) (mT s e S) e r k K).2.1 (mKnL (s.2.1 3) (s.2.1 4) (s.2.1 7) (s.2.1 14) (mT s e S) e r k K).2.2.2 w a 0 (mKnL (s.2.1 3) (s.2.1 4) (s.2.1 7) (s.2.1 14) (mT s e S) e r k K).1 = cLk s e S w a (cKp s e S w a) := by
  intro r
  induction r with
  | zero =>
    intro k K hk h w a
    have hkk : k = S := by omega
    rw [mKnL, h w a, cLk, cLk]
    refine pIf_i ⟨fun q => q.1, fun q => ⟨q, ?_⟩⟩
    rcases mMeant_lab (s.2.1 3) (mT s e S) w a with h1 | ⟨j, h1, h2, -⟩
    · have := q.1
      rw [h1] at this
      exact absurd this (by decide)
    · have h1 : j < S := h1
      rw [h2, iN, nI_clamp (by omega)]
      omega
  | succ r ih =>
    intro k K hk h
    have lab : ∀ w a, 0 ≤ mMeant (s.2.1 3) (mT s e S) w a → iN (mMeant (s.2.1 3) (mT s e S) w a) = k → mMeant (s.2.1 3) (mT s e S) w a = nI k ∧ mHit (s.2.1 3) (mT s e S) w a k := by
      intro w a h0 hk2
      rcases mMeant_lab (s.2.1 3) (mT s e S) w a with h1 | ⟨j, h1, h2, h3, h4, -⟩
      · rw [h1] at h0
        exact absurd h0 (by decide)
      · have h1 : j < S := h1
        rw [h2, iN, nI_clamp (by omega)] at hk2
        subst hk2
        exact ⟨h2, h4⟩
    rw [mKnL]
    refine ih (k + 1) _ (by omega) (fun w a => ?_)
    by_cases q : mKeep (s.2.1 3) (s.2.1 4) (mT s e S) e k
    · rw [if_pos q]
      show mAddrL (va_up K.2.2.1 K.1 (s.2.1 10 k)) (va_up K.2.1 K.1 (s.2.2 9 k)) (va_up K.2.2.2 K.1 (mLab1 (s.2.1 7) (s.2.1 14) e k)) w a 0 (K.1 + 1) = _
      rw [mAddrL_add]
      refine cLk_step (h w a) (fun hn => ?_) (fun he => ?_)
      · constructor
        · rintro ⟨a1, a2⟩
          refine ⟨a1, ?_⟩
          by_cases e0 : iN (mMeant (s.2.1 3) (mT s e S) w a) = k
          · obtain ⟨-, b2⟩ := lab w a a1.1 e0
            exact absurd ⟨b2.2.1, b2.2.2⟩ hn
          · omega
        · rintro ⟨a1, a2⟩
          exact ⟨a1, by omega⟩
      · obtain ⟨rfl, rfl⟩ := he
        have q2 : mMeant (s.2.1 3) (mT s e S) (s.2.2 9 k) (s.2.1 10 k) = nI k := q.2.1
        have e0 : iN (mMeant (s.2.1 3) (mT s e S) (s.2.2 9 k) (s.2.1 10 k)) = k := by rw [q2, iN, nI_clamp (by omega)]
        refine ⟨fun z => ?_, ⟨⟨by rw [q2]; exact nI_pos' (by omega), by rw [e0]; exact q.2.2⟩, by omega⟩, by rw [e0]⟩
        have := z.2
        omega
    · rw [if_neg q, h w a, cLk, cLk]
      refine pIf_i ⟨fun z => ⟨z.1, by have := z.2; omega⟩, fun z => ⟨z.1, ?_⟩⟩
      by_cases e0 : iN (mMeant (s.2.1 3) (mT s e S) w a) = k
      · obtain ⟨b1, b2⟩ := lab w a z.1.1 e0
        have b4 := z.1.2
        rw [e0] at b4
        refine absurd ⟨b2.1, ?_, b4⟩ q
        have e1 : (mT s e S).2.2.2.1 k = w := b2.2.2
        have e2 : (mT s e S).2.2.1 k = a := b2.2.1
        rw [e1, e2]
        exact b1
      · have := z.2
        omega
theorem cJ.v3 {c : cSt} {s : mSt} {e : Nat → Nat → Nat} {U S W T : Nat} (h : cJ c s e U S W T) {v : Nat → Int32} {I : Nat → Nat → Int32} {Lg : Nat → Nat → Int64} (h1 : ∀ k, ¬ k = 53 → v k = c.1 k) (h2 : ∀ F, ¬ F = 12 → ¬ F = 13 → I F = c.2.1 F) (h3 : ∀ F, ¬ F = 11 → Lg F = c.2.2.1 F) : cJ (v, I, Lg, c.2.2.2) s e U S W T := h.ag (X := [11, 12, 13, 153]) ⟨fun k q => h1 k (fun e => q (by rw [e]; decide)), fun k q => h2 k (fun e => q (by rw [e]; decide)) (fun e => q (by rw [e]; decide)), fun k q => h3 k (fun e => q (by rw [e]; decide)), fun _ _ => rfl, rfl⟩ (by decide)
set_option maxRecDepth 20000 in
theorem l_L_make3 {G : ax_G} {x : ax_X} {h0 : ax_H} {P : Option Value → ax_H → Prop} {o : Nat} {c : cSt} (s : mSt) (e : Nat → Nat → Nat) (U S W T : Nat) (hJ : cJ c s e U S W T) (hSb : S ≤ 2048) (hUb : U ≤ 32) (i2 : mI2 s e U S) (i3 : mI3 s e S) (i4 : mI4 s e U S W) (hB : cBk s e S c.2.2.2.2 (s.2.1 3) c.2.2.2.1 S) (hnd : ∀ q, q < 4 * U → c.2.1 27 q = s.2.1 4 q) (hbg : ∀ q, q < 4 * U → ¬ s.2.1 4 q = 0 → c.2.1 28 q = 4194304 + s.2.1 7 q) (hcl : ∀ w, w < W → ¬ s.2.1 4 (mSrc e w) = 0 → mTq (s.2.1 3) (mT s e S) e w < 128 → ¬ s.2.1 4 (mTq (s.2.1 3) (mT s e S) e w) = 0) (hq : ax_H) (hk : ∀ v I Lg K h2 o1 o2 o3, (∀ k, ¬ k = 53 → v k = c.1 k) → (∀ F, ¬ F = 12 → ¬ F = 13 → I F = c.2.1 F) → (∀ F, ¬ F = 11 → Lg F = c.2.2.1 F) → v 53 = nI K → K ≤ 2048 → (∀ w a, mAddrL (I 12) (Lg 11) (I 13) w a 0 K = cLk s e S w a (cKp s e S w a ∧ ∃ j, j < c.2.2.2.2.2 1 ∧ c.2.2.1 42 j = w ∧ c.2.1 29 j = a)) → cR o (v, I, Lg, c.2.2.2) h2 → cFr o (c.2.2.2.2.2 5) hq h2 → AW G x Y_L_makeImage 4 115 h0 P h2 164 [some (.ref o), some (.int o1), o2, o3] []) : ∀ r i v I Lg K h o2 o3, i + r = c.2.2.2.2.2 1 → (∀ k, ¬ k = 53 → v k = c.1 k) → (∀ F, ¬ F = 12 → ¬ F = 13 → I F = c.2.1 F) → (∀ F, ¬ F = 11 → Lg F = c.2.2.1 F) → v 53 = nI K → K ≤ i → (∀ w a, mAddrL (I 12) (Lg 11) (I 13) w a 0 K = cLk s e S w a (cKp s e S w a ∧ ∃ j, j < i ∧ c.2.2.1 42 j = w ∧ c.2.1 29 j = a)) → cR o (v, I, Lg, c.2.2.2) h → cFr o (c.2.2.2.2.2 5) hq h → AW G x Y_L_makeImage 4 115 h0 P h 105 [some (.ref o), some (.int (nI i)), o2, o3] [] := by
  have hNS := hJ.NS
  intro r
  induction r with
  | zero =>
    intro i v I Lg K h o2 o3 hi h1 h2 h3 hK hKi hlk hR hF
    have hii : i = c.2.2.2.2.2 1 := by omega
    rw [hii] at hlk
    have hJ1 := hJ.v3 h1 h2 h3
    refine aw_iload_n d_L_makeImage_105 rfl rfl ?_
    refine aw_aloadV_n d_L_makeImage_106 rfl rfl (by first | exact Or.inl ⟨_, rfl⟩ | exact Or.inr rfl | exact rv_Q _) ?_
    refine aw_getE cl_L fl_L_66 (by decide) hR.obj rfl (show _ = Value.int (nI (c.2.2.2.2.2 1)) from congrArg Value.int hJ1.sN) d_L_makeImage_107 ?_
    refine aw_icmp_ge (tgt := 164) d_L_makeImage_110 (by decide) (fun c110 => ?_) (fun c110 => ?_)
    · exact hk v I Lg K h _ _ _ h1 h2 h3 hK (by omega) hlk hR hF
    · exact absurd (nI_le (show c.2.2.2.2.2 1 ≤ i by omega) (by omega)) c110
  | succ r ih =>
    intro i v I Lg K h o2 o3 hi h1 h2 h3 hK hKi hlk hR hF
    have hiN : i < c.2.2.2.2.2 1 := by omega
    have hJ1 := hJ.v3 h1 h2 h3
    have i27 := h2 27 (by decide) (by decide)
    have i28 := h2 28 (by decide) (by decide)
    have i29 : I 29 = c.2.1 29 := h2 29 (by decide) (by decide)
    have l42 : Lg 42 = c.2.2.1 42 := h3 42 (by decide)
    have hmn := hJ1.mean hR hSb hB hiN
    have hmn : cMean (v, I, Lg, c.2.2.2) i = (if 0 ≤ mMeant (s.2.1 3) (mT s e S) (Lg 42 i) (I 29 i) then some (c.2.2.2.2.1 2 (iN (mMeant (s.2.1 3) (mT s e S) (Lg 42 i) (I 29 i)))) else none) := hmn
    rw [l42, i29] at hmn
    have skip : ¬ cKp s e S (c.2.2.1 42 i) (c.2.1 29 i) → (∀ w a, mAddrL (I 12) (Lg 11) (I 13) w a 0 K = cLk s e S w a (cKp s e S w a ∧ ∃ j, j < i + 1 ∧ c.2.2.1 42 j = w ∧ c.2.1 29 j = a)) := by
      intro q w a
      rw [hlk w a, cLk, cLk]
      refine pIf_i ⟨fun ⟨z, j, j1, j2⟩ => ⟨z, j, by omega, j2⟩, fun ⟨z, j, j1, j2⟩ => ⟨z, j, ?_, j2⟩⟩
      by_cases ej : j = i
      · rw [ej] at j2
        rw [← j2.1, ← j2.2] at z
        exact absurd z q
      · omega
    by_cases hM : 0 ≤ mMeant (s.2.1 3) (mT s e S) (c.2.2.1 42 i) (c.2.1 29 i)
    · rw [if_pos hM] at hmn
      obtain ⟨j, hjS, hMj, hj0⟩ : ∃ j, j < S ∧ mMeant (s.2.1 3) (mT s e S) (c.2.2.1 42 i) (c.2.1 29 i) = nI j ∧ 0 ≤ s.2.1 13 j := by
        rcases mMeant_lab (s.2.1 3) (mT s e S) (c.2.2.1 42 i) (c.2.1 29 i) with y1 | ⟨j, y1, y2, y3, -⟩
        · rw [y1] at hM
          exact absurd hM (by decide)
        · exact ⟨j, y1, y2, y3⟩
      have eM : iN (mMeant (s.2.1 3) (mT s e S) (c.2.2.1 42 i) (c.2.1 29 i)) = j := by rw [hMj, iN, nI_clamp (by omega)]
      rw [eM] at hmn
      have hsec : c.2.2.2.1 46 j = some (cQ c.2.2.2.2 (4 * e 11 j + e 13 j)) := by rw [hJ.sec hjS, if_neg (Int32.not_lt.mpr hj0)]
      have hqj : 4 * e 11 j + e 13 j < 4 * U := by
        have y1 := (i2 j hjS).2
        have y2 := (i3.lab hjS hj0).1
        omega
      refine aw_iload_n d_L_makeImage_105 rfl rfl ?_
      refine aw_aloadV_n d_L_makeImage_106 rfl rfl (by first | exact Or.inl ⟨_, rfl⟩ | exact Or.inr rfl | exact rv_Q _) ?_
      refine aw_getE cl_L fl_L_66 (by decide) hR.obj rfl (show _ = Value.int (nI (c.2.2.2.2.2 1)) from congrArg Value.int hJ1.sN) d_L_makeImage_107 ?_
      refine aw_icmp_ge (tgt := 164) d_L_makeImage_110 (by decide) (fun c110 => ?_) (fun c110 => ?_)
      · exact absurd c110 (nI_ge (by omega) (by omega))
      · refine aw_aloadV_n d_L_makeImage_113 rfl rfl (by first | exact Or.inl ⟨_, rfl⟩ | exact Or.inr rfl | exact rv_Q _) ?_
        refine aw_get cl_L fl_L_17 (by decide) hR.obj rfl d_L_makeImage_114 ?_
        refine aw_iload_n d_L_makeImage_117 rfl rfl ?_
        refine aC_l2 hR rfl (show i < 2048 by omega) (hJ1.rN hiN) d_L_makeImage_118 ?_
        refine aw_astoreV_n d_L_makeImage_119 rfl (by decide) (by first | exact Or.inl ⟨_, rfl⟩ | exact Or.inr rfl | exact rv_Q _) (by dsimp only [List.set]) ?_
        refine aw_aloadV_n d_L_makeImage_120 rfl rfl (by first | exact Or.inl ⟨_, rfl⟩ | exact Or.inr rfl | exact rv_Q _) ?_
        refine aw_callV (c_Name_meaning G _ o _ hR hiN) cl_Name (hR.name hiN) m_Name_meaning ml_L_367 rfl rfl (by decide) (by decide) (Nat.le_of_ble_eq_true rfl) d_L_makeImage_121 ?_
        rintro vv h ⟨rfl, rfl⟩
        rw [hmn]
        refine aw_astoreV_n d_L_makeImage_124 rfl (by decide) (by first | exact Or.inl ⟨_, rfl⟩ | exact Or.inr rfl | exact rv_Q _) (by dsimp only [List.set]) ?_
        refine aw_aloadV_n d_L_makeImage_125 rfl rfl (by first | exact Or.inl ⟨_, rfl⟩ | exact Or.inr rfl | exact rv_Q _) ?_
        refine aw_ifnull d_L_makeImage_126 ?_
        refine aw_aloadV_n d_L_makeImage_129 rfl rfl (by first | exact Or.inl ⟨_, rfl⟩ | exact Or.inr rfl | exact rv_Q _) ?_
        refine aw_getE cl_Symbol fl_L_207 (by decide) (hR.sym (hJ1.hk hjS)) rfl (show _ = Value.ref (cQ c.2.2.2.2 (4 * e 11 j + e 13 j)) from by show va_rf (c.2.2.2.1 46 j) = _; rw [hsec]; rfl) d_L_makeImage_130 ?_
        refine aw_ifnull d_L_makeImage_133 ?_
        refine aw_aloadV_n d_L_makeImage_136 rfl rfl (by first | exact Or.inl ⟨_, rfl⟩ | exact Or.inr rfl | exact rv_Q _) ?_
        refine aw_getE cl_Symbol fl_L_207 (by decide) (hR.sym (hJ1.hk hjS)) rfl (show _ = Value.ref (cQ c.2.2.2.2 (4 * e 11 j + e 13 j)) from by show va_rf (c.2.2.2.1 46 j) = _; rw [hsec]; rfl) d_L_makeImage_137 ?_
        refine aw_get cl_Section fl_L_237 (by decide) (hR.sec (hJ1.hq hqj)) rfl d_L_makeImage_140 ?_
        refine aw_if_eq (tgt := 158) d_L_makeImage_143 (by decide) (fun c143 => ?_) (fun c143 => ?_)
        · refine aw_iinc (v := nI (i + 1)) d_L_makeImage_158 rfl (ax_inc i) (by decide) (by dsimp only [List.set]) ?_
          refine aw_goto (tgt := 105) d_L_makeImage_161 (by decide) ?_
          have c143 : I 27 (4 * e 11 j + e 13 j) = 0 := c143
          rw [i27, hnd _ hqj] at c143
          exact ih (i + 1) v I Lg K h _ _ (by omega) h1 h2 h3 hK (by omega) (skip (fun z => z.2 (by rw [eM]; exact c143))) hR hF
        · refine aw_aloadV_n d_L_makeImage_146 rfl rfl (by first | exact Or.inl ⟨_, rfl⟩ | exact Or.inr rfl | exact rv_Q _) ?_
          refine aw_get cl_L fl_L_54 (by decide) hR.obj rfl d_L_makeImage_147 ?_
          refine aw_aloadV_n d_L_makeImage_150 rfl rfl (by first | exact Or.inl ⟨_, rfl⟩ | exact Or.inr rfl | exact rv_Q _) ?_
          refine aw_aloadV_n d_L_makeImage_151 rfl rfl (by first | exact Or.inl ⟨_, rfl⟩ | exact Or.inr rfl | exact rv_Q _) ?_
          refine aw_callV (c_Symbol_placeInImage G _ o _ hR s e U S W T hJ1 hjS hqj) cl_Symbol (hR.sym (hJ1.hk hjS)) m_Symbol_placeInImage ml_L_332 rfl rfl (by decide) (by decide) (Nat.le_of_ble_eq_true rfl) d_L_makeImage_152 ?_
          rintro vv h ⟨rfl, rfl⟩
          have hnj : ¬ s.2.1 4 (4 * e 11 j + e 13 j) = 0 := by
            have c143 : ¬ I 27 (4 * e 11 j + e 13 j) = 0 := c143
            rw [i27, hnd _ hqj] at c143
            exact c143
          rw [if_neg (Int32.not_lt.mpr hj0)]
          have e28 : I 28 (4 * e 11 j + e 13 j) = 4194304 + s.2.1 7 (4 * e 11 j + e 13 j) := by rw [i28]; exact hbg _ hqj hnj
          show AW G x Y_L_makeImage _ _ _ _ _ 155 _ (.int (I 28 (4 * e 11 j + e 13 j) + s.2.1 14 j) :: _)
          rw [e28]
          refine aw_callV (c_Image_addName G _ o _ hR hK (by omega) hiN (mLab1 (s.2.1 7) (s.2.1 14) e j)) cl_Image hR.img m_Image_addName ml_L_370 rfl rfl (by decide) (by decide) (Nat.le_of_ble_eq_true rfl) d_L_makeImage_155 ?_
          rintro vv hh2 ⟨rfl, hR2, hF2⟩
          refine aw_iinc (v := nI (i + 1)) d_L_makeImage_158 rfl (ax_inc i) (by decide) (by dsimp only [List.set]) ?_
          refine aw_goto (tgt := 105) d_L_makeImage_161 (by decide) ?_
          refine ih (i + 1) _ _ _ (K + 1) _ _ _ (by omega) (fun k q => (va_up_ne _ _ q).trans (h1 k q)) (fun F q1 q2 => (va_up_ne _ _ q2).trans ((va_up_ne _ _ q1).trans (h2 F q1 q2))) (fun F q => (va_up_ne _ _ q).trans (h3 F q)) ?_ (by omega) (fun w a => ?_) hR2 (hF.tr hF2)
          · show nI K + 1 = _
            rw [nI_1]
          · show mAddrL (va_up (I 12) K (I 29 i)) (va_up (Lg 11) K (Lg 42 i)) (va_up (I 13) K (mLab1 (s.2.1 7) (s.2.1 14) e j)) w a 0 (K + 1) = _
            rw [mAddrL_add, i29, l42]
            refine cLk_step (hlk w a) (fun hn => ?_) (fun he => ?_)
            · refine and_congr_right (fun _ => ⟨fun ⟨y, y1, y2⟩ => ⟨y, ?_, y2⟩, fun ⟨y, y1, y2⟩ => ⟨y, by omega, y2⟩⟩)
              by_cases ey : y = i
              · rw [ey] at y2
                exact absurd ⟨y2.2, y2.1⟩ hn
              · omega
            · obtain ⟨rfl, rfl⟩ := he
              refine ⟨fun ⟨_, y, y1, y2⟩ => ?_, ⟨⟨hM, by rw [eM]; exact hnj⟩, i, by omega, rfl, rfl⟩, by rw [eM]⟩
              have := hJ.uni hiN y (by omega) y2.1 y2.2
              omega
    · rw [if_neg hM] at hmn
      refine aw_iload_n d_L_makeImage_105 rfl rfl ?_
      refine aw_aloadV_n d_L_makeImage_106 rfl rfl (by first | exact Or.inl ⟨_, rfl⟩ | exact Or.inr rfl | exact rv_Q _) ?_
      refine aw_getE cl_L fl_L_66 (by decide) hR.obj rfl (show _ = Value.int (nI (c.2.2.2.2.2 1)) from congrArg Value.int hJ1.sN) d_L_makeImage_107 ?_
      refine aw_icmp_ge (tgt := 164) d_L_makeImage_110 (by decide) (fun c110 => ?_) (fun c110 => ?_)
      · exact absurd c110 (nI_ge (by omega) (by omega))
      · refine aw_aloadV_n d_L_makeImage_113 rfl rfl (by first | exact Or.inl ⟨_, rfl⟩ | exact Or.inr rfl | exact rv_Q _) ?_
        refine aw_get cl_L fl_L_17 (by decide) hR.obj rfl d_L_makeImage_114 ?_
        refine aw_iload_n d_L_makeImage_117 rfl rfl ?_
        refine aC_l2 hR rfl (show i < 2048 by omega) (hJ1.rN hiN) d_L_makeImage_118 ?_
        refine aw_astoreV_n d_L_makeImage_119 rfl (by decide) (by first | exact Or.inl ⟨_, rfl⟩ | exact Or.inr rfl | exact rv_Q _) (by dsimp only [List.set]) ?_
        refine aw_aloadV_n d_L_makeImage_120 rfl rfl (by first | exact Or.inl ⟨_, rfl⟩ | exact Or.inr rfl | exact rv_Q _) ?_
        refine aw_callV (c_Name_meaning G _ o _ hR hiN) cl_Name (hR.name hiN) m_Name_meaning ml_L_367 rfl rfl (by decide) (by decide) (Nat.le_of_ble_eq_true rfl) d_L_makeImage_121 ?_
        rintro vv h ⟨rfl, rfl⟩
        rw [hmn]
        refine aw_astoreV_n d_L_makeImage_124 rfl (by decide) (by first | exact Or.inl ⟨_, rfl⟩ | exact Or.inr rfl | exact rv_Q _) (by dsimp only [List.set]) ?_
        refine aw_aloadV_n d_L_makeImage_125 rfl rfl (by first | exact Or.inl ⟨_, rfl⟩ | exact Or.inr rfl | exact rv_Q _) ?_
        refine aw_ifnullN (tgt := 158) d_L_makeImage_126 (by decide) ?_
        refine aw_iinc (v := nI (i + 1)) d_L_makeImage_158 rfl (ax_inc i) (by decide) (by dsimp only [List.set]) ?_
        refine aw_goto (tgt := 105) d_L_makeImage_161 (by decide) ?_
        exact ih (i + 1) v I Lg K h _ _ (by omega) h1 h2 h3 hK (by omega) (skip (fun z => hM z.1)) hR hF
theorem cJ.v4 {c : cSt} {s : mSt} {e : Nat → Nat → Nat} {U S W T : Nat} (h : cJ c s e U S W T) {v : Nat → Int32} {I : Nat → Nat → Int32} (h1 : ∀ k, ¬ k = 54 → v k = c.1 k) (h2 : ∀ F, ¬ F = 14 → ¬ F = 15 → I F = c.2.1 F) : cJ (v, I, c.2.2) s e U S W T := h.ag (X := [14, 15, 154]) ⟨fun k q => h1 k (fun e => q (by rw [e]; decide)), fun k q => h2 k (fun e => q (by rw [e]; decide)) (fun e => q (by rw [e]; decide)), fun _ _ => rfl, fun _ _ => rfl, rfl⟩ (by decide)
set_option maxRecDepth 20000 in
theorem l_L_make4 {G : ax_G} {x : ax_X} {h0 : ax_H} {P : Option Value → ax_H → Prop} {o : Nat} {c : cSt} (s : mSt) (e : Nat → Nat → Nat) (U S W T : Nat) (hJ : cJ c s e U S W T) (hTb : T ≤ 8192) (hUb : U ≤ 32) (i5 : mI5 s e U T) (hnd : ∀ q, q < 4 * U → c.2.1 27 q = s.2.1 4 q) (hbg : ∀ q, q < 4 * U → ¬ s.2.1 4 q = 0 → c.2.1 28 q = 4194304 + s.2.1 7 q) (hq : ax_H) (K9 : mKl) (hk : ∀ v I h2, (let K := K9; (∀ k, ¬ k = 54 → v k = c.1 k) → (∀ F, ¬ F = 14 → ¬ F = 15 → I F = c.2.1 F) → v 54 = nI K.1 → (∀ i, i < K.1 → I 14 i = K.2.1 i ∧ I 15 i = K.2.2 i) → K.1 ≤ 8192 → cR o (v, I, c.2.2) h2 → cFr o (c.2.2.2.2.2 5) hq h2 → P none h2)) : ∀ r t v I (K : mKl) h o2 o3, t + r = T → mKlL (s.2.1 4) (s.2.1 7) (s.2.1 25) (s.2.1 26) (s.2.1 27) e r t K = K9 → (∀ k, ¬ k = 54 → v k = c.1 k) → (∀ F, ¬ F = 14 → ¬ F = 15 → I F = c.2.1 F) → v 54 = nI K.1 → (∀ i, i < K.1 → I 14 i = K.2.1 i ∧ I 15 i = K.2.2 i) → K.1 ≤ t → cR o (v, I, c.2.2) h → cFr o (c.2.2.2.2.2 5) hq h → AW G x Y_L_makeImage 4 115 h0 P h 166 [some (.ref o), some (.int (nI t)), o2, o3] [] := by
  intro r
  induction r with
  | zero =>
    intro t v I K h o2 o3 ht he h1 h2 hK hv hKt hR hF
    have he : K = K9 := he
    subst he
    have hJ1 := hJ.v4 h1 h2
    refine aw_iload_n d_L_makeImage_166 rfl rfl ?_
    refine aw_aloadV_n d_L_makeImage_167 rfl rfl (by first | exact Or.inl ⟨_, rfl⟩ | exact Or.inr rfl | exact rv_Q _) ?_
    refine aw_getE cl_L fl_L_75 (by decide) hR.obj rfl (congrArg Value.int hJ1.sT) d_L_makeImage_168 ?_
    refine aw_icmp_ge (tgt := 205) d_L_makeImage_171 (by decide) (fun c171 => ?_) (fun c171 => ?_)
    · refine aw_vret ?_ rfl d_L_makeImage_205
      exact hk v I h h1 h2 hK hv (by omega) hR hF
    · exact absurd (nI_le (show T ≤ t by omega) (by omega)) c171
  | succ r ih =>
    intro t v I K h o2 o3 ht he h1 h2 hK hv hKt hR hF
    have htT : t < T := by omega
    have hJ1 := hJ.v4 h1 h2
    obtain ⟨u1, u2⟩ := i5 t htT
    have hqq : 4 * e 25 t < 4 * U := by omega
    have htx : Value.ref (cQ c.2.2.2.2 (c.2.2.2.2.1 7 t)) = .ref (cQ c.2.2.2.2 (4 * e 25 t)) := by rw [hJ.txt htT]
    have i27 : I 27 (4 * e 25 t) = s.2.1 4 (4 * e 25 t) := by rw [h2 27 (by decide) (by decide)]; exact hnd _ hqq
    rw [mKlL] at he
    refine aw_iload_n d_L_makeImage_166 rfl rfl ?_
    refine aw_aloadV_n d_L_makeImage_167 rfl rfl (by first | exact Or.inl ⟨_, rfl⟩ | exact Or.inr rfl | exact rv_Q _) ?_
    refine aw_getE cl_L fl_L_75 (by decide) hR.obj rfl (congrArg Value.int hJ1.sT) d_L_makeImage_168 ?_
    refine aw_icmp_ge (tgt := 205) d_L_makeImage_171 (by decide) (fun c171 => ?_) (fun c171 => ?_)
    · exact absurd c171 (nI_ge (by omega) (by omega))
    · refine aw_aloadV_n d_L_makeImage_174 rfl rfl (by first | exact Or.inl ⟨_, rfl⟩ | exact Or.inr rfl | exact rv_Q _) ?_
      refine aw_get cl_L fl_L_35 (by decide) hR.obj rfl d_L_makeImage_175 ?_
      refine aw_iload_n d_L_makeImage_178 rfl rfl ?_
      refine aC_l5 hR rfl (show t < 8192 by omega) (hJ1.rT htT) d_L_makeImage_179 ?_
      refine aw_astoreV_n d_L_makeImage_180 rfl (by decide) (by first | exact Or.inl ⟨_, rfl⟩ | exact Or.inr rfl | exact rv_Q _) (by dsimp only [List.set]) ?_
      refine aw_aloadV_n d_L_makeImage_181 rfl rfl (by first | exact Or.inl ⟨_, rfl⟩ | exact Or.inr rfl | exact rv_Q _) ?_
      refine aw_getE cl_Start fl_L_373 (by decide) (hR.start (hJ1.ht htT)) rfl htx d_L_makeImage_182 ?_
      refine aw_getE cl_Section fl_L_237 (by decide) (hR.sec (hJ1.hq hqq)) rfl (congrArg Value.int i27) d_L_makeImage_185 ?_
      refine aw_if_eq (tgt := 199) d_L_makeImage_188 (by decide) (fun c188 => ?_) (fun c188 => ?_)
      · refine aw_iinc (v := nI (t + 1)) d_L_makeImage_199 rfl (ax_inc t) (by decide) (by dsimp only [List.set]) ?_
        refine aw_goto (tgt := 166) d_L_makeImage_202 (by decide) ?_
        rw [if_pos c188] at he
        exact ih (t + 1) v I K h _ _ (by omega) he h1 h2 hK hv (by omega) hR hF
      · refine aw_aloadV_n d_L_makeImage_191 rfl rfl (by first | exact Or.inl ⟨_, rfl⟩ | exact Or.inr rfl | exact rv_Q _) ?_
        refine aw_get cl_L fl_L_54 (by decide) hR.obj rfl d_L_makeImage_192 ?_
        refine aw_aloadV_n d_L_makeImage_195 rfl rfl (by first | exact Or.inl ⟨_, rfl⟩ | exact Or.inr rfl | exact rv_Q _) ?_
        refine aw_callV (c_Image_addStart G _ o _ hR s e U S W T hJ1 hUb hK (by omega) htT u2 (by show I 28 _ = _; rw [h2 28 (by decide) (by decide)]; exact hbg _ hqq c188)) cl_Image hR.img m_Image_addStart ml_L_376 rfl rfl (by decide) (by decide) (Nat.le_of_ble_eq_true rfl) d_L_makeImage_196 ?_
        rintro vv hh2 ⟨rfl, hR2, hF2⟩
        refine aw_iinc (v := nI (t + 1)) d_L_makeImage_199 rfl (ax_inc t) (by decide) (by dsimp only [List.set]) ?_
        refine aw_goto (tgt := 166) d_L_makeImage_202 (by decide) ?_
        rw [if_neg c188] at he
        refine ih (t + 1) _ _ _ _ _ _ (by omega) he (fun k q => (va_up_ne _ _ q).trans (h1 k q)) (fun F q1 q2 => (va_up_ne _ _ q2).trans ((va_up_ne _ _ q1).trans (h2 F q1 q2))) (nI_1 K.1) (fun i hi => ?_) (show K.1 + 1 ≤ t + 1 by omega) hR2 (hF.tr hF2)
        show va_up (I 14) K.1 (s.2.1 7 (4 * e 25 t) + s.2.1 26 t) i = va_up K.2.1 K.1 _ i ∧ va_up (I 15) K.1 (65536 * nI (e 25 t) + s.2.1 27 t) i = va_up K.2.2 K.1 (65536 * s.2.1 25 t + s.2.1 27 t) i
        rw [u1]
        have hi : i < K.1 + 1 := hi
        by_cases ei : i = K.1
        · rw [ei, va_up_self, va_up_self, va_up_self, va_up_self]
          exact ⟨rfl, rfl⟩
        · rw [va_up_ne _ _ ei, va_up_ne _ _ ei, va_up_ne _ _ ei, va_up_ne _ _ ei]
          exact hv i (by omega)

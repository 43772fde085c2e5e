set_option maxRecDepth 20000 in
theorem l_L_need1 {G : ax_G} {x : ax_X} {h0 : ax_H} {P : Option Value → ax_H → Prop} {o : Nat} {c : cSt} (s : mSt) (e : Nat → Nat → Nat) (U S W T : Nat) (hJ : cJ c s e U S W T) (hUb : U ≤ 32) (tk old : Nat → Int32) (ht : ∀ u, u < U → c.2.1 23 u = tk u) (q0 : Nat) (hq : ax_H) (hk : ∀ h2 o2, cR o (cM c (va_up c.2.1 27 (mNd0 U tk (s.2.1 2) old (4 * U))) c.2.2.2.1) h2 → cFr o (c.2.2.2.2.2 5) hq h2 → AW G x Y_L_findNeeded 4 85 h0 P h2 25 [some (.ref o), some (.ref q0), some (.int o2), none] []) : ∀ r u h, u + r = U → cR o (cM c (va_up c.2.1 27 (mNd0 U tk (s.2.1 2) old (4 * u))) c.2.2.2.1) h → cFr o (c.2.2.2.2.2 5) hq h → AW G x Y_L_findNeeded 4 85 h0 P h 2 [some (.ref o), some (.ref q0), some (.int (nI u)), none] [] := by
  intro r
  induction r with
  | zero =>
    intro u h hu hR hF
    have huu : u = U := by omega
    subst huu
    refine aw_iload_n d_L_findNeeded_2 rfl rfl ?_
    refine aw_aloadV_n d_L_findNeeded_3 rfl rfl (by first | exact Or.inl ⟨_, rfl⟩ | exact Or.inr rfl | exact rv_Q _) ?_
    refine aw_getE cl_L fl_L_62 (by decide) hR.obj rfl (congrArg Value.int hJ.sU) d_L_findNeeded_4 ?_
    refine aw_icmp_ge (tgt := 25) d_L_findNeeded_7 (by decide) (fun c7 => ?_) (fun c7 => ?_)
    · exact hk h _ hR hF
    · exact absurd (nI_le (Nat.le_refl _) (by omega)) c7
  | succ r ih =>
    intro u h hu hR hF
    have huU : u < U := by omega
    have hJ1 : cJ (cM c (va_up c.2.1 27 (mNd0 U tk (s.2.1 2) old (4 * u))) c.2.2.2.1) s e U S W T := hJ.m (X := [27]) ((cIg.rf _ c).i (F := 27) (by decide) _) (by decide)
    refine aw_iload_n d_L_findNeeded_2 rfl rfl ?_
    refine aw_aloadV_n d_L_findNeeded_3 rfl rfl (by first | exact Or.inl ⟨_, rfl⟩ | exact Or.inr rfl | exact rv_Q _) ?_
    refine aw_getE cl_L fl_L_62 (by decide) hR.obj rfl (congrArg Value.int hJ.sU) d_L_findNeeded_4 ?_
    refine aw_icmp_ge (tgt := 25) d_L_findNeeded_7 (by decide) (fun c7 => ?_) (fun c7 => ?_)
    · exact absurd c7 (nI_ge (by omega) (by omega))
    · refine aw_aloadV_n d_L_findNeeded_10 rfl rfl (by first | exact Or.inl ⟨_, rfl⟩ | exact Or.inr rfl | exact rv_Q _) ?_
      refine aw_get cl_L fl_L_11 (by decide) hR.obj rfl d_L_findNeeded_11 ?_
      refine aw_iload_n d_L_findNeeded_14 rfl rfl ?_
      refine aC_l1 hR rfl (show u < 32 by omega) (hJ.rU huU) d_L_findNeeded_15 ?_
      refine aw_callV (c_Unit_need G _ o _ hR s e U S W T hJ1 huU tk old (ht u huU) rfl) cl_Unit (hR.unit (hJ.hu huU)) m_Unit_needKeptAlone ml_L_312 rfl rfl (by decide) (by decide) (Nat.le_of_ble_eq_true rfl) d_L_findNeeded_16 ?_
      rintro v h2 ⟨rfl, hR2, hF2⟩
      have hR2 : cR o (cM c (va_up (va_up c.2.1 27 (mNd0 U tk (s.2.1 2) old (4 * u))) 27 (mNd0 U tk (s.2.1 2) old (4 * (u + 1)))) c.2.2.2.1) h2 := hR2
      rw [bx_uu] at hR2
      refine aw_iinc (v := nI (u + 1)) d_L_findNeeded_19 rfl (ax_inc u) (by decide) (by dsimp only [List.set]) ?_
      refine aw_goto (tgt := 2) d_L_findNeeded_22 (by decide) ?_
      exact ih (u + 1) h2 (by omega) hR2 (hF.tr hF2)
set_option maxRecDepth 20000 in
theorem l_L_need2 {G : ax_G} {x : ax_X} {h0 : ax_H} {P : Option Value → ax_H → Prop} {o : Nat} {c : cSt} (s : mSt) (e : Nat → Nat → Nat) (U S W T : Nat) (hJ : cJ c s e U S W T) (hWb : W ≤ 4096) (hSb : S ≤ 2048) (hUb : U ≤ 32) (i2 : mI2 s e U S) (i3 : mI3 s e S) (i4 : mI4 s e U S W) (tk : Nat → Int32) (hB : cBk s e S c.2.2.2.2 tk c.2.2.2.1 S) (htq : ∀ w, w < W → mTq tk (mT s e S) e w < 128 → mTq tk (mT s e S) e w < 4 * U) (q0 : Nat) (hq : ax_H) (fin : Nat → Int32) (hp : ∀ h2, cR o (cM c (va_up c.2.1 27 fin) c.2.2.2.1) h2 → cFr o (c.2.2.2.2.2 5) hq h2 → P none h2) : ∀ t r m a h, r + t = 129 → ¬ m = 0 → mTurns (mTq tk (mT s e S) e) (mSrc e) W t a = fin → cR o (cM c (va_up c.2.1 27 a) c.2.2.2.1) h → cFr o (c.2.2.2.2.2 5) hq h → AW G x Y_L_findNeeded 4 85 h0 P h 38 [some (.ref o), some (.ref q0), some (.int m), some (.int (nI r))] [] := by
  intro t
  induction t with
  | zero =>
    intro r m a h hr hm he hR hF
    have hr2 : r = 129 := by omega
    subst hr2
    have he : a = fin := he
    subst he
    refine aw_iload_n d_L_findNeeded_38 rfl rfl ?_
    refine aw_sipush (v := 128) d_L_findNeeded_39 (by decide) ?_
    refine aw_icmp_gt (tgt := 60) d_L_findNeeded_42 (by decide) (fun c42 => ?_) (fun c42 => ?_)
    · refine aw_vret ?_ rfl d_L_findNeeded_60
      exact hp h hR hF
    · exact absurd (by decide) c42
  | succ t ih =>
    intro r m a h hr hm he hR hF
    have hJ1 : cJ (cM c (va_up c.2.1 27 a) c.2.2.2.1) s e U S W T := hJ.m (X := [27]) ((cIg.rf _ c).i (F := 27) (by decide) _) (by decide)
    rw [mTurns] at he
    have nr : ¬ nI 128 < nI r := nI_nlt (by omega) (by decide)
    refine aw_iload_n d_L_findNeeded_38 rfl rfl ?_
    refine aw_sipush (v := 128) d_L_findNeeded_39 (by decide) ?_
    refine aw_icmp_gt (tgt := 60) d_L_findNeeded_42 (by decide) (fun c42 => ?_) (fun c42 => ?_)
    · exact absurd c42 nr
    · refine aw_iload_n d_L_findNeeded_45 rfl rfl ?_
      refine aw_if_eq (tgt := 60) d_L_findNeeded_46 (by decide) (fun c46 => ?_) (fun c46 => ?_)
      · exact absurd c46 hm
      · refine aw_aloadV_n d_L_findNeeded_49 rfl rfl (by first | exact Or.inl ⟨_, rfl⟩ | exact Or.inr rfl | exact rv_Q _) ?_
        refine aw_callV (c_L_pass G _ o (cM c (va_up c.2.1 27 a) c.2.2.2.1) hR s e U S W T hJ1 hWb hSb hUb i2 i3 i4 tk hB htq) cl_L hR.obj m_L_needWhatNeededOnesAwait ml_L_315 rfl rfl (by decide) (by decide) (Nat.le_of_ble_eq_true rfl) d_L_findNeeded_50 ?_
        rintro v h2 ⟨hR2, rfl, hF2⟩
        have hR2 : cR o (cM c (va_up (va_up c.2.1 27 a) 27 (mPassL (mTq tk (mT s e S) e) (mSrc e) W 0 (a, 0)).1) c.2.2.2.1) h2 := hR2
        rw [bx_uu] at hR2
        show AW G x Y_L_findNeeded 4 85 h0 P h2 53 _ [.int (mPassL (mTq tk (mT s e S) e) (mSrc e) W 0 (a, 0)).2]
        refine aw_istore_n d_L_findNeeded_53 rfl (by decide) (by dsimp only [List.set]) ?_
        refine aw_iinc (v := nI (r + 1)) d_L_findNeeded_54 rfl (ax_inc r) (by decide) (by dsimp only [List.set]) ?_
        refine aw_goto (tgt := 38) d_L_findNeeded_57 (by decide) ?_
        by_cases g : (mPassL (mTq tk (mT s e S) e) (mSrc e) W 0 (a, 0)).2 = 0
        · rw [if_pos g] at he
          rw [he] at hR2
          rw [g]
          refine aw_iload_n d_L_findNeeded_38 rfl rfl ?_
          refine aw_sipush (v := 128) d_L_findNeeded_39 (by decide) ?_
          refine aw_icmp_gt (tgt := 60) d_L_findNeeded_42 (by decide) (fun c42 => ?_) (fun c42 => ?_)
          · refine aw_vret ?_ rfl d_L_findNeeded_60
            exact hp h2 hR2 (hF.tr hF2)
          · refine aw_iload_n d_L_findNeeded_45 rfl rfl ?_
            refine aw_if_eq (tgt := 60) d_L_findNeeded_46 (by decide) (fun c46 => ?_) (fun c46 => ?_)
            · refine aw_vret ?_ rfl d_L_findNeeded_60
              exact hp h2 hR2 (hF.tr hF2)
            · exact absurd rfl c46
        · rw [if_neg g] at he
          exact ih (r + 1) _ _ h2 (by omega) g he hR2 (hF.tr hF2)
set_option maxRecDepth 20000 in
theorem c_L_findNeeded (G : ax_G) (h : ax_H) (o : Nat) (c : cSt) (hR : cR o c h) (s : mSt) (e : Nat → Nat → Nat) (U S W T : Nat) (hJ : cJ c s e U S W T) (hWb : W ≤ 4096) (hSb : S ≤ 2048) (hUb : U ≤ 32) (i2 : mI2 s e U S) (i3 : mI3 s e S) (i4 : mI4 s e U S W) (tk : Nat → Int32) (hB : cBk s e S c.2.2.2.2 tk c.2.2.2.1 S) (htq : ∀ w, w < W → mTq tk (mT s e S) e w < 128 → mTq tk (mT s e S) e w < 4 * U) (ht : ∀ u, u < U → c.2.1 23 u = tk u) {q0 : Nat} (hq0 : q0 < 4 * U) : AM G Y_L_findNeeded 4 85 [.ref o, .ref (cQ c.2.2.2.2 q0)] h (fun v h2 => v = none ∧ cR o (cM c (va_up c.2.1 27 (mTurns (mTq tk (mT s e S) e) (mSrc e) W 129 (va_up (mNd0 U tk (s.2.1 2) (c.2.1 27) (4 * U)) q0 1))) c.2.2.2.1) h2 ∧ cFr o (c.2.2.2.2.2 5) h h2) := by
  refine aw_enter (by decide) (Nat.le_of_ble_eq_true rfl) (n := 2) (ls := [some (.ref o), some (.ref (cQ c.2.2.2.2 q0)), none, none]) rfl (fun x => ?_)
  refine aw_iconst (v := 0) d_L_findNeeded_0 (by decide) ?_
  refine aw_istore_n d_L_findNeeded_1 rfl (by decide) (by dsimp only [List.set]) ?_
  refine l_L_need1 s e U S W T hJ hUb tk (c.2.1 27) ht _ h (fun h2 o2 hR2 hF2 => ?_) U 0 h (by omega) (by rw [Nat.mul_zero, mNd0_0, mUid]; exact hR) (cFr.rf _ _ _)
  refine aw_aloadV_n d_L_findNeeded_25 rfl rfl (by first | exact Or.inl ⟨_, rfl⟩ | exact Or.inr rfl | exact rv_Q _) ?_
  refine aw_ifnull d_L_findNeeded_26 ?_
  refine aw_aloadV_n d_L_findNeeded_29 rfl rfl (by first | exact Or.inl ⟨_, rfl⟩ | exact Or.inr rfl | exact rv_Q _) ?_
  refine aw_iconst (v := 1) d_L_findNeeded_30 (by decide) ?_
  refine aC_p27 hR2 (hJ.hq hq0) fl_L_237 rfl rfl d_L_findNeeded_31 (fun g31 hR31 hF31 => ?_)
  refine aw_iconst (v := 1) d_L_findNeeded_34 (by decide) ?_
  refine aw_istore_n d_L_findNeeded_35 rfl (by decide) (by dsimp only [List.set]) ?_
  refine aw_iconst (v := 0) d_L_findNeeded_36 (by decide) ?_
  refine aw_istore_n d_L_findNeeded_37 rfl (by decide) (by dsimp only [List.set]) ?_
  have hR31 : cR o (cM c (va_up (va_up c.2.1 27 (mNd0 U tk (s.2.1 2) (c.2.1 27) (4 * U))) 27 (va_up (mNd0 U tk (s.2.1 2) (c.2.1 27) (4 * U)) q0 1)) c.2.2.2.1) g31 := hR31
  rw [bx_uu] at hR31
  exact l_L_need2 s e U S W T hJ hWb hSb hUb i2 i3 i4 tk hB htq _ h _ (fun h3 a1 a2 => ⟨rfl, a1, a2⟩) 129 0 1 _ _ (by omega) (by decide) rfl hR31 (hF2.tr hF31)
/-- two states alike on D go on alike -/
theorem mPassL_congr {tq src : Nat → Nat} {W : Nat} {D : Nat → Prop} (hs : ∀ w, w < W → D (src w)) (ht : ∀ w, w < W → tq w < 128 → D (tq w)) : ∀ r w (a b : (Nat → Int32) × Int32), w + r = W → (∀ q, D q → a.1 q = b.1 q) → a.2 = b.2 → (∀ q, D q → (mPassL tq src r w a).1 q = (mPassL tq src r w b).1 q) ∧ (mPassL tq src r w a).2 = (mPassL tq src r w b).2 := by
  intro r
  induction r with
  | zero => exact fun w a b _ h1 h2 => ⟨h1, h2⟩
  | succ r ih =>
    intro w a b hw h1 h2
    rw [mPassL, mPassL]
    have iff : mHit2 tq src w a.1 ↔ mHit2 tq src w b.1 := by
      constructor
      · rintro ⟨a1, a2, a3⟩
        exact ⟨by rw [← h1 _ (hs w (by omega))]; exact a1, a2, by rw [← h1 _ (ht w (by omega) a2)]; exact a3⟩
      · rintro ⟨a1, a2, a3⟩
        exact ⟨by rw [h1 _ (hs w (by omega))]; exact a1, a2, by rw [h1 _ (ht w (by omega) a2)]; exact a3⟩
    by_cases q : mHit2 tq src w a.1
    · rw [if_pos q, if_pos (iff.mp q)]
      refine ih (w + 1) _ _ (by omega) (fun i hi => ?_) rfl
      show va_up a.1 (tq w) 1 i = va_up b.1 (tq w) 1 i
      by_cases ei : i = tq w
      · rw [ei, va_up_self, va_up_self]
      · rw [va_up_ne _ _ ei, va_up_ne _ _ ei]; exact h1 i hi
    · rw [if_neg q, if_neg (fun z => q (iff.mpr z))]
      exact ih (w + 1) _ _ (by omega) h1 h2
theorem mTurns_congr {tq src : Nat → Nat} {W : Nat} {D : Nat → Prop} (hs : ∀ w, w < W → D (src w)) (ht : ∀ w, w < W → tq w < 128 → D (tq w)) : ∀ t a b, (∀ q, D q → a q = b q) → ∀ q, D q → mTurns tq src W t a q = mTurns tq src W t b q := by
  intro t
  induction t with
  | zero => exact fun a b h => h
  | succ t ih =>
    intro a b h
    obtain ⟨h1, h2⟩ := mPassL_congr hs ht W 0 (a, 0) (b, 0) (by omega) h rfl
    rw [mTurns, mTurns]
    by_cases g : (mPassL tq src W 0 (a, 0)).2 = 0
    · rw [if_pos g, if_pos (h2 ▸ g)]
      exact h1
    · rw [if_neg g, if_neg (h2 ▸ g)]
      exact ih _ _ h1
/-- how many zeros there are below n -/
def cZ (f : Nat → Int32) : Nat → Nat
  | 0 => 0
  | n + 1 => cZ f n + (if f n = 0 then 1 else 0)
theorem cZ_le (f : Nat → Int32) : ∀ n, cZ f n ≤ n := by
  intro n
  induction n with
  | zero => exact Nat.le_refl _
  | succ n ih =>
    rw [cZ]
    by_cases h : f n = 0
    · rw [if_pos h]; omega
    · rw [if_neg h]; omega
theorem cZ_mono {a b : Nat → Int32} (h : ∀ q, ¬ a q = 0 → ¬ b q = 0) : ∀ n, cZ b n ≤ cZ a n := by
  intro n
  induction n with
  | zero => exact Nat.le_refl _
  | succ n ih =>
    rw [cZ, cZ]
    by_cases h1 : a n = 0
    · rw [if_pos h1]
      by_cases h2 : b n = 0
      · rw [if_pos h2]; omega
      · rw [if_neg h2]; omega
    · rw [if_neg h1, if_neg (h n h1)]; omega
theorem cZ_lt {a b : Nat → Int32} (h : ∀ q, ¬ a q = 0 → ¬ b q = 0) {k : Nat} (ha : a k = 0) (hb : ¬ b k = 0) : ∀ n, k < n → cZ b n < cZ a n := by
  intro n
  induction n with
  | zero => exact fun q => absurd q (Nat.not_lt_zero _)
  | succ n ih =>
    intro hk
    rw [cZ, cZ]
    by_cases e : k = n
    · subst e
      have := cZ_mono h k
      rw [if_pos ha, if_neg hb]
      omega
    · have := ih (by omega)
      by_cases h1 : a n = 0
      · rw [if_pos h1]
        by_cases h2 : b n = 0
        · rw [if_pos h2]; omega
        · rw [if_neg h2]; omega
      · rw [if_neg h1, if_neg (h n h1)]; omega
theorem mPassL_facts (tq src : Nat → Nat) : ∀ r w a, (∀ q, ¬ a.1 q = 0 → ¬ (mPassL tq src r w a).1 q = 0) ∧ (a.2 = 0 → (((mPassL tq src r w a).2 = 0 ∧ (mPassL tq src r w a).1 = a.1 ∧ ∀ i, w ≤ i → i < w + r → ¬ mHit2 tq src i a.1) ∨ (¬ (mPassL tq src r w a).2 = 0 ∧ ∃ k, k < 128 ∧ a.1 k = 0 ∧ ¬ (mPassL tq src r w a).1 k = 0))) ∧ (¬ a.2 = 0 → ¬ (mPassL tq src r w a).2 = 0) := by
  intro r
  induction r with
  | zero => exact fun w a => ⟨fun _ h => h, fun h => Or.inl ⟨h, rfl, fun i i1 i2 => absurd i1 (by omega)⟩, fun h => h⟩
  | succ r ih =>
    intro w a
    rw [mPassL]
    by_cases q : mHit2 tq src w a.1
    · rw [if_pos q]
      obtain ⟨h1, h2, h3⟩ := ih (w + 1) (va_up a.1 (tq w) 1, 1)
      have mon : ∀ i, ¬ a.1 i = 0 → ¬ va_up a.1 (tq w) 1 i = 0 := by
        intro i hi
        by_cases e : i = tq w
        · rw [e, va_up_self]; decide
        · rw [va_up_ne _ _ e]; exact hi
      refine ⟨fun i hi => h1 i (mon i hi), fun _ => Or.inr ⟨h3 (show ¬ (1 : Int32) = 0 by decide), tq w, q.2.1, q.2.2, h1 _ ?_⟩, fun _ => h3 (show ¬ (1 : Int32) = 0 by decide)⟩
      show ¬ va_up a.1 (tq w) 1 (tq w) = 0
      rw [va_up_self]
      decide
    · rw [if_neg q]
      obtain ⟨h1, h2, h3⟩ := ih (w + 1) a
      refine ⟨h1, fun h => (h2 h).elim (fun ⟨b1, b2, b3⟩ => Or.inl ⟨b1, b2, fun i i1 i2 => ?_⟩) Or.inr, h3⟩
      by_cases e : i = w
      · rw [e]; exact q
      · exact b3 i (by omega) (by omega)
/-- in the end, what needed ones await is needed -/
theorem mTurns_closed (tq src : Nat → Nat) (W : Nat) : ∀ t a, cZ a 128 < t → ∀ w, w < W → ¬ mTurns tq src W t a (src w) = 0 → tq w < 128 → ¬ mTurns tq src W t a (tq w) = 0 := by
  intro t
  induction t with
  | zero => exact fun a h => absurd h (Nat.not_lt_zero _)
  | succ t ih =>
    intro a h w hw
    obtain ⟨h1, h2, h3⟩ := mPassL_facts tq src W 0 (a, 0)
    rw [mTurns]
    rcases h2 rfl with ⟨b1, b2, b3⟩ | ⟨b1, k, k1, k2, k3⟩
    · rw [if_pos b1, b2]
      intro q1 q2 q3
      exact b3 w (Nat.zero_le _) (by omega) ⟨q1, q2, q3⟩
    · rw [if_neg b1]
      have := cZ_lt (a := a) (b := (mPassL tq src W 0 (a, 0)).1) h1 k2 k3 128 k1
      exact ih _ (by omega) w hw
theorem mTurns_mono (tq src : Nat → Nat) (W : Nat) : ∀ t a q, ¬ a q = 0 → ¬ mTurns tq src W t a q = 0 := by
  intro t
  induction t with
  | zero => exact fun a q h => h
  | succ t ih =>
    intro a q h
    have h1 := (mPassL_facts tq src W 0 (a, 0)).1 q h
    rw [mTurns]
    by_cases g : (mPassL tq src W 0 (a, 0)).2 = 0
    · rw [if_pos g]; exact h1
    · rw [if_neg g]; exact ih _ _ h1
theorem mTq_lt {s : mSt} {e : Nat → Nat → Nat} {U S W : Nat} (hSb : S ≤ 2048) (hUb : U ≤ 32) (i2 : mI2 s e U S) (i3 : mI3 s e S) (i4 : mI4 s e U S W) (tk : Nat → Int32) : ∀ w, w < W → mTq tk (mT s e S) e w < 128 → mTq tk (mT s e S) e w < 4 * U := by
  intro w hw
  have l4 := i4 w hw
  rw [mTq]
  by_cases h0 : e 22 w = 0
  · rw [if_pos h0]; exact fun q => absurd q (by decide)
  · rw [if_neg h0]
    by_cases h5 : e 22 w < 5
    · rw [if_pos h5]
      have := l4.1.2
      exact fun _ => by omega
    · rw [if_neg h5]
      obtain ⟨k, hkS, ek⟩ : ∃ k, k < S ∧ e 22 w = k + 5 := by
        rcases l4.2.2 with ⟨a1, -⟩ | ⟨d, a1, a2, -⟩ | ⟨k, a1, a2, -⟩
        · omega
        · omega
        · exact ⟨k, a1, a2⟩
      rw [show e 22 w - 5 = k by omega]
      rcases mStands_lab tk (mT s e S) k hkS with ⟨a1, -⟩ | ⟨j, a1, a2, a3⟩
      · rw [if_pos a1]; exact fun q => absurd q (by decide)
      · have a1 : j < S := a1
        rw [a2, if_neg (nI_pos (by omega)), show iN (nI j) = j from nI_clamp (by omega)]
        have l1 := (i2 j a1).2
        have l2 := (i3.lab a1 a3).1
        exact fun _ => by omega

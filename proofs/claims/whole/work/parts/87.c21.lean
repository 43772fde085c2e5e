abbrev cM (c : cSt) (I : Nat → Nat → Int32) (R : Nat → Nat → Option Nat) : cSt := (c.1, I, c.2.2.1, R, c.2.2.2.2)
def cIg (X : List Nat) (c : cSt) (I : Nat → Nat → Int32) (R : Nat → Nat → Option Nat) : Prop := (∀ F, ¬ F ∈ X → I F = c.2.1 F) ∧ ∀ F, ¬ F ∈ X → R F = c.2.2.2.1 F
theorem cIg.ag {X : List Nat} {c : cSt} {I : Nat → Nat → Int32} {R : Nat → Nat → Option Nat} (h : cIg X c I R) : cAg X c (cM c I R) := ⟨fun _ _ => rfl, h.1, fun _ _ => rfl, h.2, rfl⟩
theorem cJ.m {X : List Nat} {c : cSt} {s : mSt} {e : Nat → Nat → Nat} {U S W T : Nat} {I : Nat → Nat → Int32} {R : Nat → Nat → Option Nat} (h : cJ c s e U S W T) (g : cIg X c I R) (hX : ∀ k ∈ X, k ∈ cMu) : cJ (cM c I R) s e U S W T := h.ag g.ag hX
theorem cIg.i {X : List Nat} {c : cSt} {I : Nat → Nat → Int32} {R : Nat → Nat → Option Nat} (h : cIg X c I R) {F : Nat} (hF : F ∈ X) (f : Nat → Int32) : cIg X c (va_up I F f) R := ⟨fun k q => (va_up_ne _ _ (fun e : k = F => q (by rw [e]; exact hF))).trans (h.1 k q), h.2⟩
theorem cIg.r {X : List Nat} {c : cSt} {I : Nat → Nat → Int32} {R : Nat → Nat → Option Nat} (h : cIg X c I R) {F : Nat} (hF : F ∈ X) (f : Nat → Option Nat) : cIg X c I (va_up R F f) := ⟨h.1, fun k q => (va_up_ne _ _ (fun e : k = F => q (by rw [e]; exact hF))).trans (h.2 k q)⟩
theorem cIg.rf (X : List Nat) (c : cSt) : cIg X c c.2.1 c.2.2.2.1 := ⟨fun _ _ => rfl, fun _ _ => rfl⟩
theorem zP_step {N a : Nat} {f : Nat → Int32} {Q Q2 : Nat → Prop} (hf : ∀ i, i < N → f i = zP (Q i)) (h : ∀ i, i < N → (Q2 i ↔ Q i ∨ i = a)) : ∀ i, i < N → va_up f a 1 i = zP (Q2 i) := by
  intro i hi
  by_cases e : i = a
  · rw [e, va_up_self, zP_1]
    rw [← e]
    exact (h i hi).mpr (Or.inr e)
  · rw [va_up_ne _ _ e, hf i hi]
    exact zP_i ⟨fun q => (h i hi).mpr (Or.inl q), fun q => ((h i hi).mp q).resolve_right e⟩
theorem zP_same {N : Nat} {f : Nat → Int32} {Q Q2 : Nat → Prop} (hf : ∀ i, i < N → f i = zP (Q i)) (h : ∀ i, i < N → (Q2 i ↔ Q i)) : ∀ i, i < N → f i = zP (Q2 i) := fun i hi => (hf i hi).trans (zP_i (h i hi).symm)
theorem ex_succ {b k : Nat} {p : Nat → Prop} (hb : b ≤ k) : (∃ j, b ≤ j ∧ j < k + 1 ∧ p j) ↔ (∃ j, b ≤ j ∧ j < k ∧ p j) ∨ p k := by
  constructor
  · rintro ⟨j, j1, j2, j3⟩
    by_cases ej : j = k
    · subst ej
      exact Or.inr j3
    · exact Or.inl ⟨j, j1, by omega, j3⟩
  · rintro (⟨j, j1, j2, j3⟩ | q)
    · exact ⟨j, j1, by omega, j3⟩
    · exact ⟨k, hb, by omega, q⟩
theorem cJ.tkadd {c : cSt} {s : mSt} {e : Nat → Nat → Nat} {U S W T : Nat} (hJ : cJ c s e U S W T) (A : cG) (tk : Nat → Int32) {u : Nat} (hu : u < U) (i : Nat) (p : Nat → Prop) : (∃ k, k < S ∧ cOf e A (va_up tk u 1) i k ∧ p k) ↔ (∃ k, k < S ∧ cOf e A tk i k ∧ p k) ∨ ∃ j, e 16 u ≤ j ∧ j < cEnd e U S u ∧ A.1 5 j = i ∧ p j := by
  have hee := hJ.ee hu
  constructor
  · rintro ⟨k, k1, ⟨k2, k3⟩, k4⟩
    by_cases eu : e 11 k = u
    · have := (hJ.ord k1 u hu).mp eu
      exact Or.inr ⟨k, this.1, this.2, k3, k4⟩
    · rw [va_up_ne _ _ eu] at k2
      exact Or.inl ⟨k, k1, ⟨k2, k3⟩, k4⟩
  · rintro (⟨k, k1, ⟨k2, k3⟩, k4⟩ | ⟨j, j1, j2, j3, j4⟩)
    · refine ⟨k, k1, ⟨?_, k3⟩, k4⟩
      by_cases eu : e 11 k = u
      · rw [eu, va_up_self]; decide
      · rw [va_up_ne _ _ eu]; exact k2
    · have eu := (hJ.ord (j := j) (by omega) u hu).mpr ⟨j1, j2⟩
      exact ⟨j, by omega, ⟨by rw [eu, va_up_self]; decide, j3⟩, j4⟩
set_option maxRecDepth 20000 in
theorem c_Name_forget (G : ax_G) (h : ax_H) (o : Nat) (c : cSt) (hR : cR o c h) {i : Nat} (hi : i < c.2.2.2.2.2 1) : AM G Y_Name_forget 0 0 [.ref (c.2.2.2.2.1 1 i)] h (fun v h2 => v = none ∧ cR o (cM c (va_up (va_up c.2.1 30 (va_up (c.2.1 30) i 0)) 31 (va_up (c.2.1 31) i 0)) (va_up (va_up c.2.2.2.1 44 (va_up (c.2.2.2.1 44) i none)) 45 (va_up (c.2.2.2.1 45) i none))) h2 ∧ cFr o (c.2.2.2.2.2 5) h h2) := by
  refine aw_enter (by decide) (Nat.le_of_ble_eq_true rfl) (n := 0) (ls := [some (.ref (c.2.2.2.2.1 1 i))]) rfl (fun x => ?_)
  refine aw_aloadV_n d_Name_forget_0 rfl rfl (by first | exact Or.inl ⟨_, rfl⟩ | exact Or.inr rfl | exact rv_Q _) ?_
  refine aw_iconst (v := 0) d_Name_forget_1 (by decide) ?_
  refine aC_p30 hR hi fl_Name_17 rfl rfl d_Name_forget_2 (fun g2 hR2 hF2 => ?_)
  refine aw_aloadV_n d_Name_forget_5 rfl rfl (by first | exact Or.inl ⟨_, rfl⟩ | exact Or.inr rfl | exact rv_Q _) ?_
  refine aw_iconst (v := 0) d_Name_forget_6 (by decide) ?_
  refine aC_p31 hR2 hi fl_Name_21 rfl rfl d_Name_forget_7 (fun g7 hR7 hF7 => ?_)
  refine aw_aloadV_n d_Name_forget_10 rfl rfl (by first | exact Or.inl ⟨_, rfl⟩ | exact Or.inr rfl | exact rv_Q _) ?_
  refine aw_null d_Name_forget_11 ?_
  refine aC_p44 (v := none) hR7 hi fl_Name_24 d_Name_forget_12 (fun g12 hR12 hF12 => ?_)
  refine aw_aloadV_n d_Name_forget_15 rfl rfl (by first | exact Or.inl ⟨_, rfl⟩ | exact Or.inr rfl | exact rv_Q _) ?_
  refine aw_null d_Name_forget_16 ?_
  refine aC_p45 (v := none) hR12 hi fl_Name_28 d_Name_forget_17 (fun g17 hR17 hF17 => ?_)
  refine aw_vret ?_ rfl d_Name_forget_20
  exact ⟨rfl, hR17, (((hF2.tr hF7).tr hF12).tr hF17)⟩
set_option maxRecDepth 20000 in
theorem l_Unit_take {G : ax_G} {x : ax_X} {h0 : ax_H} {P : Option Value → ax_H → Prop} {o : Nat} {c : cSt} (s : mSt) (e : Nat → Nat → Nat) (U S W T : Nat) (hJ : cJ c s e U S W T) {u : Nat} (hu : u < U) (hSb : S ≤ 2048) (tk : Nat → Int32) (X : Nat → Int32) (hq : ax_H) (hX : Nat) (hn5 : ∀ k, k < S → c.2.2.2.2.1 5 k < c.2.2.2.2.2 1) (hp : ∀ I h2, cR o (cM c I c.2.2.2.1) h2 → cIg [23, 30, 31] c I c.2.2.2.1 → I 23 = X → (∀ i, i < c.2.2.2.2.2 1 → I 31 i = zP ((∃ k, k < S ∧ cOf e c.2.2.2.2 tk i k ∧ (mGlob (mT s e S) k ∨ mWeak (mT s e S) k)) ∨ ∃ j, e 16 u ≤ j ∧ j < cEnd e U S u ∧ c.2.2.2.2.1 5 j = i ∧ (mGlob (mT s e S) j ∨ mWeak (mT s e S) j))) ∧ (∀ i, i < c.2.2.2.2.2 1 → I 30 i = zP ((∃ k, k < S ∧ cOf e c.2.2.2.2 tk i k ∧ (s.2.1 13 k < 0 ∧ s.2.1 12 k < 2)) ∨ ∃ j, e 16 u ≤ j ∧ j < cEnd e U S u ∧ c.2.2.2.2.1 5 j = i ∧ (s.2.1 13 j < 0 ∧ s.2.1 12 j < 2))) → cFr o (c.2.2.2.2.2 5) hq h2 → P none h2) : ∀ r k I h o2, k + r = cEnd e U S u → e 16 u ≤ k → cR o (cM c I c.2.2.2.1) h → cIg [23, 30, 31] c I c.2.2.2.1 → I 23 = X → (∀ i, i < c.2.2.2.2.2 1 → I 31 i = zP ((∃ k, k < S ∧ cOf e c.2.2.2.2 tk i k ∧ (mGlob (mT s e S) k ∨ mWeak (mT s e S) k)) ∨ ∃ j, e 16 u ≤ j ∧ j < k ∧ c.2.2.2.2.1 5 j = i ∧ (mGlob (mT s e S) j ∨ mWeak (mT s e S) j))) ∧ (∀ i, i < c.2.2.2.2.2 1 → I 30 i = zP ((∃ k, k < S ∧ cOf e c.2.2.2.2 tk i k ∧ (s.2.1 13 k < 0 ∧ s.2.1 12 k < 2)) ∨ ∃ j, e 16 u ≤ j ∧ j < k ∧ c.2.2.2.2.1 5 j = i ∧ (s.2.1 13 j < 0 ∧ s.2.1 12 j < 2))) → cFr o (c.2.2.2.2.2 5) hq h → AW G x Y_Unit_take 1 20 h0 P h 10 [some (.ref (c.2.2.2.2.1 0 u)), some (.int (nI k)), o2] [] := by
  have ee := hJ.ee hu
  intro r
  induction r with
  | zero =>
    intro k I h o2 hk hb hR hg hx hf hF
    have hkk : k = cEnd e U S u := by omega
    rw [hkk] at hf
    have hJ1 := hJ.m hg (by decide)
    refine aw_iload_n d_Unit_take_10 rfl rfl ?_
    refine aw_aloadV_n d_Unit_take_11 rfl rfl (by first | exact Or.inl ⟨_, rfl⟩ | exact Or.inr rfl | exact rv_Q _) ?_
    refine aw_getE cl_Unit fl_Unit_32 (by decide) (hR.unit (hJ1.hu hu)) rfl (congrArg Value.int (hJ1.end hu)) d_Unit_take_12 ?_
    refine aw_icmp_ge (tgt := 64) d_Unit_take_15 (by decide) (fun c15 => ?_) (fun c15 => ?_)
    · refine aw_vret ?_ rfl d_Unit_take_64
      exact hp I h hR hg hx hf hF
    · exact absurd (nI_le (show cEnd e U S u ≤ k by omega) (by omega)) c15
  | succ r ih =>
    intro k I h o2 hk hb hR hg hx hf hF
    have hkS : k < S := by omega
    have hJ1 := hJ.m hg (by decide)
    have hn := hn5 k hkS
    refine aw_iload_n d_Unit_take_10 rfl rfl ?_
    refine aw_aloadV_n d_Unit_take_11 rfl rfl (by first | exact Or.inl ⟨_, rfl⟩ | exact Or.inr rfl | exact rv_Q _) ?_
    refine aw_getE cl_Unit fl_Unit_32 (by decide) (hR.unit (hJ1.hu hu)) rfl (congrArg Value.int (hJ1.end hu)) d_Unit_take_12 ?_
    refine aw_icmp_ge (tgt := 64) d_Unit_take_15 (by decide) (fun c15 => ?_) (fun c15 => ?_)
    · exact absurd c15 (nI_ge (by omega) (by omega))
    · refine aw_aloadV_n d_Unit_take_18 rfl rfl (by first | exact Or.inl ⟨_, rfl⟩ | exact Or.inr rfl | exact rv_Q _) ?_
      refine aw_get cl_Unit fl_Unit_25 (by decide) (hR.unit (hJ1.hu hu)) rfl d_Unit_take_19 ?_
      refine aw_iload_n d_Unit_take_22 rfl rfl ?_
      refine aC_l3 hR rfl (show k < 2048 by omega) (hJ1.rS hkS) d_Unit_take_23 ?_
      refine aw_astoreV_n d_Unit_take_24 rfl (by decide) (by first | exact Or.inl ⟨_, rfl⟩ | exact Or.inr rfl | exact rv_Q _) (by dsimp only [List.set]) ?_
      refine aw_aloadV_n d_Unit_take_25 rfl rfl (by first | exact Or.inl ⟨_, rfl⟩ | exact Or.inr rfl | exact rv_Q _) ?_
      refine aw_callV (c_Symbol_isSharedLabel G _ o _ hR s e U S W T hJ1 hkS) cl_Symbol (hR.sym (hJ1.hk hkS)) m_Symbol_isSharedLabel ml_Unit_44 rfl rfl (by decide) (by decide) (Nat.le_of_ble_eq_true rfl) d_Unit_take_26 ?_
      rintro v h ⟨rfl, rfl⟩
      refine aw_if_eq (tgt := 43) d_Unit_take_29 (by decide) (fun c29 => ?_) (fun c29 => ?_)
      · refine aw_aloadV_n d_Unit_take_43 rfl rfl (by first | exact Or.inl ⟨_, rfl⟩ | exact Or.inr rfl | exact rv_Q _) ?_
        refine aw_callV (c_Symbol_isMissed G _ o _ hR s e U S W T hJ1 hkS) cl_Symbol (hR.sym (hJ1.hk hkS)) m_Symbol_isMissed ml_Unit_53 rfl rfl (by decide) (by decide) (Nat.le_of_ble_eq_true rfl) d_Unit_take_44 ?_
        rintro v h ⟨rfl, rfl⟩
        refine aw_if_eq (tgt := 58) d_Unit_take_47 (by decide) (fun c47 => ?_) (fun c47 => ?_)
        · refine aw_iinc (v := nI (k + 1)) d_Unit_take_58 rfl (ax_inc k) (by decide) (by dsimp only [List.set]) ?_
          refine aw_goto (tgt := 10) d_Unit_take_61 (by decide) ?_
          refine ih (k + 1) _ _ _ (by omega) (by omega) hR hg hx ⟨?_, ?_⟩ hF
          · refine zP_same hf.1 (fun i hi => ?_)
            rw [ex_succ hb]
            exact ⟨fun q => q.elim Or.inl (fun q => q.elim Or.inr (fun q => absurd q.2 (zP_f c29))), fun q => q.elim Or.inl (fun q => Or.inr (Or.inl q))⟩
          · refine zP_same hf.2 (fun i hi => ?_)
            rw [ex_succ hb]
            exact ⟨fun q => q.elim Or.inl (fun q => q.elim Or.inr (fun q => absurd q.2 (zP_f c47))), fun q => q.elim Or.inl (fun q => Or.inr (Or.inl q))⟩
        · refine aw_aloadV_n d_Unit_take_50 rfl rfl (by first | exact Or.inl ⟨_, rfl⟩ | exact Or.inr rfl | exact rv_Q _) ?_
          refine aw_get cl_Symbol fl_Unit_38 (by decide) (hR.sym (hJ1.hk hkS)) rfl d_Unit_take_51 ?_
          refine aw_iconst (v := 1) d_Unit_take_54 (by decide) ?_
          refine aC_p30 hR hn fl_Unit_56 rfl rfl d_Unit_take_55 (fun g55 hR55 hF55 => ?_)
          refine aw_iinc (v := nI (k + 1)) d_Unit_take_58 rfl (ax_inc k) (by decide) (by dsimp only [List.set]) ?_
          refine aw_goto (tgt := 10) d_Unit_take_61 (by decide) ?_
          refine ih (k + 1) _ _ _ (by omega) (by omega) hR55 (hg.i (F := 30) (by decide) _) hx ⟨?_, ?_⟩ (hF.tr hF55)
          · refine zP_same hf.1 (fun i hi => ?_)
            rw [ex_succ hb]
            exact ⟨fun q => q.elim Or.inl (fun q => q.elim Or.inr (fun q => absurd q.2 (zP_f c29))), fun q => q.elim Or.inl (fun q => Or.inr (Or.inl q))⟩
          · refine zP_step hf.2 (fun i hi => ?_)
            rw [ex_succ hb, or_assoc]
            exact or_congr Iff.rfl (or_congr Iff.rfl ⟨fun q => q.1.symm, fun q => ⟨q.symm, zP_t c47⟩⟩)
      · refine aw_aloadV_n d_Unit_take_32 rfl rfl (by first | exact Or.inl ⟨_, rfl⟩ | exact Or.inr rfl | exact rv_Q _) ?_
        refine aw_get cl_Symbol fl_Unit_38 (by decide) (hR.sym (hJ1.hk hkS)) rfl d_Unit_take_33 ?_
        refine aw_iconst (v := 1) d_Unit_take_36 (by decide) ?_
        refine aC_p31 hR hn fl_Unit_48 rfl rfl d_Unit_take_37 (fun g37 hR37 hF37 => ?_)
        refine aw_goto (tgt := 58) d_Unit_take_40 (by decide) ?_
        refine aw_iinc (v := nI (k + 1)) d_Unit_take_58 rfl (ax_inc k) (by decide) (by dsimp only [List.set]) ?_
        refine aw_goto (tgt := 10) d_Unit_take_61 (by decide) ?_
        refine ih (k + 1) _ _ _ (by omega) (by omega) hR37 (hg.i (F := 31) (by decide) _) hx ⟨?_, ?_⟩ (hF.tr hF37)
        · refine zP_step hf.1 (fun i hi => ?_)
          rw [ex_succ hb, or_assoc]
          exact or_congr Iff.rfl (or_congr Iff.rfl ⟨fun q => q.1.symm, fun q => ⟨q.symm, zP_t c29⟩⟩)
        · refine zP_same hf.2 (fun i hi => ?_)
          rw [ex_succ hb]
          exact ⟨fun q => q.elim Or.inl (fun q => q.elim Or.inr (fun q => absurd (zP_t c29) (fun z => z.elim (fun z => absurd z.1 (Int32.not_le.mpr q.2.1)) (fun z => absurd z.1 (Int32.not_le.mpr q.2.1))))), fun q => q.elim Or.inl (fun q => Or.inr (Or.inl q))⟩
set_option maxRecDepth 20000 in
theorem c_Unit_take (G : ax_G) (h : ax_H) (o : Nat) (c : cSt) (hR : cR o c h) (s : mSt) (e : Nat → Nat → Nat) (U S W T : Nat) (hJ : cJ c s e U S W T) {u : Nat} (hu : u < U) (hSb : S ≤ 2048) (tk : Nat → Int32) (hf : cFl s e S c.2.2.2.2 c.2.1 tk) : AM G Y_Unit_take 1 20 [.ref (c.2.2.2.2.1 0 u)] h (fun v h2 => v = none ∧ ∃ I, cR o (cM c I c.2.2.2.1) h2 ∧ cIg [23, 30, 31] c I c.2.2.2.1 ∧ I 23 = va_up (c.2.1 23) u 1 ∧ cFl s e S c.2.2.2.2 I (va_up tk u 1) ∧ cFr o (c.2.2.2.2.2 5) h h2) := by
  refine aw_enter (by decide) (Nat.le_of_ble_eq_true rfl) (n := 2) (ls := [some (.ref (c.2.2.2.2.1 0 u)), none, none]) rfl (fun x => ?_)
  refine aw_aloadV_n d_Unit_take_0 rfl rfl (by first | exact Or.inl ⟨_, rfl⟩ | exact Or.inr rfl | exact rv_Q _) ?_
  refine aw_iconst (v := 1) d_Unit_take_1 (by decide) ?_
  refine aC_p23 hR (hJ.hu hu) fl_Unit_35 rfl rfl d_Unit_take_2 (fun g2 hR2 hF2 => ?_)
  refine aw_aloadV_n d_Unit_take_5 rfl rfl (by first | exact Or.inl ⟨_, rfl⟩ | exact Or.inr rfl | exact rv_Q _) ?_
  refine aw_getE cl_Unit fl_Unit_29 (by decide) (hR2.unit (hJ.hu hu)) rfl (congrArg Value.int (hJ.beg hu)) d_Unit_take_6 ?_
  refine aw_istore_n d_Unit_take_9 rfl (by decide) (by dsimp only [List.set]) ?_
  have eb := hJ.eb hu
  refine l_Unit_take s e U S W T hJ hu hSb tk (va_up (c.2.1 23) u 1) h 0 (fun k hk => hR.1.2.2.2.1 k (hJ.hk hk)) (fun I h2 a1 a2 a3 a4 a5 => ⟨rfl, I, a1, a2, a3, fun i hi => ⟨?_, ?_⟩, a5⟩) (cEnd e U S u - e 16 u) (e 16 u) _ _ _ (by omega) (Nat.le_refl _) hR2 ((cIg.rf _ c).i (F := 23) (by decide) _) (va_up_self _ _ _) ⟨fun i hi => ?_, fun i hi => ?_⟩ hF2
  · exact ((hf i hi).1).trans (zP_i ⟨Or.inl, fun q => q.elim id (fun ⟨j, j1, j2, _⟩ => absurd j1 (by omega))⟩)
  · exact ((hf i hi).2).trans (zP_i ⟨Or.inl, fun q => q.elim id (fun ⟨j, j1, j2, _⟩ => absurd j1 (by omega))⟩)
  · rw [a4.1 i hi]; exact zP_i (hJ.tkadd c.2.2.2.2 tk hu i (fun k => (mGlob (mT s e S) k ∨ mWeak (mT s e S) k))).symm
  · rw [a4.2 i hi]; exact zP_i (hJ.tkadd c.2.2.2.2 tk hu i (fun k => (s.2.1 13 k < 0 ∧ s.2.1 12 k < 2))).symm
set_option maxRecDepth 20000 in
theorem l_Unit_isWanted {G : ax_G} {x : ax_X} {h0 : ax_H} {P : Option Value → ax_H → Prop} {o : Nat} {c : cSt} {h : ax_H} (hR : cR o c h) (s : mSt) (e : Nat → Nat → Nat) (U S W T : Nat) (hJ : cJ c s e U S W T) {u : Nat} (hu : u < U) (hSb : S ≤ 2048) (hy : (∃ k, e 16 u ≤ k ∧ k < cEnd e U S u ∧ (mGlob (mT s e S) k ∨ mWeak (mT s e S) k) ∧ ¬ c.2.1 30 (c.2.2.2.2.1 5 k) = 0 ∧ c.2.1 31 (c.2.2.2.2.1 5 k) = 0) → P (some (.int 1)) h) (hn : (¬ ∃ k, e 16 u ≤ k ∧ k < cEnd e U S u ∧ (mGlob (mT s e S) k ∨ mWeak (mT s e S) k) ∧ ¬ c.2.1 30 (c.2.2.2.2.1 5 k) = 0 ∧ c.2.1 31 (c.2.2.2.2.1 5 k) = 0) → P (some (.int 0)) h) : ∀ r k o2, k + r = cEnd e U S u → e 16 u ≤ k → (∀ q, e 16 u ≤ q → q < k → ¬ ((mGlob (mT s e S) q ∨ mWeak (mT s e S) q) ∧ ¬ c.2.1 30 (c.2.2.2.2.1 5 q) = 0 ∧ c.2.1 31 (c.2.2.2.2.1 5 q) = 0)) → AW G x Y_Unit_isWanted 1 20 h0 P h 5 [some (.ref (c.2.2.2.2.1 0 u)), some (.int (nI k)), o2] [] := by
  have ee := hJ.ee hu
  intro r
  induction r with
  | zero =>
    intro k o2 hk hb hno
    refine aw_iload_n d_Unit_isWanted_5 rfl rfl ?_
    refine aw_aloadV_n d_Unit_isWanted_6 rfl rfl (by first | exact Or.inl ⟨_, rfl⟩ | exact Or.inr rfl | exact rv_Q _) ?_
    refine aw_getE cl_Unit fl_Unit_32 (by decide) (hR.unit (hJ.hu hu)) rfl (congrArg Value.int (hJ.end hu)) d_Unit_isWanted_7 ?_
    refine aw_icmp_ge (tgt := 55) d_Unit_isWanted_10 (by decide) (fun c10 => ?_) (fun c10 => ?_)
    · refine aw_iconst (v := 0) d_Unit_isWanted_55 (by decide) ?_
      refine aw_zret ?_ rfl rfl d_Unit_isWanted_56
      exact hn (fun ⟨q, q1, q2, q3⟩ => hno q q1 (by omega) q3)
    · exact absurd (nI_le (show cEnd e U S u ≤ k by omega) (by omega)) c10
  | succ r ih =>
    intro k o2 hk hb hno
    have hkS : k < S := by omega
    have hnn := hR.1.2.2.2.1 k (hJ.hk hkS)
    refine aw_iload_n d_Unit_isWanted_5 rfl rfl ?_
    refine aw_aloadV_n d_Unit_isWanted_6 rfl rfl (by first | exact Or.inl ⟨_, rfl⟩ | exact Or.inr rfl | exact rv_Q _) ?_
    refine aw_getE cl_Unit fl_Unit_32 (by decide) (hR.unit (hJ.hu hu)) rfl (congrArg Value.int (hJ.end hu)) d_Unit_isWanted_7 ?_
    refine aw_icmp_ge (tgt := 55) d_Unit_isWanted_10 (by decide) (fun c10 => ?_) (fun c10 => ?_)
    · exact absurd c10 (nI_ge (by omega) (by omega))
    · refine aw_aloadV_n d_Unit_isWanted_13 rfl rfl (by first | exact Or.inl ⟨_, rfl⟩ | exact Or.inr rfl | exact rv_Q _) ?_
      refine aw_get cl_Unit fl_Unit_25 (by decide) (hR.unit (hJ.hu hu)) rfl d_Unit_isWanted_14 ?_
      refine aw_iload_n d_Unit_isWanted_17 rfl rfl ?_
      refine aC_l3 hR rfl (show k < 2048 by omega) (hJ.rS hkS) d_Unit_isWanted_18 ?_
      refine aw_astoreV_n d_Unit_isWanted_19 rfl (by decide) (by first | exact Or.inl ⟨_, rfl⟩ | exact Or.inr rfl | exact rv_Q _) (by dsimp only [List.set]) ?_
      refine aw_aloadV_n d_Unit_isWanted_20 rfl rfl (by first | exact Or.inl ⟨_, rfl⟩ | exact Or.inr rfl | exact rv_Q _) ?_
      refine aw_callV (c_Symbol_isSharedLabel G _ o _ hR s e U S W T hJ hkS) cl_Symbol (hR.sym (hJ.hk hkS)) m_Symbol_isSharedLabel ml_Unit_44 rfl rfl (by decide) (by decide) (Nat.le_of_ble_eq_true rfl) d_Unit_isWanted_21 ?_
      rintro v h ⟨rfl, rfl⟩
      refine aw_if_eq (tgt := 49) d_Unit_isWanted_24 (by decide) (fun c24 => ?_) (fun c24 => ?_)
      · refine aw_iinc (v := nI (k + 1)) d_Unit_isWanted_49 rfl (ax_inc k) (by decide) (by dsimp only [List.set]) ?_
        refine aw_goto (tgt := 5) d_Unit_isWanted_52 (by decide) ?_
        refine ih (k + 1) _ (by omega) (by omega) (fun q q1 q2 z => ?_)
        by_cases hqk : q = k
        · rw [hqk] at z; exact zP_f c24 z.1
        · exact hno q q1 (by omega) z
      · refine aw_aloadV_n d_Unit_isWanted_27 rfl rfl (by first | exact Or.inl ⟨_, rfl⟩ | exact Or.inr rfl | exact rv_Q _) ?_
        refine aw_get cl_Symbol fl_Unit_38 (by decide) (hR.sym (hJ.hk hkS)) rfl d_Unit_isWanted_28 ?_
        refine aw_get cl_Name fl_Unit_56 (by decide) (hR.name hnn) rfl d_Unit_isWanted_31 ?_
        refine aw_if_eq (tgt := 49) d_Unit_isWanted_34 (by decide) (fun c34 => ?_) (fun c34 => ?_)
        · refine aw_iinc (v := nI (k + 1)) d_Unit_isWanted_49 rfl (ax_inc k) (by decide) (by dsimp only [List.set]) ?_
          refine aw_goto (tgt := 5) d_Unit_isWanted_52 (by decide) ?_
          refine ih (k + 1) _ (by omega) (by omega) (fun q q1 q2 z => ?_)
          by_cases hqk : q = k
          · rw [hqk] at z; exact z.2.1 c34
          · exact hno q q1 (by omega) z
        · refine aw_aloadV_n d_Unit_isWanted_37 rfl rfl (by first | exact Or.inl ⟨_, rfl⟩ | exact Or.inr rfl | exact rv_Q _) ?_
          refine aw_get cl_Symbol fl_Unit_38 (by decide) (hR.sym (hJ.hk hkS)) rfl d_Unit_isWanted_38 ?_
          refine aw_get cl_Name fl_Unit_48 (by decide) (hR.name hnn) rfl d_Unit_isWanted_41 ?_
          refine aw_if_ne (tgt := 49) d_Unit_isWanted_44 (by decide) (fun c44 => ?_) (fun c44 => ?_)
          · refine aw_iinc (v := nI (k + 1)) d_Unit_isWanted_49 rfl (ax_inc k) (by decide) (by dsimp only [List.set]) ?_
            refine aw_goto (tgt := 5) d_Unit_isWanted_52 (by decide) ?_
            refine ih (k + 1) _ (by omega) (by omega) (fun q q1 q2 z => ?_)
            by_cases hqk : q = k
            · rw [hqk] at z; exact c44 z.2.2
            · exact hno q q1 (by omega) z
          · refine aw_iconst (v := 1) d_Unit_isWanted_47 (by decide) ?_
            refine aw_zret ?_ rfl rfl d_Unit_isWanted_48
            exact hy ⟨k, hb, by omega, zP_t c24, c34, c44⟩
set_option maxRecDepth 20000 in
theorem c_Unit_isWanted (G : ax_G) (h : ax_H) (o : Nat) (c : cSt) (hR : cR o c h) (s : mSt) (e : Nat → Nat → Nat) (U S W T : Nat) (hJ : cJ c s e U S W T) {u : Nat} (hu : u < U) (hSb : S ≤ 2048) (tk : Nat → Int32) (hf : cFl s e S c.2.2.2.2 c.2.1 tk) : AM G Y_Unit_isWanted 1 20 [.ref (c.2.2.2.2.1 0 u)] h (fun v h2 => h2 = h ∧ v = some (.int (zP (mHelps tk (mT s e S) (e 16) u)))) := by
  refine aw_enter (by decide) (Nat.le_of_ble_eq_true rfl) (n := 2) (ls := [some (.ref (c.2.2.2.2.1 0 u)), none, none]) rfl (fun x => ?_)
  refine aw_aloadV_n d_Unit_isWanted_0 rfl rfl (by first | exact Or.inl ⟨_, rfl⟩ | exact Or.inr rfl | exact rv_Q _) ?_
  refine aw_getE cl_Unit fl_Unit_29 (by decide) (hR.unit (hJ.hu hu)) rfl (congrArg Value.int (hJ.beg hu)) d_Unit_isWanted_1 ?_
  refine aw_istore_n d_Unit_isWanted_4 rfl (by decide) (by dsimp only [List.set]) ?_
  have eb := hJ.eb hu
  have ee := hJ.ee hu
  have hh := hJ.helps hR hSb tk hu
  have hk2 : (∃ k, e 16 u ≤ k ∧ k < cEnd e U S u ∧ (mGlob (mT s e S) k ∨ mWeak (mT s e S) k) ∧ ¬ c.2.1 30 (c.2.2.2.2.1 5 k) = 0 ∧ c.2.1 31 (c.2.2.2.2.1 5 k) = 0) ↔ mHelps tk (mT s e S) (e 16) u := by
    rw [hh]
    refine exists_congr (fun k => and_congr_right (fun k1 => and_congr_right (fun k2 => and_congr_right (fun _ => ?_))))
    have hi := hR.1.2.2.2.1 k (hJ.hk (by omega))
    rw [(hf _ hi).1, (hf _ hi).2, cGW]
    exact and_congr zP_nz ⟨zP_f, zP_0⟩
  exact l_Unit_isWanted hR s e U S W T hJ hu hSb (fun q => ⟨rfl, by rw [zP_1 (hk2.mp q)]⟩) (fun q => ⟨rfl, by rw [zP_0 (fun z => q (hk2.mpr z))]⟩) (cEnd e U S u - e 16 u) _ _ (by omega) (Nat.le_refl _) (fun q q1 q2 => absurd q2 (by omega))

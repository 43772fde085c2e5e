def cFA (c : cSt) (c2 : cSt) (s : mSt) (e : Nat → Nat → Nat) (U S : Nat) (r : Option Nat) : Prop := (c2.1 50 = (mS3 (mS2 s e U S) e S).1 33 ∧ c2.1 51 = (mS3 (mS2 s e U S) e S).1 34 ∧ c2.1 52 = (mS3 (mS2 s e U S) e S).1 35) ∧ ((r = none ∧ ¬ (mS3 (mS2 s e U S) e S).1 33 = 0) ∨ (∃ E, E < S ∧ mEnt (mS2 s e U S) e S = nI E ∧ mGlob (mT s e S) E ∧ r = some (c.2.2.2.2.1 2 E)))
theorem mFail_2 (t : mSt) (k u l : Int32) : (mFail t k u l).2 = t.2 := by
  rw [mFail]
  by_cases h : t.1 33 = 0
  · rw [if_pos h]
  · rw [if_neg h]
theorem mTwice_2 (t : mSt) (e : Nat → Nat → Nat) (S : Nat) : (mTwice t e S).2 = t.2 := by
  rw [mTwice]
  by_cases h : (mTw t e S).1 < 32
  · rw [if_pos h]; exact mFail_2 _ _ _ _
  · rw [if_neg h]
theorem mS3_2 (t : mSt) (e : Nat → Nat → Nat) (S : Nat) : (mS3 t e S).2 = t.2 := by
  rw [mS3]
  by_cases h : 0 ≤ mEnt t e S ∧ mGlob (mT t e S) (iN (mEnt t e S))
  · rw [if_pos h]; exact mTwice_2 _ _ _
  · rw [if_neg h]; exact mFail_2 _ _ _ _
theorem mFail_0 {t : mSt} {k u l : Int32} (h : t.1 33 = 0) : (mFail t k u l).1 33 = k ∧ (mFail t k u l).1 34 = l ∧ (mFail t k u l).1 35 = u := by
  rw [mFail, if_pos h]
  exact ⟨rfl, rfl, rfl⟩
theorem sub5 {F : Nat} (h : F ∈ [23, 30, 31, 44, 45]) : F ∈ [23, 30, 31, 44, 45, 150, 151, 152] := by
  simp only [List.mem_cons, List.not_mem_nil, or_false] at h ⊢
  omega
theorem sub2 {F : Nat} (h : F ∈ [44, 45]) : F ∈ [23, 30, 31, 44, 45, 150, 151, 152] := by
  simp only [List.mem_cons, List.not_mem_nil, or_false] at h ⊢
  omega
set_option maxRecDepth 20000 in
theorem l_link1 {G : ax_G} {x : ax_X} {h0 : ax_H} {P : Option Value → ax_H → Prop} {o : Nat} {c : cSt} {h : ax_H} (hR : cR o c h) (s : mSt) (e : Nat → Nat → Nat) (U S W T : Nat) (hJ : cJ c s e U S W T) {B : Nat} (hy : mHy s e U S W T B) (hk : ∀ c2 h2 (r : Option Nat), cR o c2 h2 → cAg [23, 30, 31, 44, 45, 150, 151, 152] c c2 → cFr o (c.2.2.2.2.2 5) h h2 → cBk s e S c.2.2.2.2 (mTake s e U S) c2.2.2.2.1 S → (∀ u, u < U → c2.2.1 23 u = (mTake s e U S) u) → cFA c c2 s e U S r → AW G x Y_L_link 6 138 h0 P h2 44 [some (.ref o), some (va_rf r)] []) : AW G x Y_L_link 6 138 h0 P h 0 [some (.ref o), none] [] := by
  have hSb := hy.hSb
  have hUb := hy.hUb
  have i2 := hy.i2
  have h2U : ∀ k, k < S → e 11 k < U := fun k hk => (i2 k hk).2
  refine aw_aloadV_n d_L_link_0 rfl rfl (by first | exact Or.inl ⟨_, rfl⟩ | exact Or.inr rfl | exact rv_Q _) ?_
  refine aw_get cl_L fl_L_47 (by decide) hR.obj rfl d_L_link_1 ?_
  refine aw_iconst (v := 0) d_L_link_4 (by decide) ?_
  refine aw_iconst (v := 0) d_L_link_5 (by decide) ?_
  refine aw_iconst (v := (-1)) d_L_link_6 (by decide) ?_
  refine aw_callV (c_Fault_tell G _ o c hR 0 0 (-1)) cl_Fault hR.flt m_Fault_tell ml_L_187 rfl rfl (by decide) (by decide) (Nat.le_of_ble_eq_true rfl) d_L_link_7 ?_
  rintro v h1 ⟨rfl, hR1, hF1⟩
  have ag1 : cAg [23, 30, 31, 44, 45, 150, 151, 152] c (va_up (va_up (va_up c.1 50 0) 51 0) 52 (-1), c.2) := ((((cAg.rf _ c).v (F := 50) (by decide) 0).v (F := 51) (by decide) 0).v (F := 52) (by decide) (-1))
  have hJ1 : cJ (va_up (va_up (va_up c.1 50 0) 51 0) 52 (-1), c.2) s e U S W T := hJ.ag ag1 (by decide)
  refine aw_aloadV_n d_L_link_10 rfl rfl (by first | exact Or.inl ⟨_, rfl⟩ | exact Or.inr rfl | exact rv_Q _) ?_
  refine aw_callV (c_L_takeUnits G _ o (va_up (va_up (va_up c.1 50 0) 51 0) 52 (-1), c.2) hR1 s e U S W T hJ1 hSb hUb h2U) cl_L hR1.obj m_L_takeUnits ml_L_191 rfl rfl (by decide) (by decide) (Nat.le_of_ble_eq_true rfl) d_L_link_11 ?_
  rintro v h2 ⟨rfl, I2, R2, hR2, hg2, ht2, hz2, hF2⟩
  have hJ2 : cJ (cM (va_up (va_up (va_up c.1 50 0) 51 0) 52 (-1), c.2) I2 R2) s e U S W T := hJ1.m hg2 (by decide)
  refine aw_aloadV_n d_L_link_14 rfl rfl (by first | exact Or.inl ⟨_, rfl⟩ | exact Or.inr rfl | exact rv_Q _) ?_
  refine aw_callV (c_L_bindNames G _ o (cM (va_up (va_up (va_up c.1 50 0) 51 0) 52 (-1), c.2) I2 R2) hR2 s e U S W T hJ2 hSb hUb h2U (mTake s e U S) ht2 hz2) cl_L hR2.obj m_L_bindNames ml_L_194 rfl rfl (by decide) (by decide) (Nat.le_of_ble_eq_true rfl) d_L_link_15 ?_
  rintro v h3 ⟨rfl, R3, hR3, hg3, hB3, hF3⟩
  have hJ3 : cJ (cM (va_up (va_up (va_up c.1 50 0) 51 0) 52 (-1), c.2) I2 R3) s e U S W T := hJ2.m hg3 (by decide)
  have ag3 : cAg [23, 30, 31, 44, 45, 150, 151, 152] c (cM (va_up (va_up (va_up c.1 50 0) 51 0) 52 (-1), c.2) I2 R3) := by
    refine ag1.tr ⟨fun _ _ => rfl, fun k q => hg2.1 k (fun z => q (sub5 z)), fun _ _ => rfl, fun k q => ?_, rfl⟩
    have h1 : R3 k = R2 k := hg3.2 k (fun z => q (sub2 z))
    have h2 : R2 k = c.2.2.2.1 k := hg2.2 k (fun z => q (sub5 z))
    exact h1.trans h2
  refine aw_aloadV_n d_L_link_18 rfl rfl (by first | exact Or.inl ⟨_, rfl⟩ | exact Or.inr rfl | exact rv_Q _) ?_
  refine aw_callV (c_L_entryLabel G _ o (cM (va_up (va_up (va_up c.1 50 0) 51 0) 52 (-1), c.2) I2 R3) hR3 s e U S W T hJ3 hSb (mTake s e U S) hB3) cl_L hR3.obj m_L_entryLabel ml_L_197 rfl rfl (by decide) (by decide) (Nat.le_of_ble_eq_true rfl) d_L_link_19 ?_
  have e33 : (mS2 s e U S).1 33 = 0 := rfl
  rintro v h4 ⟨rfl, ⟨E, hE, hm, hg, rfl⟩ | ⟨hno, rfl⟩⟩
  · have hm : mEnt (mS2 s e U S) e S = nI E := hm
    have eE : iN (mEnt (mS2 s e U S) e S) = E := by rw [hm, iN, nI_clamp (by omega)]
    have hS3 : (mS3 (mS2 s e U S) e S) = mTwice (mS2 s e U S) e S := by rw [mS3, if_pos ⟨by rw [hm]; exact nI_pos' (by omega), by rw [eE]; exact hg⟩]
    have spec := mTwL_spec i2 hUb (mTake s e U S) S 0 32 0 (by omega) (Or.inl ⟨rfl, rfl, fun j hj => absurd hj (Nat.not_lt_zero _)⟩)
    refine aw_astoreV_n d_L_link_22 rfl (by decide) (by first | exact Or.inl ⟨_, rfl⟩ | exact Or.inr rfl | exact rv_Q _) (by dsimp only [List.set]) ?_
    refine aw_aloadV_n d_L_link_23 rfl rfl (by first | exact Or.inl ⟨_, rfl⟩ | exact Or.inr rfl | exact rv_Q _) ?_
    refine aw_ifnonnull (tgt := 40) d_L_link_24 (by decide) ?_
    refine aw_aloadV_n d_L_link_40 rfl rfl (by first | exact Or.inl ⟨_, rfl⟩ | exact Or.inr rfl | exact rv_Q _) ?_
    refine aw_callV (c_L_findTwoGlobals G _ o (cM (va_up (va_up (va_up c.1 50 0) 51 0) 52 (-1), c.2) I2 R3) hR3 s e U S W T hJ3 hSb hUb h2U (mTake s e U S) hB3 ht2) cl_L hR3.obj m_L_findTwoGlobals ml_L_201 rfl rfl (by decide) (by decide) (Nat.le_of_ble_eq_true rfl) d_L_link_41 ?_
    have hB4 : cBk s e S c.2.2.2.2 (mTake s e U S) R3 S := hB3
    rintro v h5 ⟨rfl, ⟨hn, rfl⟩ | ⟨j, hj, j1, j2, hR5, hF5⟩⟩
    · have e1 : ¬ (mTw (mS2 s e U S) e S).1 < 32 := by
        rcases spec with ⟨a1, -⟩ | ⟨j, a1, a2, -⟩
        · show ¬ (mTwL (mTake s e U S) (mT s e S) (s.2.1 11) (s.2.1 15) S 0 32 0).1 < 32
          rw [a1]; decide
        · exact absurd a2 (hn j a1)
      have e2 : mTwice (mS2 s e U S) e S = (mS2 s e U S) := by rw [mTwice, if_neg e1]
      exact hk _ _ (some (c.2.2.2.2.1 2 E)) hR3 ag3 ((hF1.tr hF2).tr hF3) hB4 ht2 ⟨by rw [hS3, e2]; exact ⟨rfl, rfl, rfl⟩, Or.inr ⟨E, hE, hm, hg, rfl⟩⟩
    · have e1 : mTw (mS2 s e U S) e S = (nI (e 11 j), s.2.1 15 j) := by
        show mTwL (mTake s e U S) (mT s e S) (s.2.1 11) (s.2.1 15) S 0 32 0 = _
        rcases spec with ⟨-, a1⟩ | ⟨i, a1, a2, a3, a4⟩
        · exact absurd j1 (a1 j hj)
        · rw [a3]
          have b1 := a4 j hj j1
          have b2 := j2 i a1 a2
          have e1 : e 11 i = e 11 j := by omega
          have e2 : s.2.1 15 i = s.2.1 15 j := by
            rcases b1 with b1 | ⟨-, b1⟩
            · omega
            · rcases b2 with b2 | ⟨-, b2⟩
              · omega
              · exact Int32.le_antisymm b1 b2
          rw [e1, e2]
      have e2 : mTwice (mS2 s e U S) e S = mFail (mS2 s e U S) 2 (nI (e 11 j)) (s.2.1 15 j) := by
        have hu := h2U j hj
        rw [mTwice, e1]
        exact if_pos (show nI (e 11 j) < 32 from nI_lt (b := 32) (by omega) (by decide))
      have e3 := mFail_0 (t := (mS2 s e U S)) (k := 2) (u := nI (e 11 j)) (l := s.2.1 15 j) e33
      refine hk _ h5 (some (c.2.2.2.2.1 2 E)) hR5 (((ag3.v (F := 50) (by decide) 2).v (F := 51) (by decide) _).v (F := 52) (by decide) _) (((hF1.tr hF2).tr hF3).tr hF5) hB4 ht2 ⟨?_, Or.inr ⟨E, hE, hm, hg, rfl⟩⟩
      rw [hS3, e2, e3.1, e3.2.1, e3.2.2]
      exact ⟨rfl, rfl, rfl⟩
  · have hno : ¬ (0 ≤ mEnt (mS2 s e U S) e S ∧ mGlob (mT (mS2 s e U S) e S) (iN (mEnt (mS2 s e U S) e S))) := hno
    have hS3 : (mS3 (mS2 s e U S) e S) = mFail (mS2 s e U S) 1 (-1) 0 := by rw [mS3, if_neg hno]
    have e3 := mFail_0 (t := (mS2 s e U S)) (k := 1) (u := -1) (l := 0) e33
    refine aw_astoreV_n d_L_link_22 rfl (by decide) (by first | exact Or.inl ⟨_, rfl⟩ | exact Or.inr rfl | exact rv_Q _) (by dsimp only [List.set]) ?_
    refine aw_aloadV_n d_L_link_23 rfl rfl (by first | exact Or.inl ⟨_, rfl⟩ | exact Or.inr rfl | exact rv_Q _) ?_
    refine aw_ifnonnullN d_L_link_24 ?_
    refine aw_aloadV_n d_L_link_27 rfl rfl (by first | exact Or.inl ⟨_, rfl⟩ | exact Or.inr rfl | exact rv_Q _) ?_
    refine aw_get cl_L fl_L_47 (by decide) hR3.obj rfl d_L_link_28 ?_
    refine aw_iconst (v := 1) d_L_link_31 (by decide) ?_
    refine aw_iconst (v := 0) d_L_link_32 (by decide) ?_
    refine aw_iconst (v := (-1)) d_L_link_33 (by decide) ?_
    refine aw_callV (c_Fault_tell G _ o (cM (va_up (va_up (va_up c.1 50 0) 51 0) 52 (-1), c.2) I2 R3) hR3 1 0 (-1)) cl_Fault hR3.flt m_Fault_tell ml_L_187 rfl rfl (by decide) (by decide) (Nat.le_of_ble_eq_true rfl) d_L_link_34 ?_
    rintro v h5 ⟨rfl, hR5, hF5⟩
    refine aw_goto (tgt := 44) d_L_link_37 (by decide) ?_
    refine hk _ h5 none hR5 (((ag3.v (F := 50) (by decide) 1).v (F := 51) (by decide) _).v (F := 52) (by decide) _) (((hF1.tr hF2).tr hF3).tr hF5) hB3 ht2 ⟨?_, Or.inl ⟨rfl, ?_⟩⟩
    · rw [hS3, e3.1, e3.2.1, e3.2.2]; exact ⟨rfl, rfl, rfl⟩
    · rw [hS3, e3.1]; decide

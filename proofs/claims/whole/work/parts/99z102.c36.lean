noncomputable abbrev lkT (s : mSt) (e : Nat → Nat → Nat) (U S : Nat) (a : Nat → Int32) : mSt := (a, va_up s.2.1 3 (mTake s e U S), s.2.2)
noncomputable abbrev lkN (s : mSt) (e : Nat → Nat → Nat) (U S W E : Nat) (a : Nat → Int32) : Nat → Int32 := mNeed (lkT s e U S a) e U S W E
noncomputable abbrev lkL (s : mSt) (e : Nat → Nat → Nat) (U S W E : Nat) (a : Nat → Int32) : mSt := mLayOut (mS5 (mNd (lkT s e U S a) (lkN s e U S W E a))) U
def lkP (c : cSt) (s : mSt) (e : Nat → Nat → Nat) (U E : Nat) (nd : Nat → Int32) : Nat → Int32 := va_up (va_up (va_up (va_up (va_up (va_up (va_up (c.2.1 16) 0 (4194304 + (mLay1 (s.2.1 5) nd (s.2.1 7) U).1)) 1 (4194304 + mUp4k (mLay1 (s.2.1 5) nd (s.2.1 7) U).1)) 2 (4194304 + (mLay2 (s.2.1 5) nd (s.2.1 7) U).1)) 3 (4194304 + mUp4k (mLay2 (s.2.1 5) nd (s.2.1 7) U).1)) 4 (4194304 + (mLay4 (s.2.1 5) nd (s.2.1 7) U).1)) 5 (mLab1 (mLay4 (s.2.1 5) nd (s.2.1 7) U).2.2 (s.2.1 14) e E)) 6 (mLay4 (s.2.1 5) nd (s.2.1 7) U).2.1
def cL6 (c : cSt) (c6 : cSt) (s : mSt) (e : Nat → Nat → Nat) (U S W E : Nat) (a : Nat → Int32) (t : mSt) : Prop := (c6.1 50 = t.1 33 ∧ c6.1 51 = t.1 34 ∧ c6.1 52 = t.1 35) ∧ (∀ q, q < 4 * U → c6.2.1 27 q = lkN s e U S W E a q) ∧ (∀ q, q < 4 * U → ¬ lkN s e U S W E a q = 0 → c6.2.1 28 q = 4194304 + (lkL s e U S W E a).2.1 7 q) ∧ c6.2.1 16 = lkP c s e U E (lkN s e U S W E a)
theorem mFail_n {t : mSt} {k u l : Int32} (h : ¬ t.1 33 = 0) : mFail t k u l = t := by rw [mFail, if_neg h]
set_option maxRecDepth 20000 in
theorem l_link75 {G : ax_G} {x : ax_X} {h0 : ax_H} {P : Option Value → ax_H → Prop} {o : Nat} {c c5 : cSt} {h : ax_H} (hR : cR o c5 h) (s : mSt) (e : Nat → Nat → Nat) (U S W E : Nat) (a : Nat → Int32) (t : mSt) (hL : cL6 c c5 s e U S W E a t) (h6 : lkP c s e U E (lkN s e U S W E a) 6 = t.1 39) (v1 : Value) (hk : ∀ c6 h6, cR o c6 h6 → cAg [16, 27, 28, 115, 150, 151, 152] c5 c6 → cFr o (c5.2.2.2.2.2 5) h h6 → cL6 c c6 s e U S W E a (mS8 t) → AW G x Y_L_link 6 138 h0 P h6 107 [some (.ref o), some v1] []) : AW G x Y_L_link 6 138 h0 P h 75 [some (.ref o), some v1] [] := by
  obtain ⟨⟨f1, f2, f3⟩, l2, l3, l4⟩ := hL
  refine aw_aloadV_n d_L_link_75 rfl rfl (by first | exact Or.inl ⟨_, rfl⟩ | exact Or.inr rfl | exact rv_Q _) ?_
  refine aw_get cl_L fl_L_47 (by decide) hR.obj rfl d_L_link_76 ?_
  refine aw_getE cl_Fault fl_L_204 (by decide) hR.flt rfl (congrArg Value.int f1) d_L_link_79 ?_
  refine aw_if_ne (tgt := 107) d_L_link_82 (by decide) (fun c82 => ?_) (fun c82 => ?_)
  · have e8 : mS8 t = t := by
      rw [mS8]
      by_cases q : t.1 39 ≤ 262144
      · rw [if_pos q]
      · rw [if_neg q, mFail_n c82]
    exact hk c5 h hR (cAg.rf _ _) (cFr.rf _ _ _) (by rw [e8]; exact ⟨⟨f1, f2, f3⟩, l2, l3, l4⟩)
  · refine aw_aloadV_n d_L_link_85 rfl rfl (by first | exact Or.inl ⟨_, rfl⟩ | exact Or.inr rfl | exact rv_Q _) ?_
    refine aw_get cl_L fl_L_58 (by decide) hR.obj rfl d_L_link_86 ?_
    refine aw_bipush (v := 6) d_L_link_89 (by decide) ?_
    refine aC_l16 hR (rfl : (6 : Int32) = nI 6) (by decide) d_L_link_91 ?_
    rw [l4, h6]
    refine aw_ldc kc_L_39 d_L_link_92 ?_
    refine aw_icmp_le (tgt := 107) d_L_link_94 (by decide) (fun c94 => ?_) (fun c94 => ?_)
    · have e8 : mS8 t = t := by rw [mS8, if_pos c94]
      exact hk c5 h hR (cAg.rf _ _) (cFr.rf _ _ _) (by rw [e8]; exact ⟨⟨f1, f2, f3⟩, l2, l3, l4⟩)
    · refine aw_aloadV_n d_L_link_97 rfl rfl (by first | exact Or.inl ⟨_, rfl⟩ | exact Or.inr rfl | exact rv_Q _) ?_
      refine aw_get cl_L fl_L_47 (by decide) hR.obj rfl d_L_link_98 ?_
      refine aw_iconst (v := 5) d_L_link_101 (by decide) ?_
      refine aw_iconst (v := 0) d_L_link_102 (by decide) ?_
      refine aw_iconst (v := (-1)) d_L_link_103 (by decide) ?_
      refine aw_callV (c_Fault_tell G _ o c5 hR 5 0 (-1)) cl_Fault hR.flt m_Fault_tell ml_L_187 rfl rfl (by decide) (by decide) (Nat.le_of_ble_eq_true rfl) d_L_link_104 ?_
      rintro v h2 ⟨rfl, hR2, hF2⟩
      have e8 : mS8 t = mFail t 5 (-1) 0 := by rw [mS8, if_neg c94]
      have e9 := mFail_0 (t := t) (k := 5) (u := -1) (l := 0) c82
      refine hk _ h2 hR2 ((((cAg.rf _ c5).v (F := 50) (by decide) 5).v (F := 51) (by decide) 0).v (F := 52) (by decide) (-1)) hF2 ⟨?_, l2, l3, l4⟩
      rw [e8, e9.1, e9.2.1, e9.2.2]
      exact ⟨rfl, rfl, rfl⟩
theorem sub3p : ∀ k ∈ [16, 28, 115], k ∈ [16, 27, 28, 115, 150, 151, 152] := by decide
set_option maxRecDepth 20000 in
theorem l_link2 {G : ax_G} {x : ax_X} {h0 : ax_H} {P : Option Value → ax_H → Prop} {o : Nat} {c : cSt} {h : ax_H} (hR : cR o c h) (s : mSt) (e : Nat → Nat → Nat) (U S W T : Nat) (hJ : cJ c s e U S W T) {B : Nat} (hy : mHy s e U S W T B) (hB : cBk s e S c.2.2.2.2 (mTake s e U S) c.2.2.2.1 S) (ht : ∀ u, u < U → c.2.1 23 u = mTake s e U S u) (a : Nat → Int32) (ha0 : a 33 = 0) (hf : c.1 50 = a 33 ∧ c.1 51 = a 34 ∧ c.1 52 = a 35) {E : Nat} (hE : E < S) (hg : mGlob (mT s e S) E) (hk : ∀ c6 h6, cR o c6 h6 → cAg [16, 27, 28, 115, 150, 151, 152] c c6 → cFr o (c.2.2.2.2.2 5) h h6 → cL6 c c6 s e U S W E a (mS9 (mNd (lkT s e U S a) (lkN s e U S W E a)) e U S W) → AW G x Y_L_link 6 138 h0 P h6 107 [some (.ref o), some (.ref (c.2.2.2.2.1 2 E))] []) : AW G x Y_L_link 6 138 h0 P h 44 [some (.ref o), some (.ref (c.2.2.2.2.1 2 E))] [] := by
  have hSb := hy.hSb
  have hUb := hy.hUb
  have hWb := hy.hWb
  have i2 := hy.i2
  have i3 := hy.i3
  have i4 := hy.i4
  have htq := mTq_lt hSb hUb i2 i3 i4 (mTake s e U S)
  have hE0 : 0 ≤ s.2.1 13 E := hg.1
  have hq0 : 4 * e 11 E + e 13 E < 4 * U := by
    have l1 := (i2 E hE).2
    have l2 := (i3.lab hE hE0).1
    omega
  have hsec : va_rf (c.2.2.2.1 46 E) = .ref (cQ c.2.2.2.2 (4 * e 11 E + e 13 E)) := by rw [hJ.sec hE, if_neg (Int32.not_lt.mpr hE0)]; rfl
  have hsrc : ∀ w, w < W → mSrc e w < 4 * U := fun w hw => by have := (i4 w hw).1.2; have := (i4 w hw).2.1.2; show 4 * e 17 w + e 18 w < _; omega
  have hn0 : ∀ q, q < 4 * U → mTurns (mTq (mTake s e U S) (mT s e S) e) (mSrc e) W 129 (va_up (mNd0 U (mTake s e U S) (s.2.1 2) (c.2.1 27) (4 * U)) (4 * e 11 E + e 13 E) 1) q = lkN s e U S W E a q := by
    refine mTurns_congr (D := fun q => q < 4 * U) hsrc htq 129 _ _ (fun q hq => ?_)
    show va_up (mNd0 U (mTake s e U S) (s.2.1 2) (c.2.1 27) (4 * U)) (4 * e 11 E + e 13 E) 1 q = va_up (mNd0 U (mTake s e U S) (s.2.1 2) (s.2.1 4) 128) (4 * e 11 E + e 13 E) 1 q
    by_cases eq : q = 4 * e 11 E + e 13 E
    · rw [eq, va_up_self, va_up_self]
    · have hq : q < 4 * U := hq
      rw [va_up_ne _ _ eq, va_up_ne _ _ eq, mNd0, mNd0, if_pos hq, if_pos (show q < 128 by omega)]
  have hcl : ∀ w, w < W → ¬ lkN s e U S W E a (mSrc e w) = 0 → mTq (mTake s e U S) (mT s e S) e w < 128 → ¬ lkN s e U S W E a (mTq (mTake s e U S) (mT s e S) e w) = 0 := mTurns_closed (mTq (mTake s e U S) (mT s e S) e) (mSrc e) W 129 _ (by have := cZ_le (va_up (mNd0 U (mTake s e U S) (s.2.1 2) (s.2.1 4) 128) (4 * e 11 E + e 13 E) 1) 128; exact Nat.lt_succ_of_le this)
  have hEn : ¬ lkN s e U S W E a (4 * e 11 E + e 13 E) = 0 := mTurns_mono _ _ W 129 _ _ (by rw [va_up_self]; decide)
  refine aw_aloadV_n d_L_link_44 rfl rfl (by first | exact Or.inl ⟨_, rfl⟩ | exact Or.inr rfl | exact rv_Q _) ?_
  refine aw_ifnull d_L_link_45 ?_
  refine aw_aloadV_n d_L_link_48 rfl rfl (by first | exact Or.inl ⟨_, rfl⟩ | exact Or.inr rfl | exact rv_Q _) ?_
  refine aw_get cl_L fl_L_47 (by decide) hR.obj rfl d_L_link_49 ?_
  refine aw_getE cl_Fault fl_L_204 (by decide) hR.flt rfl (congrArg Value.int (hf.1.trans ha0)) d_L_link_52 ?_
  refine aw_if_ne (tgt := 75) d_L_link_55 (by decide) (fun c55 => ?_) (fun c55 => ?_)
  · exact absurd rfl c55
  · refine aw_aloadV_n d_L_link_58 rfl rfl (by first | exact Or.inl ⟨_, rfl⟩ | exact Or.inr rfl | exact rv_Q _) ?_
    refine aw_aloadV_n d_L_link_59 rfl rfl (by first | exact Or.inl ⟨_, rfl⟩ | exact Or.inr rfl | exact rv_Q _) ?_
    refine aw_getE cl_Symbol fl_L_207 (by decide) (hR.sym (hJ.hk hE)) rfl hsec d_L_link_60 ?_
    refine aw_callV (c_L_findNeeded G _ o c hR s e U S W T hJ hWb hSb hUb i2 i3 i4 (mTake s e U S) hB htq ht hq0) cl_L hR.obj m_L_findNeeded ml_L_210 rfl rfl (by decide) (by decide) (Nat.le_of_ble_eq_true rfl) d_L_link_63 ?_
    rintro v h2 ⟨rfl, hR2, hF2⟩
    have hJ2 : cJ (cM c (va_up c.2.1 27 (mTurns (mTq (mTake s e U S) (mT s e S) e) (mSrc e) W 129 (va_up (mNd0 U (mTake s e U S) (s.2.1 2) (c.2.1 27) (4 * U)) (4 * e 11 E + e 13 E) 1))) c.2.2.2.1) s e U S W T := hJ.m (X := [27]) ((cIg.rf _ c).i (F := 27) (by decide) _) (by decide)
    refine aw_aloadV_n d_L_link_66 rfl rfl (by first | exact Or.inl ⟨_, rfl⟩ | exact Or.inr rfl | exact rv_Q _) ?_
    refine aw_aloadV_n d_L_link_67 rfl rfl (by first | exact Or.inl ⟨_, rfl⟩ | exact Or.inr rfl | exact rv_Q _) ?_
    refine aw_callV (c_L_placeParts G _ o (cM c (va_up c.2.1 27 (mTurns (mTq (mTake s e U S) (mT s e S) e) (mSrc e) W 129 (va_up (mNd0 U (mTake s e U S) (s.2.1 2) (c.2.1 27) (4 * U)) (4 * e 11 E + e 13 E) 1))) c.2.2.2.1) hR2 s e U S W T hJ2 hSb hUb (lkN s e U S W E a) (s.2.1 7) hn0 hE hE0 hq0 hEn) cl_L hR2.obj m_L_placeParts ml_L_214 rfl rfl (by decide) (by decide) (Nat.le_of_ble_eq_true rfl) d_L_link_68 ?_
    rintro v h3 ⟨rfl, w, I, hR3, hP, hF3⟩
    have hJ3 : cJ (w, I, c.2.2.1, c.2.2.2) s e U S W T := hJ2.ag hP.ag (by decide)
    have hJL : cJ (w, I, c.2.2.1, c.2.2.2) (lkL s e U S W E a) e U S W T := hJ3
    have hn3 : ∀ q, q < 4 * U → I 27 q = lkN s e U S W E a q := fun q hq => by rw [hP.2.2.1 27 (by decide) (by decide)]; exact hn0 q hq
    have hb3 : ∀ q, q < 4 * U → ¬ lkN s e U S W E a q = 0 → I 28 q = 4194304 + (lkL s e U S W E a).2.1 7 q := fun q hq hq2 => hP.2.2.2.1 q hq (by omega) hq2
    have e16 : I 16 = lkP c s e U E (lkN s e U S W E a) := hP.2.2.2.2
    have ag3 : cAg [16, 27, 28, 115, 150, 151, 152] c (w, I, c.2.2.1, c.2.2.2) := ((cAg.rf [16, 27, 28, 115, 150, 151, 152] c).i (F := 27) (by decide) _).tr (hP.ag.wk sub3p)
    refine aw_aloadV_n d_L_link_71 rfl rfl (by first | exact Or.inl ⟨_, rfl⟩ | exact Or.inr rfl | exact rv_Q _) ?_
    refine aw_callV (c_L_findWaitFault G _ o (w, I, c.2.2.1, c.2.2.2) hR3 (lkL s e U S W E a) e U S W T hJL hWb hSb hUb i2 i3 i4 hB hn3 hb3 hcl) cl_L hR3.obj m_L_findWaitFault ml_L_218 rfl rfl (by decide) (by decide) (Nat.le_of_ble_eq_true rfl) d_L_link_72 ?_
    have e33 : (lkL s e U S W E a).1 33 = 0 := ha0
    have w50 : w 50 = a 33 := (hP.1 50 (by decide)).trans hf.1
    have w51 : w 51 = a 34 := (hP.1 51 (by decide)).trans hf.2.1
    have w52 : w 52 = a 35 := (hP.1 52 (by decide)).trans hf.2.2
    have p6 : lkP c s e U E (lkN s e U S W E a) 6 = (lkL s e U S W E a).1 39 := va_up_self _ _ _
    rintro v h4 ⟨rfl, ⟨hw, rfl⟩ | ⟨hw, hR4, hF4⟩⟩
    · have e1 : mWrong (lkL s e U S W E a) e S W = lkL s e U S W E a := by rw [mWrong, if_pos hw]
      refine l_link75 (c := c) hR3 s e U S W E a (mWrong (lkL s e U S W E a) e S W) ⟨by rw [e1]; exact ⟨w50, w51, w52⟩, hn3, hb3, e16⟩ (by rw [e1]; exact p6) _ (fun c6 h6 b1 b2 b3 b4 => hk c6 h6 b1 (ag3.tr b2) ((hF2.tr hF3).tr b3) b4)
    · have e1 : mWrong (lkL s e U S W E a) e S W = mFail (lkL s e U S W E a) (mWrL (lkL s e U S W E a) e S W 0 (-1, 0)).2 ((lkL s e U S W E a).2.1 17 (iN (mWrL (lkL s e U S W E a) e S W 0 (-1, 0)).1)) ((lkL s e U S W E a).2.1 23 (iN (mWrL (lkL s e U S W E a) e S W 0 (-1, 0)).1)) := by rw [mWrong, if_neg hw]
      have e2 := mFail_0 (t := lkL s e U S W E a) (k := (mWrL (lkL s e U S W E a) e S W 0 (-1, 0)).2) (u := (lkL s e U S W E a).2.1 17 (iN (mWrL (lkL s e U S W E a) e S W 0 (-1, 0)).1)) (l := (lkL s e U S W E a).2.1 23 (iN (mWrL (lkL s e U S W E a) e S W 0 (-1, 0)).1)) e33
      have e39 : (mWrong (lkL s e U S W E a) e S W).1 39 = (lkL s e U S W E a).1 39 := by rw [e1, mFail, if_pos e33]; rfl
      refine l_link75 (c := c) hR4 s e U S W E a (mWrong (lkL s e U S W E a) e S W) ⟨by rw [e1, e2.1, e2.2.1, e2.2.2]; exact ⟨rfl, rfl, rfl⟩, hn3, hb3, e16⟩ (by rw [e39]; exact p6) _ (fun c6 h6 b1 b2 b3 b4 => hk c6 h6 b1 ((((ag3.v (F := 50) (by decide) _).v (F := 51) (by decide) _).v (F := 52) (by decide) _).tr b2) (((hF2.tr hF3).tr hF4).tr b3) b4)

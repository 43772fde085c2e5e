abbrev mS1 (s : mSt) : mSt := (va_up (va_up (va_up s.1 33 0) 34 0) 35 (-1), s.2)
noncomputable abbrev mS2 (s : mSt) (e : Nat → Nat → Nat) (U S : Nat) : mSt := ((mS1 s).1, va_up (mS1 s).2.1 3 (mTake (mS1 s) e U S), (mS1 s).2.2)
def mEnt (t : mSt) (e : Nat → Nat → Nat) (S : Nat) : Int32 := mMeant (t.2.1 3) (mT t e S) 495873782388 5
def mS3 (t : mSt) (e : Nat → Nat → Nat) (S : Nat) : mSt := if 0 ≤ mEnt t e S ∧ mGlob (mT t e S) (iN (mEnt t e S)) then mTwice t e S else mFail t 1 (-1) 0
/-- from a state with no fault on: E is the entry's label -/
def mLinkA (t : mSt) (e : Nat → Nat → Nat) (U S W T E : Nat) : mSt × Int32 := if (mS9 (mNd t (mNeed t e U S W E)) e U S W).1 33 = 0 then ((va_up (mDone (mS9 (mNd t (mNeed t e U S W E)) e U S W) e U S W T E).1 0 0, (mDone (mS9 (mNd t (mNeed t e U S W E)) e U S W) e U S W T E).2), (mDone (mS9 (mNd t (mNeed t e U S W E)) e U S W) e U S W T E).1 39) else ((va_up (mBack (mS9 (mNd t (mNeed t e U S W E)) e U S W) (t.2.1 30 0) (t.2.1 30 1) (t.2.1 30 2) (t.2.1 30 3) (t.2.1 30 4) (t.2.1 30 6) (t.1 39)).1 0 1, (mBack (mS9 (mNd t (mNeed t e U S W E)) e U S W) (t.2.1 30 0) (t.2.1 30 1) (t.2.1 30 2) (t.2.1 30 3) (t.2.1 30 4) (t.2.1 30 6) (t.1 39)).2), 0)
def mLinkB (t : mSt) (e : Nat → Nat → Nat) (U S W T E : Nat) : mSt × Int32 := if t.1 33 = 0 then mLinkA t e U S W T E else ((va_up t.1 0 1, t.2), 0)
noncomputable def mLink (s : mSt) (e : Nat → Nat → Nat) (U S W T : Nat) : mSt × Int32 := mLinkB (mS3 (mS2 s e U S) e S) e U S W T (iN (mEnt (mS2 s e U S) e S))
theorem c_M_isGlobalE (G : ax_G) (h : ax_H) (m : Nat) (s : mSt) (hR : mR m s h) (j : Nat) (hj : j < 2048) (z : Int32) (hz : z = nI j) : AM G Y_M_isGlobal 0 0 [.ref m, .int z] h (fun v h2 => h2 = h ∧ v = some (.int (zI (0 ≤ s.2.1 13 j ∧ s.2.1 12 j = 1)))) := by
  subst hz
  exact c_M_isGlobal G h m s hR j hj
theorem c_M_findNeededE (G : ax_G) (h : ax_H) (m : Nat) (s : mSt) (hR : mR m s h) (e : Nat → Nat → Nat) (U S W T B : Nat) (H : mHy s e U S W T B) (E : Nat) (hE : E < S) (hE0 : 0 ≤ s.2.1 13 E) (z : Int32) (hz : z = nI E) : AM G Y_M_findNeeded 3 68 [.ref m, .int z] h (fun v h2 => v = none ∧ mR m (mNd s (mNeed s e U S W E)) h2 ∧ mFr m h h2) := by
  subst hz
  exact c_M_findNeeded G h m s hR e U S W H.hU H.hUb H.hS H.hSb H.hW H.hWb H.i2 H.i3 H.i4 E hE hE0
set_option maxRecDepth 20000 in
theorem t_M_link1 {G : ax_G} {x : ax_X} {h0 : ax_H} {P : Option Value → ax_H → Prop} {m : Nat} (t : mSt) (e : Nat → Nat → Nat) (U S W T B : Nat) (E : Nat) (zE : Int32) (hok : t.1 33 = 0 → mHy t e U S W T B ∧ zE = nI E ∧ E < S ∧ 0 ≤ t.2.1 13 E) (hq : ax_H) (h : ax_H) (hR : mR m t h) (hF : mFr m hq h) (hp : ∀ h2, mR m (mLinkB t e U S W T E).1 h2 → mFr m hq h2 → P (some (.int (mLinkB t e U S W T E).2)) h2) : AW G x Y_M_link 5 122 h0 P h 54 [some (.ref m), some (.int zE), none, none, none, none, none, none, none, none, none, none, none, none, none] [] := by
  rw [mLinkB] at hp
  first | refine aw_aload_n d_M_link_54 rfl rfl ?_ | refine aw_aload_nQ d_M_link_54 rfl rfl ?_ | refine aw_aload_nN d_M_link_54 rfl rfl ?_
  refine aM_get (by assumption) fl_M_178 (by decide) rfl d_M_link_55 ?_
  refine aw_if_eq (tgt := 68) d_M_link_58 (by decide) (fun c58 => ?_) (fun c58 => ?_)
  · obtain ⟨H, hz, hE, hE0⟩ := hok c58
    subst hz
    rw [if_pos c58] at hp
    first | refine aw_aload_n d_M_link_68 rfl rfl ?_ | refine aw_aload_nQ d_M_link_68 rfl rfl ?_ | refine aw_aload_nN d_M_link_68 rfl rfl ?_
    refine aM_get (by assumption) fl_M_105 (by decide) rfl d_M_link_69 ?_
    first | refine aw_astore_n d_M_link_72 rfl (by decide) rfl ?_ | refine aw_astoreQ_n d_M_link_72 rfl (by decide) rfl ?_ | refine aw_astoreN_n d_M_link_72 rfl (by decide) rfl ?_
    first | refine aw_aload_n d_M_link_73 rfl rfl ?_ | refine aw_aload_nQ d_M_link_73 rfl rfl ?_ | refine aw_aload_nN d_M_link_73 rfl rfl ?_
    refine aw_iconst (v := 0) d_M_link_74 (by decide) ?_
    refine aM_iald (by assumption) (by decide) rfl (show _ = nI 0 from rfl) (show 0 < 7 by decide) (by decide) d_M_link_75 ?_
    refine aw_istore_n d_M_link_76 rfl (by decide) rfl ?_
    first | refine aw_aload_n d_M_link_77 rfl rfl ?_ | refine aw_aload_nQ d_M_link_77 rfl rfl ?_ | refine aw_aload_nN d_M_link_77 rfl rfl ?_
    refine aw_iconst (v := 1) d_M_link_78 (by decide) ?_
    refine aM_iald (by assumption) (by decide) rfl (show _ = nI 1 from rfl) (show 1 < 7 by decide) (by decide) d_M_link_79 ?_
    refine aw_istore d_M_link_80 (by decide) rfl ?_
    first | refine aw_aload_n d_M_link_82 rfl rfl ?_ | refine aw_aload_nQ d_M_link_82 rfl rfl ?_ | refine aw_aload_nN d_M_link_82 rfl rfl ?_
    refine aw_iconst (v := 2) d_M_link_83 (by decide) ?_
    refine aM_iald (by assumption) (by decide) rfl (show _ = nI 2 from rfl) (show 2 < 7 by decide) (by decide) d_M_link_84 ?_
    refine aw_istore d_M_link_85 (by decide) rfl ?_
    first | refine aw_aload_n d_M_link_87 rfl rfl ?_ | refine aw_aload_nQ d_M_link_87 rfl rfl ?_ | refine aw_aload_nN d_M_link_87 rfl rfl ?_
    refine aw_iconst (v := 3) d_M_link_88 (by decide) ?_
    refine aM_iald (by assumption) (by decide) rfl (show _ = nI 3 from rfl) (show 3 < 7 by decide) (by decide) d_M_link_89 ?_
    refine aw_istore d_M_link_90 (by decide) rfl ?_
    first | refine aw_aload_n d_M_link_92 rfl rfl ?_ | refine aw_aload_nQ d_M_link_92 rfl rfl ?_ | refine aw_aload_nN d_M_link_92 rfl rfl ?_
    refine aw_iconst (v := 4) d_M_link_93 (by decide) ?_
    refine aM_iald (by assumption) (by decide) rfl (show _ = nI 4 from rfl) (show 4 < 7 by decide) (by decide) d_M_link_94 ?_
    refine aw_istore d_M_link_95 (by decide) rfl ?_
    first | refine aw_aload_n d_M_link_97 rfl rfl ?_ | refine aw_aload_nQ d_M_link_97 rfl rfl ?_ | refine aw_aload_nN d_M_link_97 rfl rfl ?_
    refine aw_bipush (v := 6) d_M_link_98 (by decide) ?_
    refine aM_iald (by assumption) (by decide) rfl (show _ = nI 6 from rfl) (show 6 < 7 by decide) (by decide) d_M_link_100 ?_
    refine aw_istore d_M_link_101 (by decide) rfl ?_
    first | refine aw_aload_n d_M_link_103 rfl rfl ?_ | refine aw_aload_nQ d_M_link_103 rfl rfl ?_ | refine aw_aload_nN d_M_link_103 rfl rfl ?_
    refine aM_get (by assumption) fl_M_191 (by decide) rfl d_M_link_104 ?_
    refine aw_istore d_M_link_107 (by decide) rfl ?_
    first | refine aw_aload_n d_M_link_109 rfl rfl ?_ | refine aw_aload_nQ d_M_link_109 rfl rfl ?_ | refine aw_aload_nN d_M_link_109 rfl rfl ?_
    refine aw_iload_n d_M_link_110 rfl rfl ?_
    refine aw_callV (c_M_findNeeded G _ m t hR e U S W H.hU H.hUb H.hS H.hSb H.hW H.hWb H.i2 H.i3 H.i4 E hE hE0) cl_M (mR.obj (by assumption)) m_M_findNeeded ml_M_214 rfl rfl (by decide) (by decide) (Nat.le_of_ble_eq_true rfl) d_M_link_111 ?_
    rintro v h' ⟨rfl, hRn, hFn⟩
    refine t_M_link2 (mNd t (mNeed t e U S W E)) e U S W T B H hq _ _ _ _ _ _ (t.2.1 30 0) (t.2.1 30 1) (t.2.1 30 2) (t.2.1 30 3) (t.2.1 30 4) (t.2.1 30 6) (t.1 39) E hE hE0 _ hRn (hF.tr hFn) (fun k1 h2 r1 r2 => ?_) (fun k1 h2 r1 r2 => ?_)
    · rw [mLinkA, if_neg k1] at hp
      exact hp _ r1 r2
    · rw [mLinkA, if_pos k1] at hp
      exact hp _ r1 r2
  · first | refine aw_aload_n d_M_link_61 rfl rfl ?_ | refine aw_aload_nQ d_M_link_61 rfl rfl ?_ | refine aw_aload_nN d_M_link_61 rfl rfl ?_
    refine aw_iconst (v := 1) d_M_link_62 (by decide) ?_
    refine aw_iconst (v := 0) d_M_link_63 (by decide) ?_
    refine aw_callV (c_M_give G _ m _ hR _ _) cl_M (mR.obj (by assumption)) m_M_give ml_M_210 rfl rfl (by decide) (by decide) (Nat.le_of_ble_eq_true rfl) d_M_link_64 ?_
    rintro v h' ⟨rfl, hRg, hFg⟩
    refine aw_iret ?_ rfl d_M_link_67
    rw [if_neg c58] at hp
    exact hp _ hRg (hF.tr hFg)
set_option maxRecDepth 20000 in
theorem c_M_link (G : ax_G) (h : ax_H) (m : Nat) (s : mSt) (hR : mR m s h) (e : Nat → Nat → Nat) (U S W T B : Nat) (H : mHy s e U S W T B) : AM G Y_M_link 5 122 [.ref m] h (fun v h2 => v = some (.int (mLink s e U S W T).2) ∧ mR m (mLink s e U S W T).1 h2 ∧ mFr m h h2) := by
  refine aw_enter (by decide) (Nat.le_of_ble_eq_true rfl) (n := 14) (ls := [some (.ref m), none, none, none, none, none, none, none, none, none, none, none, none, none, none]) rfl (fun x => ?_)
  first | refine aw_aload_n d_M_link_0 rfl rfl ?_ | refine aw_aload_nQ d_M_link_0 rfl rfl ?_ | refine aw_aload_nN d_M_link_0 rfl rfl ?_
  refine aw_iconst (v := 0) d_M_link_1 (by decide) ?_
  refine aM_put (by assumption) fl_M_178 (by decide) rfl rfl rfl rfl d_M_link_2 (fun g2 hR2 hF2 => ?_)
  first | refine aw_aload_n d_M_link_5 rfl rfl ?_ | refine aw_aload_nQ d_M_link_5 rfl rfl ?_ | refine aw_aload_nN d_M_link_5 rfl rfl ?_
  refine aw_iconst (v := 0) d_M_link_6 (by decide) ?_
  refine aM_put (by assumption) fl_M_181 (by decide) rfl rfl rfl rfl d_M_link_7 (fun g7 hR7 hF7 => ?_)
  first | refine aw_aload_n d_M_link_10 rfl rfl ?_ | refine aw_aload_nQ d_M_link_10 rfl rfl ?_ | refine aw_aload_nN d_M_link_10 rfl rfl ?_
  refine aw_iconst (v := (-1)) d_M_link_11 (by decide) ?_
  refine aM_put (by assumption) fl_M_95 (by decide) rfl rfl rfl rfl d_M_link_12 (fun g12 hR12 hF12 => ?_)
  first | refine aw_aload_n d_M_link_15 rfl rfl ?_ | refine aw_aload_nQ d_M_link_15 rfl rfl ?_ | refine aw_aload_nN d_M_link_15 rfl rfl ?_
  refine aw_callV (c_M_take G _ m (mS1 s) hR12 e U S H.hU H.hUb H.hS H.hSb H.i2 H.i7) cl_M hR12.obj m_M_take ml_M_202 rfl rfl (by decide) (by decide) (Nat.le_of_ble_eq_true rfl) d_M_link_16 ?_
  rintro v h' ⟨rfl, hRk, hFk⟩
  first | refine aw_aload_n d_M_link_19 rfl rfl ?_ | refine aw_aload_nQ d_M_link_19 rfl rfl ?_ | refine aw_aload_nN d_M_link_19 rfl rfl ?_
  refine aw_ldc2 kc_M_205 d_M_link_20 ?_
  refine aw_iconst (v := 5) d_M_link_23 (by decide) ?_
  refine aw_callV (c_M_meant G _ m (mS2 s e U S) hRk e U S H.hUb H.hS H.hSb H.i2 _ _) cl_M hRk.obj m_M_meant ml_M_171 rfl rfl (by decide) (by decide) (Nat.le_of_ble_eq_true rfl) d_M_link_24 ?_
  rintro v h' ⟨rfl, rfl⟩
  refine aw_istore_n d_M_link_27 rfl (by decide) rfl ?_
  refine aw_iload_n d_M_link_28 rfl rfl ?_
  refine aw_if_lt (tgt := 40) d_M_link_29 (by decide) (fun c29 => ?_) (fun c29 => ?_)
  · first | refine aw_aload_n d_M_link_40 rfl rfl ?_ | refine aw_aload_nQ d_M_link_40 rfl rfl ?_ | refine aw_aload_nN d_M_link_40 rfl rfl ?_
    refine aw_iconst (v := 1) d_M_link_41 (by decide) ?_
    refine aw_iconst (v := (-1)) d_M_link_42 (by decide) ?_
    refine aw_iconst (v := 0) d_M_link_43 (by decide) ?_
    refine aw_callV (c_M_fail G _ m (mS2 s e U S) hRk _ _ _) cl_M hRk.obj m_M_fail ml_M_184 rfl rfl (by decide) (by decide) (Nat.le_of_ble_eq_true rfl) d_M_link_44 ?_
    rintro v h' ⟨rfl, hRt, hFt⟩
    refine aw_goto (tgt := 54) d_M_link_47 (by decide) ?_
    have e3 : mS3 (mS2 s e U S) e S = mFail (mS2 s e U S) 1 (-1) 0 := if_neg (fun q => absurd q.1 (Int32.not_le.mpr c29))
    refine t_M_link1 (mS3 (mS2 s e U S) e S) e U S W T B (iN (mEnt (mS2 s e U S) e S)) (mEnt (mS2 s e U S) e S) (fun k0 => ?_) h _ (e3.symm ▸ hRt) (((((hF2.tr hF7).tr hF12).tr hFk).tr hFt)) (fun h2 r1 r2 => ⟨rfl, r1, r2⟩)
    exact absurd (e3 ▸ k0) (mFail_33 _ _ _ (by decide))
  · obtain ⟨j, j1, j2, j3⟩ : ∃ j, j < S ∧ (mEnt (mS2 s e U S) e S) = nI j ∧ 0 ≤ (mS2 s e U S).2.1 13 j := by
      rcases mMeant_lab ((mS2 s e U S).2.1 3) (mT (mS2 s e U S) e S) 495873782388 5 with q | ⟨j, q1, q2, q3, -⟩
      · exact absurd (show (mEnt (mS2 s e U S) e S) < 0 by rw [show (mEnt (mS2 s e U S) e S) = -1 from q]; decide) c29
      · exact ⟨j, q1, q2, q3⟩
    have hSb := H.hSb
    have ej : iN (mEnt (mS2 s e U S) e S) = j := by rw [j2, iN, nI_clamp (by omega)]
    first | refine aw_aload_n d_M_link_32 rfl rfl ?_ | refine aw_aload_nQ d_M_link_32 rfl rfl ?_ | refine aw_aload_nN d_M_link_32 rfl rfl ?_
    refine aw_iload_n d_M_link_33 rfl rfl ?_
    refine aw_callV (c_M_isGlobalE G _ m (mS2 s e U S) hRk j (Nat.lt_of_lt_of_le j1 H.hSb) _ j2) cl_M hRk.obj m_M_isGlobal ml_M_165 rfl rfl (by decide) (by decide) (Nat.le_of_ble_eq_true rfl) d_M_link_34 ?_
    rintro v h' ⟨rfl, rfl⟩
    refine aw_if_ne (tgt := 50) d_M_link_37 (by decide) (fun c37 => ?_) (fun c37 => ?_)
    · first | refine aw_aload_n d_M_link_50 rfl rfl ?_ | refine aw_aload_nQ d_M_link_50 rfl rfl ?_ | refine aw_aload_nN d_M_link_50 rfl rfl ?_
      refine aw_callV (c_M_findTwice G _ m (mS2 s e U S) hRk e U S H.hUb H.hS H.hSb H.i2) cl_M hRk.obj m_M_findTwice ml_M_207 rfl rfl (by decide) (by decide) (Nat.le_of_ble_eq_true rfl) d_M_link_51 ?_
      rintro v h' ⟨rfl, hRt, hFt⟩
      have hg : 0 ≤ (mEnt (mS2 s e U S) e S) ∧ mGlob (mT (mS2 s e U S) e S) (iN (mEnt (mS2 s e U S) e S)) := by
        refine ⟨Int32.not_lt.mp c29, ?_⟩
        rw [ej]
        by_cases q : mGlob (mT (mS2 s e U S) e S) j
        · exact q
        · exact absurd (show zI (0 ≤ (mS2 s e U S).2.1 13 j ∧ (mS2 s e U S).2.1 12 j = 1) = 0 by rw [zI, if_neg q]) c37
      have e3 : mS3 (mS2 s e U S) e S = mTwice (mS2 s e U S) e S := if_pos hg
      refine t_M_link1 (mS3 (mS2 s e U S) e S) e U S W T B (iN (mEnt (mS2 s e U S) e S)) (mEnt (mS2 s e U S) e S) (fun k0 => ?_) h _ (e3.symm ▸ hRt) (((((hF2.tr hF7).tr hF12).tr hFk).tr hFt)) (fun h2 r1 r2 => ⟨rfl, r1, r2⟩)
      have e4 : mS3 (mS2 s e U S) e S = (mS2 s e U S) := e3.trans (mTwice_33 (e3 ▸ k0))
      rw [e4, ej]
      exact ⟨H, j2, j1, j3⟩
    · first | refine aw_aload_n d_M_link_40 rfl rfl ?_ | refine aw_aload_nQ d_M_link_40 rfl rfl ?_ | refine aw_aload_nN d_M_link_40 rfl rfl ?_
      refine aw_iconst (v := 1) d_M_link_41 (by decide) ?_
      refine aw_iconst (v := (-1)) d_M_link_42 (by decide) ?_
      refine aw_iconst (v := 0) d_M_link_43 (by decide) ?_
      refine aw_callV (c_M_fail G _ m (mS2 s e U S) hRk _ _ _) cl_M hRk.obj m_M_fail ml_M_184 rfl rfl (by decide) (by decide) (Nat.le_of_ble_eq_true rfl) d_M_link_44 ?_
      rintro v h' ⟨rfl, hRt, hFt⟩
      refine aw_goto (tgt := 54) d_M_link_47 (by decide) ?_
      have e3 : mS3 (mS2 s e U S) e S = mFail (mS2 s e U S) 1 (-1) 0 := if_neg (fun q => absurd (by have q := q.2; rw [ej] at q; exact q) (fun q : mGlob (mT (mS2 s e U S) e S) j => absurd (show zI (0 ≤ (mS2 s e U S).2.1 13 j ∧ (mS2 s e U S).2.1 12 j = 1) = 1 by rw [zI, if_pos q]) (by rw [c37]; decide)))
      refine t_M_link1 (mS3 (mS2 s e U S) e S) e U S W T B (iN (mEnt (mS2 s e U S) e S)) (mEnt (mS2 s e U S) e S) (fun k0 => ?_) h _ (e3.symm ▸ hRt) (((((hF2.tr hF7).tr hF12).tr hFk).tr hFt)) (fun h2 r1 r2 => ⟨rfl, r1, r2⟩)
      exact absurd (e3 ▸ k0) (mFail_33 _ _ _ (by decide))

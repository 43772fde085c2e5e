set_option maxRecDepth 20000 in
theorem k_Link (G : ax_G) (o : Nat) (hG : G.1 = o) (hsz : G.2.1.heap.size ≤ G.1) (z1 : ax_ZS G "UNASSIGNED_STACK" "[Ljava/lang/StackTraceElement;") (z2 : ax_ZS G "SUPPRESSED_SENTINEL" "Ljava/util/List;") (hfl : G.2.2.2.1.flags = pinnedFlags ++ [noTraceFlag]) : lawLink G (cC o) o (o + 17) (o + 53) := by
  intro s e U S W T B n h hV hM hC
  obtain ⟨c, hR, hJ, hKi, hKn, hKf, hKb, hRm⟩ := hC
  have hy := hV.1
  have hSb := hy.hSb
  have hUb := hy.hUb
  have hr1 := hRm.1
  have hr2 := hRm.2
  have eT : (mS3 (mS2 s e U S) e S) = (lkT s e U S (mS3 (mS2 s e U S) e S).1) := Prod.ext rfl (mS3_2 _ _ _)
  have ha : ∀ j, (¬ j = 33 ∧ ¬ j = 34 ∧ ¬ j = 35) → (mS3 (mS2 s e U S) e S).1 j = s.1 j := by
    intro j hj
    rw [mS3_1 _ _ _ hj]
    show va_up (va_up (va_up s.1 33 0) 34 0) 35 (-1) j = _
    rw [va_up_ne _ _ hj.2.2, va_up_ne _ _ hj.2.1, va_up_ne _ _ hj.1]
  have a1 : (mS3 (mS2 s e U S) e S).1 1 = nI U := (ha 1 (by decide)).trans hy.hU
  have kNS := hKn.2.2
  refine ⟨fun hz => ?_, fun hz => ?_⟩
  · have h33 : (mS3 (mS2 s e U S) e S).1 33 = 0 := by
      by_cases q : (mS3 (mS2 s e U S) e S).1 33 = 0
      · exact q
      · rw [mLink, mLinkB, if_neg q] at hz
        exact absurd (show (1 : Int32) = 0 from hz) (by decide)
    refine aw_enter (by decide) (Nat.le_of_ble_eq_true rfl) (n := 1) (ls := [some (.ref o), none]) rfl (fun x => ?_)
    refine l_link1 hR s e U S W T hJ hy (fun c2 h2 r hR2 ag2 hF2 hB2 ht2 hA => ?_)
    obtain ⟨hf, hr⟩ := hA
    rcases hr with ⟨-, q⟩ | ⟨E, hE, hm, hg, rfl⟩
    · exact absurd h33 q
    · have hE0 := hE
      have hJ2 := hJ.ag ag2 sub16
      have g2 : c2.2.2.2.2 = c.2.2.2.2 := ag2.2.2.2.2
      have eE : iN (mEnt (mS2 s e U S) e S) = E := by rw [hm, iN, nI_clamp (by omega)]
      rw [← g2] at hB2
      refine aw_ls (ls' := [some (.ref o), some (.ref (c2.2.2.2.2.1 2 E))]) (by rw [g2]; rfl) ?_
      have hlk : mLink s e U S W T = mLinkA (lkT s e U S (mS3 (mS2 s e U S) e S).1) e U S W T E := by
        rw [mLink, mLinkB, if_pos h33, eE]
        exact congrArg (fun t => mLinkA t e U S W T E) eT
      have e33 : (lkL s e U S W E (mS3 (mS2 s e U S) e S).1).1 33 = 0 := h33
      refine l_link2 hR2 s e U S W T hJ2 hy hB2 ht2 (mS3 (mS2 s e U S) e S).1 h33 hf hE hg (fun c6 h6 hR6 ag6 hF6 hL6 => ?_)
      obtain ⟨⟨f1, f2, f3⟩, l2, l3, l4⟩ := hL6
      have hJ6 := hJ2.ag ag6 sub17
      have g6 : c6.2.2.2.2 = c2.2.2.2.2 := ag6.2.2.2.2
      have hF : cFr o (c.2.2.2.2.2 5) h h6 := by
        have := hF6
        rw [g2] at this
        exact hF2.tr this
      have h9 : (mS9 (mNd (lkT s e U S (mS3 (mS2 s e U S) e S).1) (lkN s e U S W E (mS3 (mS2 s e U S) e S).1)) e U S W).1 33 = 0 := by
        by_cases q : (mS9 (mNd (lkT s e U S (mS3 (mS2 s e U S) e S).1) (lkN s e U S W E (mS3 (mS2 s e U S) e S).1)) e U S W).1 33 = 0
        · exact q
        · rw [hlk, mLinkA, if_neg q] at hz
          exact absurd (show (1 : Int32) = 0 from hz) (by decide)
      obtain ⟨e9, h39⟩ := mS9_ok (s := (lkL s e U S W E (mS3 (mS2 s e U S) e S).1)) (e := e) (S := S) (W := W) e33 h9
      have e9 : (mS9 (mNd (lkT s e U S (mS3 (mS2 s e U S) e S).1) (lkN s e U S W E (mS3 (mS2 s e U S) e S).1)) e U S W) = (lkL s e U S W E (mS3 (mS2 s e U S) e S).1) := e9
      rw [hlk, mLinkA, if_pos h9, e9]
      obtain ⟨en, en1, en2, en3⟩ := mLay4_ok (sz := s.2.1 5) (nd := (lkN s e U S W E (mS3 (mS2 s e U S) e S).1)) (ad := s.2.1 7) (z := e 5) hUb (fun q hq => (hy.i1 q hq).1)
      have hen : (lkL s e U S W E (mS3 (mS2 s e U S) e S).1).1 39 = nI en := en2
      have henb : en ≤ 262144 := by
        rw [hen] at h39
        exact (nI_leI (b := 262144) (by omega) (by decide)).mp h39
      have hHA : mHA (mMade (lkL s e U S W E (mS3 (mS2 s e U S) e S).1) e E) e U := by
        intro q hq hq2
        obtain ⟨b, b1, b2⟩ := en3 q hq hq2
        have b1 : (mLay4 (s.2.1 5) (lkN s e U S W E (mS3 (mS2 s e U S) e S).1) (s.2.1 7) U).2.2 q = nI b := b1
        show (mLay4 (s.2.1 5) (lkN s e U S W E (mS3 (mS2 s e U S) e S).1) (s.2.1 7) U).2.2 q = nI (iN ((mLay4 (s.2.1 5) (lkN s e U S W E (mS3 (mS2 s e U S) e S).1) (s.2.1 7) U).2.2 q)) ∧ iN ((mLay4 (s.2.1 5) (lkN s e U S W E (mS3 (mS2 s e U S) e S).1) (s.2.1 7) U).2.2 q) + e 5 q ≤ 262144
        rw [b1, iN, nI_clamp (by omega)]
        exact ⟨rfl, by omega⟩
      have hyM : mHy (mMade (lkL s e U S W E (mS3 (mS2 s e U S) e S).1) e E) e U S W T B := by
        obtain ⟨y1, y2, y3, y4, y5, y6, y7, y8⟩ := hy
        exact ⟨a1, y2, (ha 2 (by decide)).trans y3, y4, (ha 3 (by decide)).trans y5, y6, (ha 4 (by decide)).trans y7, y8⟩
      have hcl : ∀ w, w < W → ¬ (lkN s e U S W E (mS3 (mS2 s e U S) e S).1) (mSrc e w) = 0 → mTq (mTake s e U S) (mT s e S) e w < 128 → ¬ (lkN s e U S W E (mS3 (mS2 s e U S) e S).1) (mTq (mTake s e U S) (mT s e S) e w) = 0 := mTurns_closed (mTq (mTake s e U S) (mT s e S) e) (mSrc e) W 129 _ (by have := cZ_le (va_up (mNd0 U (mTake s e U S) (s.2.1 2) (s.2.1 4) 128) (4 * e 11 E + e 13 E) 1) 128; exact Nat.lt_succ_of_le this)
      have hB6 : cBk s e S c6.2.2.2.2 (mTake s e U S) c6.2.2.2.1 S := by
        have r44 : c6.2.2.2.1 44 = c2.2.2.2.1 44 := ag6.2.2.2.1 44 (by decide)
        have r45 : c6.2.2.2.1 45 = c2.2.2.2.1 45 := ag6.2.2.2.1 45 (by decide)
        rw [g6]
        intro i hi
        rw [r44, r45]
        exact hB2 i hi
      have s6 : c6.2.1 6 = c.2.1 6 := (ag6.2.1 6 (by decide)).trans (ag2.2.1 6 (by decide))
      have s14 : c6.1 14 = c.1 14 := (ag6.1 14 (by decide)).trans (ag2.1 14 (by decide))
      have h16 : c6.2.1 16 6 = nI en := by rw [l4]; exact en2
      have hJM : cJ c6 (mMade (lkL s e U S W E (mS3 (mS2 s e U S) e S).1) e E) e U S W T := hJ6
      refine aw_aloadV_n d_L_link_107 rfl rfl (by first | exact Or.inl ⟨_, rfl⟩ | exact Or.inr rfl | exact rv_Q _) ?_
      refine aw_get cl_L fl_L_47 (by decide) hR6.obj rfl d_L_link_108 ?_
      refine aw_getE cl_Fault fl_L_204 (by decide) hR6.flt rfl (congrArg Value.int (f1.trans h9)) d_L_link_111 ?_
      refine aw_if_eq (tgt := 127) d_L_link_114 (by decide) (fun c114 => ?_) (fun c114 => ?_)
      · refine aw_aloadV_n d_L_link_127 rfl rfl (by first | exact Or.inl ⟨_, rfl⟩ | exact Or.inr rfl | exact rv_Q _) ?_
        refine aw_callV (c_L_makeImage G _ o c6 hR6 (mMade (lkL s e U S W E (mS3 (mS2 s e U S) e S).1) e E) e U S W T hJM (B := B) (n := en) hyM hB6 l2 l3 hcl (fun i hi => by rw [s6]; exact hKb.2.1 i hi) (fun i => by rw [s6]; exact hKb.2.2 i) hHA h16 henb) cl_L hR6.obj m_L_makeImage ml_L_228 rfl rfl (by decide) (by decide) (Nat.le_of_ble_eq_true rfl) d_L_link_128 ?_
        rintro v h7 ⟨rfl, c7, hR7, ag7, hI7, hF7⟩
        have g7 : c7.2.2.2.2 = c6.2.2.2.2 := ag7.2.2.2.2
        have p16 : c7.2.1 16 = c6.2.1 16 := ag7.2.1 16 (by decide)
        rw [l4] at hI7
        refine aw_aloadV_n d_L_link_131 rfl rfl (by first | exact Or.inl ⟨_, rfl⟩ | exact Or.inr rfl | exact rv_Q _) ?_
        refine aw_get cl_L fl_L_58 (by decide) hR7.obj rfl d_L_link_132 ?_
        refine aw_bipush (v := 6) d_L_link_135 (by decide) ?_
        refine aC_l16 hR7 (rfl : (6 : Int32) = nI 6) (by decide) d_L_link_137 ?_
        refine aw_iret ?_ rfl d_L_link_138
        have hJ7 := hJ6.ag ag7 sub18
        have good := lk_good (c := c) (c6 := c2) (c7 := c7) (s := s) (e := e) (W := W) (T := T) (B := B) (E := E) (en := en) (a := (mS3 (mS2 s e U S) e S).1) hJ7 hKb (by rw [g7, g6, g2]; exact kNS) hSb hUb a1 ⟨((ag7.1 50 (by decide)).trans f1).trans (by rw [e9]; rfl), ((ag7.1 51 (by decide)).trans f2).trans (by rw [e9]; rfl), ((ag7.1 52 (by decide)).trans f3).trans (by rw [e9]; rfl)⟩ (fun q hq => (congrFun (ag7.2.1 27 (by decide)) q).trans (l2 q hq)) ((ag7.1 14 (by decide)).trans s14) ((ag7.2.1 6 (by decide)).trans s6) hen henb hI7
        have hF8 : cFr o (c.2.2.2.2.2 5) h h7 := by
          have := hF7
          rw [g6, g2] at this
          exact hF.tr this
        refine ⟨?_, ⟨c7, hR7, good.1, good.2.1, good.2.2.1, good.2.2.2.1, good.2.2.2.2, hRm.fr hF8⟩, hF8.law⟩
        rw [p16, l4]
        rfl
      · exact absurd rfl c114
  · refine aw_enterT (by decide) (Nat.le_of_ble_eq_true rfl) (n := 1) (ls := [some (.ref o), none]) rfl (fun x hO => ?_)
    refine l_link1 hR s e U S W T hJ hy (fun c2 h2 r hR2 ag2 hF2 hB2 ht2 hA => ?_)
    obtain ⟨hf, hr⟩ := hA
    by_cases h33 : (mS3 (mS2 s e U S) e S).1 33 = 0
    · obtain ⟨E, hE, hm, hg, rfl⟩ := hr.resolve_left (fun q => q.2 h33)
      have hJ2 := hJ.ag ag2 sub16
      have g2 : c2.2.2.2.2 = c.2.2.2.2 := ag2.2.2.2.2
      have eE : iN (mEnt (mS2 s e U S) e S) = E := by rw [hm, iN, nI_clamp (by omega)]
      rw [← g2] at hB2
      refine aw_ls (ls' := [some (.ref o), some (.ref (c2.2.2.2.2.1 2 E))]) (by rw [g2]; rfl) ?_
      have hlk : mLink s e U S W T = mLinkA (lkT s e U S (mS3 (mS2 s e U S) e S).1) e U S W T E := by
        rw [mLink, mLinkB, if_pos h33, eE]
        exact congrArg (fun t => mLinkA t e U S W T E) eT
      have e33 : (lkL s e U S W E (mS3 (mS2 s e U S) e S).1).1 33 = 0 := h33
      refine l_link2 hR2 s e U S W T hJ2 hy hB2 ht2 (mS3 (mS2 s e U S) e S).1 h33 hf hE hg (fun c6 h6 hR6 ag6 hF6 hL6 => ?_)
      obtain ⟨⟨f1, f2, f3⟩, l2, l3, l4⟩ := hL6
      have hJ6 := hJ2.ag ag6 sub17
      have g6 : c6.2.2.2.2 = c2.2.2.2.2 := ag6.2.2.2.2
      have hF : cFr o (c.2.2.2.2.2 5) h h6 := by
        have := hF6
        rw [g2] at this
        exact hF2.tr this
      have h9 : ¬ (mS9 (mNd (lkT s e U S (mS3 (mS2 s e U S) e S).1) (lkN s e U S W E (mS3 (mS2 s e U S) e S).1)) e U S W).1 33 = 0 := by
        intro q
        rw [hlk, mLinkA, if_pos q] at hz
        exact hz rfl
      rw [hlk, mLinkA, if_neg h9] at hO
      have e1 := hF.1
      have e2 := hF.2.1
      refine aw_aloadV_n d_L_link_107 rfl rfl (by first | exact Or.inl ⟨_, rfl⟩ | exact Or.inr rfl | exact rv_Q _) ?_
      refine aw_get cl_L fl_L_47 (by decide) hR6.obj rfl d_L_link_108 ?_
      refine aw_getE cl_Fault fl_L_204 (by decide) hR6.flt rfl (congrArg Value.int f1) d_L_link_111 ?_
      refine aw_if_eq (tgt := 127) d_L_link_114 (by decide) (fun c114 => ?_) (fun c114 => ?_)
      · exact absurd c114 h9
      · refine aw_throw (names := ["java/lang/Exception"]) cl_JIllegalStateException hO kl_L_221 ni_JIllegalStateException ii_JIllegalStateException wd_s223 (by decide) (by decide) Bundle.six_0 Bundle.six_1 Bundle.six_2 Bundle.six_5 wd_atI hsz z1 z2 hfl (by rw [hG]; omega) (by omega) (by decide) (Nat.le_of_ble_eq_true rfl) d_L_link_117 d_L_link_120 d_L_link_121 d_L_link_123 d_L_link_126 (fun fs => ?_)
        have gg : c6.2.2.2.2 = c.2.2.2.2 := g6.trans g2
        have hT9 : (mS9 (mNd (lkT s e U S (mS3 (mS2 s e U S) e S).1) (lkN s e U S W E (mS3 (mS2 s e U S) e S).1)) e U S W).2 = (lkL s e U S W E (mS3 (mS2 s e U S) e S).1).2 := by
          show (mS8 (mWrong (lkL s e U S W E (mS3 (mS2 s e U S) e S).1) e S W)).2 = _
          have m1 : (mWrong (lkL s e U S W E (mS3 (mS2 s e U S) e S).1) e S W).2 = (lkL s e U S W E (mS3 (mS2 s e U S) e S).1).2 := by
            rw [mWrong]
            by_cases q : (mWrL (lkL s e U S W E (mS3 (mS2 s e U S) e S).1) e S W 0 (-1, 0)).1 < 0
            · rw [if_pos q]
            · rw [if_neg q]; exact mFail_2 _ _ _ _
          rw [mS8]
          by_cases q : (mWrong (lkL s e U S W E (mS3 (mS2 s e U S) e S).1) e S W).1 39 ≤ 262144
          · rw [if_pos q, m1]
          · rw [if_neg q, mFail_2, m1]
        have hT1 : ∀ j, (¬ j = 33 ∧ ¬ j = 34 ∧ ¬ j = 35) → (mS9 (mNd (lkT s e U S (mS3 (mS2 s e U S) e S).1) (lkN s e U S W E (mS3 (mS2 s e U S) e S).1)) e U S W).1 j = (lkL s e U S W E (mS3 (mS2 s e U S) e S).1).1 j := by
          intro j hj
          show (mS8 (mWrong (lkL s e U S W E (mS3 (mS2 s e U S) e S).1) e S W)).1 j = _
          have m1 : (mWrong (lkL s e U S W E (mS3 (mS2 s e U S) e S).1) e S W).1 j = (lkL s e U S W E (mS3 (mS2 s e U S) e S).1).1 j := by
            rw [mWrong]
            by_cases q : (mWrL (lkL s e U S W E (mS3 (mS2 s e U S) e S).1) e S W 0 (-1, 0)).1 < 0
            · rw [if_pos q]
            · rw [if_neg q]; exact mFail_1 _ _ _ _ hj
          rw [mS8]
          by_cases q : (mWrong (lkL s e U S W E (mS3 (mS2 s e U S) e S).1) e S W).1 39 ≤ 262144
          · rw [if_pos q, m1]
          · rw [if_neg q, mFail_1 _ _ _ _ hj, m1]
        have eT9 : (mS9 (mNd (lkT s e U S (mS3 (mS2 s e U S) e S).1) (lkN s e U S W E (mS3 (mS2 s e U S) e S).1)) e U S W) = ((mS9 (mNd (lkT s e U S (mS3 (mS2 s e U S) e S).1) (lkN s e U S W E (mS3 (mS2 s e U S) e S).1)) e U S W).1, (lkL s e U S W E (mS3 (mS2 s e U S) e S).1).2) := Prod.ext rfl hT9
        have l36 : (mS9 (mNd (lkT s e U S (mS3 (mS2 s e U S) e S).1) (lkN s e U S W E (mS3 (mS2 s e U S) e S).1)) e U S W).1 36 = nI U := (hT1 36 (by decide)).trans a1
        have l38 := (hT1 38 (by decide)).trans (ha 38 (by decide))
        have l42 := (hT1 42 (by decide)).trans (ha 42 (by decide))
        have l43 := (hT1 43 (by decide)).trans (ha 43 (by decide))
        generalize (mS9 (mNd (lkT s e U S (mS3 (mS2 s e U S) e S).1) (lkN s e U S W E (mS3 (mS2 s e U S) e S).1)) e U S W).1 = t1 at *
        have gm : mBack (mS9 (mNd (lkT s e U S (mS3 (mS2 s e U S) e S).1) (lkN s e U S W E (mS3 (mS2 s e U S) e S).1)) e U S W) ((lkT s e U S (mS3 (mS2 s e U S) e S).1).2.1 30 0) ((lkT s e U S (mS3 (mS2 s e U S) e S).1).2.1 30 1) ((lkT s e U S (mS3 (mS2 s e U S) e S).1).2.1 30 2) ((lkT s e U S (mS3 (mS2 s e U S) e S).1).2.1 30 3) ((lkT s e U S (mS3 (mS2 s e U S) e S).1).2.1 30 4) ((lkT s e U S (mS3 (mS2 s e U S) e S).1).2.1 30 6) ((lkT s e U S (mS3 (mS2 s e U S) e S).1).1 39) = mBack (t1, (lkL s e U S W E (mS3 (mS2 s e U S) e S).1).2) (s.2.1 30 0) (s.2.1 30 1) (s.2.1 30 2) (s.2.1 30 3) (s.2.1 30 4) (s.2.1 30 6) ((mS3 (mS2 s e U S) e S).1 39) := by rw [eT9]; rfl
        rw [gm]
        refine ⟨⟨fs, ax_new_self _ _⟩, ⟨c6, hR6.thrown _ _, hJ6, ?_, ⟨⟨U, Nat.le_refl _, l36⟩, fun q hq => ?_, by rw [gg]; exact kNS⟩, ⟨f1, f2, f3⟩, ⟨((ag6.1 14 (by decide)).trans (ag2.1 14 (by decide))).trans hKb.1, fun i hi => ?_, fun i => ?_⟩, ?_⟩, ?_⟩
        · refine hKi.to ((ag6.2.1 9 (by decide)).trans (ag2.2.1 9 (by decide))) ((ag6.2.1 10 (by decide)).trans (ag2.2.1 10 (by decide))) ((ag6.2.1 12 (by decide)).trans (ag2.2.1 12 (by decide))) ((ag6.2.1 13 (by decide)).trans (ag2.2.1 13 (by decide))) ((ag6.2.1 14 (by decide)).trans (ag2.2.1 14 (by decide))) ((ag6.2.1 15 (by decide)).trans (ag2.2.1 15 (by decide))) ((ag6.2.2.1 11 (by decide)).trans (ag2.2.2.1 11 (by decide))) ((ag6.1 53 (by decide)).trans (ag2.1 53 (by decide))) ((ag6.1 54 (by decide)).trans (ag2.1 54 (by decide))) l38 (ha 39 (by decide)) l42 l43 (fun k hk => ?_) rfl rfl rfl rfl rfl rfl
          match k, hk with
          | 0, _ => rfl
          | 1, _ => rfl
          | 2, _ => rfl
          | 3, _ => rfl
          | 4, _ => rfl
          | 5, _ => rfl
          | 6, _ => rfl
          | k + 7, hk => exact absurd hk (by omega)
        · rw [l2 q hq]
          show _ = zI (nI (q / 4) < t1 36 ∧ ¬ mFill (fun q => (lkN s e U S W E (mS3 (mS2 s e U S) e S).1) q &&& 1) (s.2.1 28) 128 q = 0)
          rw [l36]
          exact lk_need hUb hq _
        · rw [(ag6.2.1 6 (by decide)).trans (ag2.2.1 6 (by decide))]; exact hKb.2.1 i hi
        · rw [(ag6.2.1 6 (by decide)).trans (ag2.2.1 6 (by decide))]; exact hKb.2.2 i
        · exact cRm.thrown (show cRm o (n + 1) h6 from ⟨by rw [e1]; exact hr1, by rw [e2]; exact hr2⟩) _
        · have t1 := hF.law
          have t2 := lawF.thrown (o := o) (h := h6) (by rw [e1]; exact hR.h54) (.inr (9, fs)) 6
          exact ⟨fun k hk => (t2.1 k hk).trans (t1.1 k hk), t2.2.trans t1.2⟩
    · have hlk : mLink s e U S W T = ((va_up (mS3 (mS2 s e U S) e S).1 0 1, (mS3 (mS2 s e U S) e S).2), 0) := by rw [mLink, mLinkB, if_neg h33]
      rw [hlk] at hO
      have hJ2 := hJ.ag ag2 sub16
      have g2 : c2.2.2.2.2 = c.2.2.2.2 := ag2.2.2.2.2
      have e1 := hF2.1
      have e2 := hF2.2.1
      have hS32 : (mS3 (mS2 s e U S) e S).2 = (va_up s.2.1 3 (mTake s e U S), s.2.2) := mS3_2 _ _ _
      have hPT : ∀ fs, (∃ fs2, (ax_new h2 (.inr (9, fs)) 6).2.2 h2.1 = some (.inr (9, fs2))) ∧ cC o (va_up (mS3 (mS2 s e U S) e S).1 0 1, (mS3 (mS2 s e U S) e S).2) e U S W T B n (ax_new h2 (.inr (9, fs)) 6) ∧ lawF (o + 17) (o + 53) h (ax_new h2 (.inr (9, fs)) 6) := by
        intro fs
        rw [hS32]
        refine ⟨⟨fs, ax_new_self _ _⟩, ⟨c2, hR2.thrown _ _, hJ2, ?_, ⟨?_, fun q hq => ?_, by rw [g2]; exact kNS⟩, ?_, ⟨(ag2.1 14 (by decide)).trans hKb.1, fun i hi => ?_, fun i => ?_⟩, ?_⟩, ?_⟩
        · exact hKi.to (ag2.2.1 9 (by decide)) (ag2.2.1 10 (by decide)) (ag2.2.1 12 (by decide)) (ag2.2.1 13 (by decide)) (ag2.2.1 14 (by decide)) (ag2.2.1 15 (by decide)) (ag2.2.2.1 11 (by decide)) (ag2.1 53 (by decide)) (ag2.1 54 (by decide)) (ha 38 (by decide)) (ha 39 (by decide)) (ha 42 (by decide)) (ha 43 (by decide)) (fun k hk => rfl) rfl rfl rfl rfl rfl rfl
        · obtain ⟨J, j1, j2⟩ := hKn.1
          exact ⟨J, j1, (ha 36 (by decide)).trans j2⟩
        · rw [ag2.2.1 27 (by decide), hKn.2.1 q hq]
          show zI (nI (q / 4) < s.1 36 ∧ ¬ s.2.1 28 q = 0) = zI (nI (q / 4) < (mS3 (mS2 s e U S) e S).1 36 ∧ ¬ s.2.1 28 q = 0)
          rw [ha 36 (by decide)]
        · exact hf
        · rw [ag2.2.1 6 (by decide)]; exact hKb.2.1 i hi
        · rw [ag2.2.1 6 (by decide)]; exact hKb.2.2 i
        · exact cRm.thrown (show cRm o (n + 1) h2 from ⟨by rw [e1]; exact hr1, by rw [e2]; exact hr2⟩) _
        · have t1 := hF2.law
          have t2 := lawF.thrown (o := o) (h := h2) (by rw [e1]; exact hR.h54) (.inr (9, fs)) 6
          exact ⟨fun k hk => (t2.1 k hk).trans (t1.1 k hk), t2.2.trans t1.2⟩
      have f1 : c2.1 50 = (mS3 (mS2 s e U S) e S).1 33 := hf.1
      cases r with
      | none =>
        refine aw_ls (ls' := [some (.ref o), some .null]) rfl ?_
        refine aw_aloadV_n d_L_link_44 rfl rfl (by first | exact Or.inl ⟨_, rfl⟩ | exact Or.inr rfl | exact rv_Q _) ?_
        refine aw_ifnullN (tgt := 75) d_L_link_45 (by decide) ?_
        refine aw_aloadV_n d_L_link_75 rfl rfl (by first | exact Or.inl ⟨_, rfl⟩ | exact Or.inr rfl | exact rv_Q _) ?_
        refine aw_get cl_L fl_L_47 (by decide) hR2.obj rfl d_L_link_76 ?_
        refine aw_getE cl_Fault fl_L_204 (by decide) hR2.flt rfl (congrArg Value.int f1) d_L_link_79 ?_
        refine aw_if_ne (tgt := 107) d_L_link_82 (by decide) (fun c82 => ?_) (fun c82 => ?_)
        · refine aw_aloadV_n d_L_link_107 rfl rfl (by first | exact Or.inl ⟨_, rfl⟩ | exact Or.inr rfl | exact rv_Q _) ?_
          refine aw_get cl_L fl_L_47 (by decide) hR2.obj rfl d_L_link_108 ?_
          refine aw_getE cl_Fault fl_L_204 (by decide) hR2.flt rfl (congrArg Value.int f1) d_L_link_111 ?_
          refine aw_if_eq (tgt := 127) d_L_link_114 (by decide) (fun c114 => ?_) (fun c114 => ?_)
          · exact absurd c114 h33
          · refine aw_throw (names := ["java/lang/Exception"]) cl_JIllegalStateException hO kl_L_221 ni_JIllegalStateException ii_JIllegalStateException wd_s223 (by decide) (by decide) Bundle.six_0 Bundle.six_1 Bundle.six_2 Bundle.six_5 wd_atI hsz z1 z2 hfl (by rw [hG]; omega) (by omega) (by decide) (Nat.le_of_ble_eq_true rfl) d_L_link_117 d_L_link_120 d_L_link_121 d_L_link_123 d_L_link_126 (fun fs => ?_)
            exact hPT fs
        · exact absurd c82 h33
      | some r =>
        refine aw_ls (ls' := [some (.ref o), some (.ref r)]) rfl ?_
        refine aw_aloadV_n d_L_link_44 rfl rfl (by first | exact Or.inl ⟨_, rfl⟩ | exact Or.inr rfl | exact rv_Q _) ?_
        refine aw_ifnull d_L_link_45 ?_
        refine aw_aloadV_n d_L_link_48 rfl rfl (by first | exact Or.inl ⟨_, rfl⟩ | exact Or.inr rfl | exact rv_Q _) ?_
        refine aw_get cl_L fl_L_47 (by decide) hR2.obj rfl d_L_link_49 ?_
        refine aw_getE cl_Fault fl_L_204 (by decide) hR2.flt rfl (congrArg Value.int f1) d_L_link_52 ?_
        refine aw_if_ne (tgt := 75) d_L_link_55 (by decide) (fun c55 => ?_) (fun c55 => ?_)
        · refine aw_aloadV_n d_L_link_75 rfl rfl (by first | exact Or.inl ⟨_, rfl⟩ | exact Or.inr rfl | exact rv_Q _) ?_
          refine aw_get cl_L fl_L_47 (by decide) hR2.obj rfl d_L_link_76 ?_
          refine aw_getE cl_Fault fl_L_204 (by decide) hR2.flt rfl (congrArg Value.int f1) d_L_link_79 ?_
          refine aw_if_ne (tgt := 107) d_L_link_82 (by decide) (fun c82 => ?_) (fun c82 => ?_)
          · refine aw_aloadV_n d_L_link_107 rfl rfl (by first | exact Or.inl ⟨_, rfl⟩ | exact Or.inr rfl | exact rv_Q _) ?_
            refine aw_get cl_L fl_L_47 (by decide) hR2.obj rfl d_L_link_108 ?_
            refine aw_getE cl_Fault fl_L_204 (by decide) hR2.flt rfl (congrArg Value.int f1) d_L_link_111 ?_
            refine aw_if_eq (tgt := 127) d_L_link_114 (by decide) (fun c114 => ?_) (fun c114 => ?_)
            · exact absurd c114 h33
            · refine aw_throw (names := ["java/lang/Exception"]) cl_JIllegalStateException hO kl_L_221 ni_JIllegalStateException ii_JIllegalStateException wd_s223 (by decide) (by decide) Bundle.six_0 Bundle.six_1 Bundle.six_2 Bundle.six_5 wd_atI hsz z1 z2 hfl (by rw [hG]; omega) (by omega) (by decide) (Nat.le_of_ble_eq_true rfl) d_L_link_117 d_L_link_120 d_L_link_121 d_L_link_123 d_L_link_126 (fun fs => ?_)
              exact hPT fs
          · exact absurd c82 h33
        · exact absurd c55 h33

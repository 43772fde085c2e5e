/-- the same, where what is read is the same -/
theorem mHy.tr {t t2 : mSt} {e : Nat → Nat → Nat} {U S W T B : Nat} (h : mHy t e U S W T B) (e1 : ∀ k, k < 5 → 0 < k → t2.1 k = t.1 k) (e2 : ∀ k, k = 5 ∨ k = 6 ∨ k = 11 ∨ k = 13 ∨ (16 ≤ k ∧ k < 23) ∨ k = 25 → t2.2.1 k = t.2.1 k) : mHy t2 e U S W T B := by
  obtain ⟨a1, a2, a3, a4, a5, a6, a7, a8, a9, b1, b2, b3, b4, b5, b6, b7⟩ := h
  refine ⟨(e1 1 (by decide) (by decide)).trans a1, a2, (e1 2 (by decide) (by decide)).trans a3, a4, (e1 3 (by decide) (by decide)).trans a5, a6, (e1 4 (by decide) (by decide)).trans a7, a8, a9, ?_, ?_, ?_, ?_, ?_, ?_, ?_⟩
  · unfold mI1; rw [e2 5 (by decide), e2 6 (by decide)]; exact b1
  · unfold mI2; rw [e2 11 (by decide)]; exact b2
  · unfold mI3; rw [e2 13 (by decide)]; exact b3
  · unfold mI4; rw [e2 17 (by decide), e2 18 (by decide), e2 22 (by decide)]; exact b4
  · unfold mI5; rw [e2 25 (by decide)]; exact b5
  · rw [e2 19 (by decide), e2 20 (by decide)]; exact b6
  · rw [e2 16 (by decide)]; exact b7
abbrev mMade (t : mSt) (e : Nat → Nat → Nat) (E : Nat) : mSt := (va_up t.1 38 1, va_up t.2.1 30 (va_up (t.2.1 30) 5 (mLab1 (t.2.1 7) (t.2.1 14) e E)), t.2.2)
def mImg (t : mSt) (e : Nat → Nat → Nat) (U S W : Nat) : Nat → Int32 := mPkL t e S W 0 (mCpL t e (4 * U) 0 (mFill (fun _ => 0) (t.2.1 29) 262144))
def mDone (t : mSt) (e : Nat → Nat → Nat) (U S W T E : Nat) : mSt := mKeepN (mIm (mMade t e E) (mImg (mMade t e E) e U S W)) e S T
set_option maxRecDepth 20000 in
theorem t_M_link3 {G : ax_G} {x : ax_X} {h0 : ax_H} {P : Option Value → ax_H → Prop} {m : Nat} (t : mSt) (e : Nat → Nat → Nat) (U S W T B : Nat) (H : mHy t e U S W T B) (hA : mHA t e U) (hq : ax_H) (q2 q3 q4 q5 q6 q7 q8 q10 q11 q12 q13 q14 : Option Value) (z9 : Int32) (E : Nat) (hE : E < S) (hE0 : 0 ≤ t.2.1 13 E) (h : ax_H) (hR : mR m t h) (hF : mFr m hq h) (hp : ∀ h2, mR m (va_up (mDone t e U S W T E).1 0 0, (mDone t e U S W T E).2) h2 → mFr m hq h2 → P (some (.int ((mDone t e U S W T E).1 39))) h2) : AW G x Y_M_link 5 122 h0 P h 245 [some (.ref m), some (.int (nI E)), q2, q3, q4, q5, q6, q7, q8, some (.int z9), q10, q11, q12, q13, q14] [] := by
  have H1 : mHy (mMade t e E) e U S W T B := H
  have hA1 : mHA (mMade t e E) e U := hA
  first | refine aw_aload_n d_M_link_245 rfl rfl ?_ | refine aw_aload_nQ d_M_link_245 rfl rfl ?_ | refine aw_aload_nN d_M_link_245 rfl rfl ?_
  refine aw_iconst (v := 1) d_M_link_246 (by decide) ?_
  refine aM_put (by assumption) fl_M_224 (by decide) rfl rfl rfl rfl d_M_link_247 (fun g247 hR247 hF247 => ?_)
  first | refine aw_aload_n d_M_link_250 rfl rfl ?_ | refine aw_aload_nQ d_M_link_250 rfl rfl ?_ | refine aw_aload_nN d_M_link_250 rfl rfl ?_
  refine aM_get (by assumption) fl_M_105 (by decide) rfl d_M_link_251 ?_
  refine aw_iconst (v := 5) d_M_link_254 (by decide) ?_
  first | refine aw_aload_n d_M_link_255 rfl rfl ?_ | refine aw_aload_nQ d_M_link_255 rfl rfl ?_ | refine aw_aload_nN d_M_link_255 rfl rfl ?_
  refine aw_iload_n d_M_link_256 rfl rfl ?_
  refine aw_callV (c_M_label G _ m _ hR247 e U S H.hUb H.hSb H.i2 H.i3 E hE hE0) cl_M (mR.obj (by assumption)) m_M_labelAddress ml_M_195 rfl rfl (by decide) (by decide) (Nat.le_of_ble_eq_true rfl) d_M_link_257 ?_
  rintro v h' ⟨rfl, rfl⟩
  refine aM_iast (by assumption) (by decide) rfl (show _ = nI 5 from rfl) (show 5 < 7 by decide) (by decide) d_M_link_260 (fun g260 hR260 hF260 => ?_)
  refine aw_iconst (v := 0) d_M_link_261 (by decide) ?_
  refine aw_istore d_M_link_262 (by decide) rfl ?_
  have hR0 : mR m (mIm (mMade t e E) (mFill (fun _ => 0) (t.2.1 29) 0)) g260 := by
    rw [mFill_0]
    show mR m (va_up t.1 38 1, va_up (mMade t e E).2.1 29 ((mMade t e E).2.1 29), t.2.2) g260
    rw [mUs]
    exact hR260
  refine l_M_zero (mMade t e E) hq _ _ _ _ _ _ _ _ _ _ _ _ _ (fun h2 q10 hRb hFb => ?_) 262144 0 _ (by omega) hR0 ((hF.tr hF247).tr hF260)
  refine aw_iconst (v := 0) d_M_link_285 (by decide) ?_
  refine aw_istore d_M_link_286 (by decide) rfl ?_
  refine l_M_cp (mMade t e E) e U S W T B H1 hA1 hq _ _ _ _ _ _ _ _ _ _ _ _ _ (fun h3 q10 q11 hRc hFc => ?_) (4 * U) 0 _ _ _ (by omega) hRb hFb rfl
  refine aw_iconst (v := 0) d_M_link_374 (by decide) ?_
  refine aw_istore d_M_link_375 (by decide) rfl ?_
  refine l_M_wt (mMade t e E) e U S W T B H1 hA1 hq _ _ _ _ _ _ _ _ _ (mImg (mMade t e E) e U S W) (fun h4 q10 q11 q12 q13 q14 hRd hFd => ?_) W 0 _ _ _ _ _ _ (by omega) hRc hFc rfl
  refine t_M_link4 (mIm (mMade t e E) (mImg (mMade t e E) e U S W)) e U S W T B H _ _ _ _ _ _ _ _ _ _ _ _ _ _ _ hRd (fun h5 r1 r2 => hp _ r1 (hFd.tr r2))

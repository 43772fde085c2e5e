/-- what meant answers: none, or a label of a unit that is taken, of this name -/
def mLab (tk : Nat → Int32) (g : mTab) (w : Int64) (n : Int32) (z : Int32) : Prop := z = -1 ∨ ∃ j, j < g.2.2.2.2.2 ∧ z = nI j ∧ 0 ≤ g.2.1 j ∧ mHit tk g w n j ∧ (mGlob g j ∨ mWeak g j)
theorem mMeantL_lab (tk : Nat → Int32) (g : mTab) (w : Int64) (n : Int32) : ∀ r k z, k + r = g.2.2.2.2.2 → mLab tk g w n z → mLab tk g w n (mMeantL tk g w n r k z) := by
  intro r
  induction r with
  | zero => exact fun k z _ h => h
  | succ r ih =>
    intro k z hk h
    rw [mMeantL]
    by_cases h1 : mHit tk g w n k
    · rw [if_pos h1]
      by_cases h2 : mGlob g k
      · rw [if_pos h2]
        exact Or.inr ⟨k, by omega, rfl, h2.1, h1, Or.inl h2⟩
      · rw [if_neg h2]
        refine ih (k + 1) _ (by omega) ?_
        by_cases h3 : mWeak g k ∧ z < 0
        · rw [if_pos h3]
          exact Or.inr ⟨k, by omega, rfl, h3.1.1, h1, Or.inr h3.1⟩
        · rw [if_neg h3]
          exact h
    · rw [if_neg h1]
      exact ih (k + 1) z (by omega) h
theorem mMeant_lab (tk : Nat → Int32) (g : mTab) (w : Int64) (n : Int32) : mLab tk g w n (mMeant tk g w n) := mMeantL_lab tk g w n _ 0 (-1) (by omega) (Or.inl rfl)
/-- what standsFor answers -/
theorem mStands_lab (tk : Nat → Int32) (g : mTab) (k : Nat) (hk : k < g.2.2.2.2.2) : (mStands tk g k < 0 ∧ (mStands tk g k = -2 ∨ mStands tk g k = -1)) ∨ ∃ j, j < g.2.2.2.2.2 ∧ mStands tk g k = nI j ∧ 0 ≤ g.2.1 j := by
  rw [mStands]
  by_cases h1 : 0 ≤ g.2.1 k ∧ g.1 k < 2
  · rw [if_pos h1]
    exact Or.inr ⟨k, hk, rfl, h1.1⟩
  · rw [if_neg h1]
    by_cases h2 : 0 ≤ mMeant tk g (g.2.2.2.1 k) (g.2.2.1 k)
    · rw [if_pos h2]
      rcases mMeant_lab tk g (g.2.2.2.1 k) (g.2.2.1 k) with h3 | ⟨j, h3, h4, h5, -⟩
      · rw [h3] at h2
        exact absurd h2 (by decide)
      · exact Or.inr ⟨j, h3, h4, h5⟩
    · rw [if_neg h2]
      by_cases h3 : 1 < g.1 k
      · rw [if_pos h3]
        exact Or.inl ⟨by decide, Or.inl rfl⟩
      · rw [if_neg h3]
        exact Or.inl ⟨by decide, Or.inr rfl⟩
/-- sections of symbols -/
def mI3 (s : mSt) (e : Nat → Nat → Nat) (S : Nat) : Prop := ∀ k, k < S → s.2.1 13 k = -1 ∨ (e 13 k < 4 ∧ s.2.1 13 k = nI (e 13 k))
/-- what waits: its unit, section; what it waits for -/
def mI4 (s : mSt) (e : Nat → Nat → Nat) (U S W : Nat) : Prop := ∀ w, w < W → (s.2.1 17 w = nI (e 17 w) ∧ e 17 w < U) ∧ (s.2.1 18 w = nI (e 18 w) ∧ e 18 w < 3) ∧ ((e 22 w = 0 ∧ s.2.1 22 w = -1) ∨ (∃ c, c < 4 ∧ e 22 w = c + 1 ∧ s.2.1 22 w = -2 - nI c) ∨ ∃ k, k < S ∧ e 22 w = k + 5 ∧ s.2.1 22 w = nI k)
theorem mI3.lab {s : mSt} {e : Nat → Nat → Nat} {S k : Nat} (h : mI3 s e S) (hk : k < S) (h0 : 0 ≤ s.2.1 13 k) : e 13 k < 4 ∧ s.2.1 13 k = nI (e 13 k) := (h k hk).resolve_left (fun q => by rw [q] at h0; exact absurd h0 (by decide))
/-- the needed ones at first: of the first j -/
def mNd0 (U : Nat) (tk kp old : Nat → Int32) (j : Nat) : Nat → Int32 := fun q => if q < j then (if q < 4 * U ∧ ¬ tk (q / 4) = 0 ∧ ¬ kp q = 0 then 1 else 0) else old q
theorem mNd0_0 (U : Nat) (tk kp old : Nat → Int32) : mNd0 U tk kp old 0 = old := by
  funext u
  rw [mNd0, if_neg (by omega)]
theorem mNd0_s (U : Nat) (tk kp old : Nat → Int32) (j : Nat) : va_up (mNd0 U tk kp old j) j (if j < 4 * U ∧ ¬ tk (j / 4) = 0 ∧ ¬ kp j = 0 then 1 else 0) = mNd0 U tk kp old (j + 1) := by
  funext u
  by_cases hu : u = j
  · subst hu
    rw [va_up_self, mNd0]
    exact (if_pos (Nat.lt_succ_self u)).symm
  · rw [va_up_ne _ _ hu, mNd0, mNd0]
    by_cases q : u < j
    · rw [if_pos q, if_pos (show u < j + 1 by omega)]
    · rw [if_neg q, if_neg (show ¬ u < j + 1 by omega)]
set_option maxRecDepth 20000 in
theorem l_M_need0 {G : ax_G} {x : ax_X} {h0 : ax_H} {P : Option Value → ax_H → Prop} {m : Nat} (s : mSt) (U : Nat) (hU : s.1 1 = nI U) (hUb : U ≤ 32) (z1 : Int32) (hq : ax_H) (hk : ∀ h2 o2, mR m (s.1, va_up s.2.1 4 (mNd0 U (s.2.1 3) (s.2.1 2) (s.2.1 4) 128), s.2.2) h2 → mFr m hq h2 → AW G x Y_M_findNeeded 3 68 h0 P h2 56 [some (.ref m), some (.int z1), some (.int o2), none, none, none, none, none] []) : ∀ r j h, j + r = 128 → mR m (s.1, va_up s.2.1 4 (mNd0 U (s.2.1 3) (s.2.1 2) (s.2.1 4) j), s.2.2) h → mFr m hq h → AW G x Y_M_findNeeded 3 68 h0 P h 2 [some (.ref m), some (.int z1), some (.int (nI j)), none, none, none, none, none] [] := by
  intro r
  induction r with
  | zero =>
    intro j h hj hR hF
    have hjj : j = 128 := by omega
    subst hjj
    refine aw_iload_n d_M_findNeeded_2 rfl rfl ?_
    refine aw_sipush (v := 128) d_M_findNeeded_3 (by decide) ?_
    refine aw_icmp_ge (tgt := 56) d_M_findNeeded_6 (by decide) (fun c6 => ?_) (fun c6 => ?_)
    · exact hk _ _ hR hF
    · exact absurd (by decide) c6
  | succ r ih =>
    intro j h hj hR hF
    have e4 : 4 * s.1 1 = nI (4 * U) := by rw [hU, show (4 : Int32) = nI 4 from rfl, pk_mul]
    have ed : nI j / 4 = nI (j / 4) := pk_div (a := j) (d := 4) (by omega) (by decide) (by decide)
    refine aw_iload_n d_M_findNeeded_2 rfl rfl ?_
    refine aw_sipush (v := 128) d_M_findNeeded_3 (by decide) ?_
    refine aw_icmp_ge (tgt := 56) d_M_findNeeded_6 (by decide) (fun c6 => ?_) (fun c6 => ?_)
    · exact absurd c6 (nI_ge (a := j) (b := 128) (by omega) (by decide))
    · first | refine aw_aload_n d_M_findNeeded_9 rfl rfl ?_ | refine aw_aload_nQ d_M_findNeeded_9 rfl rfl ?_ | refine aw_aload_nN d_M_findNeeded_9 rfl rfl ?_
      refine aM_get (by assumption) fl_M_19 (by decide) rfl d_M_findNeeded_10 ?_
      refine aw_iload_n d_M_findNeeded_13 rfl rfl ?_
      refine aw_iload_n d_M_findNeeded_14 rfl rfl ?_
      refine aw_iconst (v := 4) d_M_findNeeded_15 (by decide) ?_
      first | refine aw_aload_n d_M_findNeeded_16 rfl rfl ?_ | refine aw_aload_nQ d_M_findNeeded_16 rfl rfl ?_ | refine aw_aload_nN d_M_findNeeded_16 rfl rfl ?_
      refine aM_get (by assumption) fl_M_126 (by decide) rfl d_M_findNeeded_17 ?_
      refine aw_imul d_M_findNeeded_20 ?_
      refine aw_icmp_ge (tgt := 48) d_M_findNeeded_21 (by decide) (fun c21 => ?_) (fun c21 => ?_)
      · refine aw_iconst (v := 0) d_M_findNeeded_48 (by decide) ?_
        refine aM_zast (by assumption) (by decide) rfl rfl (show j < 128 by omega) (by decide) d_M_findNeeded_49 (fun g49 hR49 hF49 => ?_)
        refine aw_iinc (v := nI (j + 1)) d_M_findNeeded_50 rfl (ax_inc j) (by decide) rfl ?_
        refine aw_goto (tgt := 2) d_M_findNeeded_53 (by decide) ?_
        have c21 : 4 * s.1 1 ≤ nI j := c21
        rw [e4] at c21
        refine ih (j + 1) _ (by omega) ?_ (hF.tr hF49)
        have hR49 : mR m (s.1, va_up (va_up s.2.1 4 (mNd0 U (s.2.1 3) (s.2.1 2) (s.2.1 4) j)) 4 (va_up (mNd0 U (s.2.1 3) (s.2.1 2) (s.2.1 4) j) j (0 &&& 1)), s.2.2) g49 := hR49
        rw [bx_uu, show ((0 : Int32) &&& 1) = (if j < 4 * U ∧ ¬ s.2.1 3 (j / 4) = 0 ∧ ¬ s.2.1 2 j = 0 then 1 else 0) by rw [if_neg (fun q => absurd q.1 (Nat.not_lt.mpr ((nI_leI (by omega) (by omega)).mp c21)))]; rfl, mNd0_s] at hR49
        exact hR49
      · first | refine aw_aload_n d_M_findNeeded_24 rfl rfl ?_ | refine aw_aload_nQ d_M_findNeeded_24 rfl rfl ?_ | refine aw_aload_nN d_M_findNeeded_24 rfl rfl ?_
        refine aM_get (by assumption) fl_M_16 (by decide) rfl d_M_findNeeded_25 ?_
        refine aw_iload_n d_M_findNeeded_28 rfl rfl ?_
        refine aw_iconst (v := 4) d_M_findNeeded_29 (by decide) ?_
        refine aw_idiv d_M_findNeeded_30 (by decide) ?_
        refine aM_zald (by assumption) (by decide) rfl ed (show j / 4 < 32 by omega) (by decide) d_M_findNeeded_31 ?_
        refine aw_if_eq (tgt := 48) d_M_findNeeded_32 (by decide) (fun c32 => ?_) (fun c32 => ?_)
        · refine aw_iconst (v := 0) d_M_findNeeded_48 (by decide) ?_
          refine aM_zast (by assumption) (by decide) rfl rfl (show j < 128 by omega) (by decide) d_M_findNeeded_49 (fun g49 hR49 hF49 => ?_)
          refine aw_iinc (v := nI (j + 1)) d_M_findNeeded_50 rfl (ax_inc j) (by decide) rfl ?_
          refine aw_goto (tgt := 2) d_M_findNeeded_53 (by decide) ?_
          refine ih (j + 1) _ (by omega) ?_ (hF.tr hF49)
          have hR49 : mR m (s.1, va_up (va_up s.2.1 4 (mNd0 U (s.2.1 3) (s.2.1 2) (s.2.1 4) j)) 4 (va_up (mNd0 U (s.2.1 3) (s.2.1 2) (s.2.1 4) j) j (0 &&& 1)), s.2.2) g49 := hR49
          rw [bx_uu, show ((0 : Int32) &&& 1) = (if j < 4 * U ∧ ¬ s.2.1 3 (j / 4) = 0 ∧ ¬ s.2.1 2 j = 0 then 1 else 0) by rw [if_neg (fun q => q.2.1 c32)]; rfl, mNd0_s] at hR49
          exact hR49
        · first | refine aw_aload_n d_M_findNeeded_35 rfl rfl ?_ | refine aw_aload_nQ d_M_findNeeded_35 rfl rfl ?_ | refine aw_aload_nN d_M_findNeeded_35 rfl rfl ?_
          refine aM_get (by assumption) fl_M_13 (by decide) rfl d_M_findNeeded_36 ?_
          refine aw_iload_n d_M_findNeeded_39 rfl rfl ?_
          refine aM_zald (by assumption) (by decide) rfl rfl (show j < 128 by omega) (by decide) d_M_findNeeded_40 ?_
          refine aw_if_eq (tgt := 48) d_M_findNeeded_41 (by decide) (fun c41 => ?_) (fun c41 => ?_)
          · refine aw_iconst (v := 0) d_M_findNeeded_48 (by decide) ?_
            refine aM_zast (by assumption) (by decide) rfl rfl (show j < 128 by omega) (by decide) d_M_findNeeded_49 (fun g49 hR49 hF49 => ?_)
            refine aw_iinc (v := nI (j + 1)) d_M_findNeeded_50 rfl (ax_inc j) (by decide) rfl ?_
            refine aw_goto (tgt := 2) d_M_findNeeded_53 (by decide) ?_
            refine ih (j + 1) _ (by omega) ?_ (hF.tr hF49)
            have hR49 : mR m (s.1, va_up (va_up s.2.1 4 (mNd0 U (s.2.1 3) (s.2.1 2) (s.2.1 4) j)) 4 (va_up (mNd0 U (s.2.1 3) (s.2.1 2) (s.2.1 4) j) j (0 &&& 1)), s.2.2) g49 := hR49
            rw [bx_uu, show ((0 : Int32) &&& 1) = (if j < 4 * U ∧ ¬ s.2.1 3 (j / 4) = 0 ∧ ¬ s.2.1 2 j = 0 then 1 else 0) by rw [if_neg (fun q => q.2.2 c41)]; rfl, mNd0_s] at hR49
            exact hR49
          · refine aw_iconst (v := 1) d_M_findNeeded_44 (by decide) ?_
            refine aw_goto (tgt := 49) d_M_findNeeded_45 (by decide) ?_
            refine aM_zast (by assumption) (by decide) rfl rfl (show j < 128 by omega) (by decide) d_M_findNeeded_49 (fun g49 hR49 hF49 => ?_)
            refine aw_iinc (v := nI (j + 1)) d_M_findNeeded_50 rfl (ax_inc j) (by decide) rfl ?_
            refine aw_goto (tgt := 2) d_M_findNeeded_53 (by decide) ?_
            have c21 : ¬ 4 * s.1 1 ≤ nI j := c21
            rw [e4] at c21
            refine ih (j + 1) _ (by omega) ?_ (hF.tr hF49)
            have hR49 : mR m (s.1, va_up (va_up s.2.1 4 (mNd0 U (s.2.1 3) (s.2.1 2) (s.2.1 4) j)) 4 (va_up (mNd0 U (s.2.1 3) (s.2.1 2) (s.2.1 4) j) j (1 &&& 1)), s.2.2) g49 := hR49
            rw [bx_uu, show ((1 : Int32) &&& 1) = (if j < 4 * U ∧ ¬ s.2.1 3 (j / 4) = 0 ∧ ¬ s.2.1 2 j = 0 then 1 else 0) by rw [if_pos (show j < 4 * U ∧ ¬ s.2.1 3 (j / 4) = 0 ∧ ¬ s.2.1 2 j = 0 from ⟨Nat.lt_of_not_le (fun q => c21 (nI_le q (by omega))), c32, c41⟩)]; rfl, mNd0_s] at hR49
            exact hR49
